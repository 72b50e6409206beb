/-! ISLANDS in the abstract: neighbours, what hangs together, the lowest cell of it. -/
section GR
def cel (c r k : Int) : Prop := 0 ≤ k ∧ k < c * r
theorem nb_xy {c r x y w : Int} (hx : 0 ≤ x ∧ x < c) : nb c r (y * c + x) w = if w = 0 then (if x < c - 1 then y * c + (x + 1) else -1) else if w = 1 then (if y < r - 1 then (y + 1) * c + x else -1) else if w = 2 then (if 0 < x then y * c + (x - 1) else -1) else (if 0 < y then (y - 1) * c + x else -1) := by
  unfold nb
  rw [(dm_xy (y := y) hx).1, (dm_xy (y := y) hx).2, Int.add_mul, Int.sub_mul, Int.one_mul]
  repeat' split
  all_goals first | rfl | omega
/-- a cell by its column and row -/
theorem cel_xy {c r k : Int} (hd : dim c r) (hk : cel c r k) : ∃ x y : Int, (0 ≤ x ∧ x < c) ∧ (0 ≤ y ∧ y < r) ∧ k = y * c + x := by
  have h := dim_k hd hk
  exact ⟨k % c, k / c, ⟨h.1, h.2.1⟩, ⟨h.2.2.1, h.2.2.2.1⟩, h.2.2.2.2⟩
theorem xy_cel {c r x y : Int} (hd : dim c r) (hx : 0 ≤ x ∧ x < c) (hy : 0 ≤ y ∧ y < r) : cel c r (y * c + x) := by
  have := dim_at hd hx hy; exact ⟨this.1, this.2.1⟩
theorem nb_back {c r k w : Int} (hd : dim c r) (hk : cel c r k) (hw : 0 ≤ w ∧ w < 4) (h : nb c r k w ≠ -1) : cel c r (nb c r k w) ∧ nb c r (nb c r k w) ((w + 2) % 4) = k := by
  obtain ⟨x, y, hx, hy, rfl⟩ := cel_xy hd hk
  rw [nb_xy hx] at h ⊢
  rcases (show w = 0 ∨ w = 1 ∨ w = 2 ∨ w = 3 by omega) with rfl | rfl | rfl | rfl
  · simp only [if_true] at h ⊢
    by_cases c1 : x < c - 1
    · rw [if_pos c1] at h ⊢
      refine ⟨xy_cel hd (by omega) hy, ?_⟩
      rw [nb_xy (by omega)]
      rw [if_neg (by decide), if_neg (by decide), if_pos (by decide), if_pos (by omega), show x + 1 - 1 = x by omega]
    · rw [if_neg c1] at h; exact absurd rfl h
  · rw [if_neg (by decide), if_pos rfl] at h ⊢
    by_cases c1 : y < r - 1
    · rw [if_pos c1] at h ⊢
      refine ⟨xy_cel hd hx (by omega), ?_⟩
      rw [nb_xy hx]
      rw [if_neg (by decide), if_neg (by decide), if_neg (by decide), if_pos (by omega), show y + 1 - 1 = y by omega]
    · rw [if_neg c1] at h; exact absurd rfl h
  · rw [if_neg (by decide), if_neg (by decide), if_pos rfl] at h ⊢
    by_cases c1 : 0 < x
    · rw [if_pos c1] at h ⊢
      refine ⟨xy_cel hd (by omega) hy, ?_⟩
      rw [nb_xy (by omega)]
      rw [if_pos (by decide), if_pos (by omega), show x - 1 + 1 = x by omega]
    · rw [if_neg c1] at h; exact absurd rfl h
  · rw [if_neg (by decide), if_neg (by decide), if_neg (by decide)] at h ⊢
    by_cases c1 : 0 < y
    · rw [if_pos c1] at h ⊢
      refine ⟨xy_cel hd hx (by omega), ?_⟩
      rw [nb_xy hx]
      rw [if_neg (by decide), if_pos (by decide), if_pos (by omega), show y - 1 + 1 = y by omega]
    · rw [if_neg c1] at h; exact absurd rfl h
def adj (c r a b : Int) : Prop := ∃ w : Int, (0 ≤ w ∧ w < 4) ∧ nb c r a w = b ∧ b ≠ -1
theorem adj_symm {c r a b : Int} (hd : dim c r) (ha : cel c r a) : adj c r a b → cel c r b ∧ adj c r b a := by
  rintro ⟨w, hw, h1, h2⟩
  subst h1
  have := nb_back hd ha hw h2
  exact ⟨this.1, (w + 2) % 4, by omega, this.2, by have := ha.1; omega⟩
/-- a set that is closed by neighbours holds all cells -/
theorem adj_all {c r : Int} (hd : dim c r) {P : Int → Prop} (hP : ∀ a b, cel c r a → P a → adj c r a b → P b) {a : Int} (ha : cel c r a) (h : P a) : ∀ b, cel c r b → P b := by
  have stp : ∀ k w : Int, cel c r k → P k → (0 ≤ w ∧ w < 4) → nb c r k w ≠ -1 → P (nb c r k w) := fun k w hk hp hw hn => hP k _ hk hp ⟨w, hw, rfl, hn⟩
  have west : ∀ (n : Nat) (x y : Int), x = n → (0 ≤ x ∧ x < c) → (0 ≤ y ∧ y < r) → P (y * c + x) → P (y * c + 0) := by
    intro n
    induction n with
    | zero => intro x y e _ _ h; rw [show x = 0 by omega] at h; exact h
    | succ n ih =>
      intro x y e hx hy h
      have e2 : nb c r (y * c + x) 2 = y * c + (x - 1) := by rw [nb_xy hx, if_neg (by decide), if_neg (by decide), if_pos rfl, if_pos (by omega)]
      have hc := xy_cel hd (show 0 ≤ x - 1 ∧ x - 1 < c by omega) hy
      have := stp _ 2 (xy_cel hd hx hy) h (by omega) (by rw [e2]; have := hc.1; omega)
      rw [e2] at this
      exact ih (x - 1) y (by omega) (by omega) hy this
  have north : ∀ (n : Nat) (y : Int), y = n → (0 ≤ y ∧ y < r) → P (y * c + 0) → P (0 * c + 0) := by
    intro n
    induction n with
    | zero => intro y e _ h; rw [show y = 0 by omega] at h; exact h
    | succ n ih =>
      intro y e hy h
      have hx : (0 : Int) ≤ 0 ∧ 0 < c := ⟨by omega, by have := hd.1; omega⟩
      have e2 : nb c r (y * c + 0) 3 = (y - 1) * c + 0 := by rw [nb_xy hx, if_neg (by decide), if_neg (by decide), if_neg (by decide), if_pos (by omega)]
      have hc := xy_cel hd hx (show 0 ≤ y - 1 ∧ y - 1 < r by omega)
      have := stp _ 3 (xy_cel hd hx hy) h (by omega) (by rw [e2]; have := hc.1; omega)
      rw [e2] at this
      exact ih (y - 1) (by omega) (by omega) this
  have south : ∀ (n : Nat) (y : Int), y = n → (0 ≤ y ∧ y < r) → P (0 * c + 0) → P (y * c + 0) := by
    intro n
    induction n with
    | zero => intro y e _ h; rw [show y = 0 by omega]; exact h
    | succ n ih =>
      intro y e hy h
      have hx : (0 : Int) ≤ 0 ∧ 0 < c := ⟨by omega, by have := hd.1; omega⟩
      have h2 := ih (y - 1) (by omega) (by omega) h
      have e2 : nb c r ((y - 1) * c + 0) 1 = (y - 1 + 1) * c + 0 := by rw [nb_xy hx, if_neg (by decide), if_pos rfl, if_pos (by omega)]
      rw [show y - 1 + 1 = y by omega] at e2
      have hc := xy_cel hd hx hy
      have := stp _ 1 (xy_cel hd hx (by omega)) h2 (by omega) (by rw [e2]; have := hc.1; omega)
      rw [e2] at this
      exact this
  have east : ∀ (n : Nat) (x y : Int), x = n → (0 ≤ x ∧ x < c) → (0 ≤ y ∧ y < r) → P (y * c + 0) → P (y * c + x) := by
    intro n
    induction n with
    | zero => intro x y e _ _ h; rw [show x = 0 by omega]; exact h
    | succ n ih =>
      intro x y e hx hy h
      have h2 := ih (x - 1) y (by omega) (by omega) hy h
      have e2 : nb c r (y * c + (x - 1)) 0 = y * c + (x - 1 + 1) := by rw [nb_xy (by omega), if_pos rfl, if_pos (by omega)]
      rw [show x - 1 + 1 = x by omega] at e2
      have hc := xy_cel hd hx hy
      have := stp _ 0 (xy_cel hd (by omega) hy) h2 (by omega) (by rw [e2]; have := hc.1; omega)
      rw [e2] at this
      exact this
  intro b hb
  obtain ⟨x, y, hx, hy, rfl⟩ := cel_xy hd ha
  obtain ⟨u, v, hu, hv, rfl⟩ := cel_xy hd hb
  exact east u.toNat u v (by omega) hu hv (south v.toNat v (by omega) hv (north y.toNat y (by omega) hy (west x.toNat x y (by omega) hx hy h)))
/-- what hangs together by steps -/
def rch (E : Int → Int → Prop) : Nat → Int → Int → Prop
  | 0, a, b => a = b
  | n + 1, a, b => ∃ m, rch E n a m ∧ E m b
def con (E : Int → Int → Prop) (a b : Int) : Prop := ∃ n, rch E n a b
section
variable {E : Int → Int → Prop}
theorem con_refl (a : Int) : con E a a := ⟨0, rfl⟩
theorem con_step {a m b : Int} (h : con E a m) (e : E m b) : con E a b := by obtain ⟨n, h⟩ := h; exact ⟨n + 1, m, h, e⟩
theorem con_one {a b : Int} (e : E a b) : con E a b := con_step (con_refl a) e
theorem con_inv {P : Int → Prop} (hs : ∀ x y, P x → E x y → P y) {a b : Int} (ha : P a) (h : con E a b) : P b := by
  obtain ⟨n, h⟩ := h
  induction n generalizing b with
  | zero => have : a = b := h; exact this ▸ ha
  | succ n ih => obtain ⟨m, h1, h2⟩ := h; exact hs m b (ih h1) h2
theorem con_trans {a b d : Int} (h1 : con E a b) (h2 : con E b d) : con E a d := con_inv (P := fun x => con E a x) (fun _ _ h e => con_step h e) h1 h2
theorem con_symm (hs : ∀ a b, E a b → E b a) {a b : Int} (h : con E a b) : con E b a := con_inv (P := fun x => con E x a) (fun x y h e => con_trans (con_one (hs x y e)) h) (con_refl a) h
theorem con_mono {F : Int → Int → Prop} (h : ∀ a b, E a b → F a b) {a b : Int} (hc : con E a b) : con F a b := con_inv (P := fun x => con F a x) (fun _ _ h1 e => con_step h1 (h _ _ e)) (con_refl a) hc
end
theorem fstK_min {p : Int → Bool} : ∀ {m : Nat} {j : Nat}, (j : Int) < fstK p m → p j = false
  | 0, j, h => by simp [fstK] at h; omega
  | m + 1, j, h => by
    simp only [fstK] at h
    by_cases z : fstK p m = -1
    · rw [if_pos z] at h
      have hz := fstK_neg.mp z
      split at h
      · exact hz j (by omega)
      · omega
    · rw [if_neg z] at h; exact fstK_min h
theorem fstK_congr {p q : Int → Bool} : ∀ m : Nat, (∀ j : Nat, j < m → p j = q j) → fstK p m = fstK q m
  | 0, _ => rfl
  | m + 1, h => by simp only [fstK]; rw [fstK_congr m (fun j hj => h j (by omega)), h m (by omega)]
/-- true as a Bool, by choice -/
noncomputable def tr (p : Prop) : Bool := @decide p (Classical.propDecidable p)
theorem tr_t {p : Prop} : tr p = true ↔ p := by unfold tr; exact @decide_eq_true_iff p (Classical.propDecidable p)
theorem tr_f {p : Prop} : tr p = false ↔ ¬ p := by
  constructor
  · intro h hp
    rw [tr_t.mpr hp] at h
    cases h
  · intro h
    cases e : tr p
    · rfl
    · exact absurd (tr_t.mp e) h
theorem tr_iff {p q : Prop} (h : p ↔ q) : tr p = tr q := by rw [show p = q from propext h]
/-- the lowest that hangs together with k, of N cells -/
noncomputable def lowF (E : Int → Int → Prop) (N : Nat) (k : Int) : Int := fstK (fun j => tr (con E k j)) N
section
variable {E : Int → Int → Prop} {N : Nat}
theorem lowF_ok (hs : ∀ a b, E a b → E b a) (hc : ∀ a b, E a b → 0 ≤ b ∧ b < N) {k : Int} (hk : 0 ≤ k ∧ k < N) : (0 ≤ lowF E N k ∧ lowF E N k ≤ k) ∧ con E k (lowF E N k) ∧ (∀ j, con E k j → lowF E N k ≤ j) := by
  have h1 : lowF E N k ≠ -1 := fun h => by
    have := fstK_neg.mp h k.toNat (by omega)
    rw [Int.toNat_of_nonneg hk.1, tr_f] at this
    exact this (con_refl k)
  have h2 := fstK_rg (fun j => tr (con E k j)) N
  have h3 := tr_t.mp (fstK_spec h1)
  have h4 : ∀ j, con E k j → lowF E N k ≤ j := fun j hj => by
    have hjr : 0 ≤ j ∧ j < N := con_inv (P := fun x => 0 ≤ x ∧ x < (N : Int)) (fun x y _ e => hc x y e) hk hj
    refine Int.le_of_not_gt fun z => ?_
    have := fstK_min (p := fun j => tr (con E k j)) (m := N) (j := j.toNat) (by rw [Int.toNat_of_nonneg hjr.1]; exact z)
    rw [Int.toNat_of_nonneg hjr.1, tr_f] at this
    exact this hj
  refine ⟨⟨?_, h4 k (con_refl k)⟩, h3, h4⟩
  have : fstK (fun j => tr (con E k j)) N ≠ -1 := h1
  show 0 ≤ fstK (fun j => tr (con E k j)) N
  omega
theorem lowF_eq (hs : ∀ a b, E a b → E b a) {a b : Int} (h : con E a b) : lowF E N a = lowF E N b := by
  unfold lowF
  refine fstK_congr N fun j _ => tr_iff ⟨fun z => con_trans (con_symm hs h) z, fun z => con_trans h z⟩
theorem lowF_iff (hs : ∀ a b, E a b → E b a) (hc : ∀ a b, E a b → 0 ≤ b ∧ b < N) {a b : Int} (ha : 0 ≤ a ∧ a < N) (hb : 0 ≤ b ∧ b < N) : lowF E N a = lowF E N b ↔ con E a b :=
  ⟨fun h => con_trans (lowF_ok hs hc ha).2.1 (con_symm hs (h ▸ (lowF_ok hs hc hb).2.1)), lowF_eq hs⟩
end
/-- neighbours of one band -/
def EB (c r : Int) (B : Int → Int) (a b : Int) : Prop := cel c r a ∧ adj c r a b ∧ B a = B b
theorem EB_cel {c r a b : Int} {B : Int → Int} (hd : dim c r) (h : EB c r B a b) : cel c r b := (adj_symm hd h.1 h.2.1).1
theorem EB_symm {c r : Int} {B : Int → Int} (hd : dim c r) : ∀ a b, EB c r B a b → EB c r B b a := fun _ _ h => ⟨EB_cel hd h, (adj_symm hd h.1 h.2.1).2, h.2.2.symm⟩
theorem EB_N {c r : Int} {B : Int → Int} (hd : dim c r) : ∀ a b, EB c r B a b → 0 ≤ b ∧ b < ((c * r).toNat : Nat) := fun _ _ h => by
  have := EB_cel hd h
  have hc := dim_cells hd
  exact ⟨this.1, by have := this.2; omega⟩
theorem EB_congr {c r : Int} {B B' : Int → Int} (hd : dim c r) (h : ∀ k, cel c r k → B k = B' k) {a b : Int} (e : EB c r B a b) : EB c r B' a b := ⟨e.1, e.2.1, by rw [← h a e.1, ← h b (EB_cel hd e)]; exact e.2.2⟩
/-- the first cell of a cell's island -/
noncomputable def lw (c r : Int) (B : Int → Int) (k : Int) : Int := lowF (EB c r B) (c * r).toNat k
section
variable {c r : Int} {B B' : Int → Int}
theorem cel_N (hd : dim c r) {k : Int} (hk : cel c r k) : 0 ≤ k ∧ k < ((c * r).toNat : Nat) := by have := dim_cells hd; obtain ⟨h1, h2⟩ := hk; omega
theorem lw_ok (hd : dim c r) {k : Int} (hk : cel c r k) : cel c r (lw c r B k) ∧ lw c r B k ≤ k ∧ con (EB c r B) k (lw c r B k) ∧ (∀ j, con (EB c r B) k j → lw c r B k ≤ j) := by
  have h := lowF_ok (EB_symm (B := B) hd) (EB_N hd) (cel_N hd hk)
  have := hk.2
  exact ⟨⟨h.1.1, by have := h.1.2; unfold lw; omega⟩, h.1.2, h.2.1, h.2.2⟩
theorem lw_iff (hd : dim c r) {a b : Int} (ha : cel c r a) (hb : cel c r b) : lw c r B a = lw c r B b ↔ con (EB c r B) a b := lowF_iff (EB_symm hd) (EB_N hd) (cel_N hd ha) (cel_N hd hb)
theorem lw_eq (hd : dim c r) {a b : Int} (h : con (EB c r B) a b) : lw c r B a = lw c r B b := lowF_eq (EB_symm hd) h
theorem lw_lw (hd : dim c r) {k : Int} (hk : cel c r k) : lw c r B (lw c r B k) = lw c r B k := (lw_eq hd (lw_ok hd hk).2.2.1).symm
theorem con_band {a b : Int} (h : con (EB c r B) a b) : B a = B b := con_inv (P := fun x => B a = B x) (fun _ _ h e => h.trans e.2.2) rfl h
theorem con_cel (hd : dim c r) {a b : Int} (ha : cel c r a) (h : con (EB c r B) a b) : cel c r b := con_inv (P := fun x => cel c r x) (fun _ _ _ e => EB_cel hd e) ha h
theorem lw_band (hd : dim c r) {k : Int} (hk : cel c r k) : B (lw c r B k) = B k := (con_band (lw_ok hd hk).2.2.1).symm
theorem con_congr (hd : dim c r) (h : ∀ k, cel c r k → B k = B' k) {a b : Int} : con (EB c r B) a b ↔ con (EB c r B') a b := ⟨con_mono fun _ _ => EB_congr hd h, con_mono fun _ _ => EB_congr hd (fun k hk => (h k hk).symm)⟩
theorem lw_congr (hd : dim c r) (h : ∀ k, cel c r k → B k = B' k) (k : Int) : lw c r B k = lw c r B' k := fstK_congr _ fun _ _ => tr_iff (con_congr hd h)
end
end GR
