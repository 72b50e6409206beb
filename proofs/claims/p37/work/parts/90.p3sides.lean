/-! ALL SIDES of an island, and those of its outline. -/
section SD
variable {c r L : Int} {b : Int → Int}
/-- what a list without doubles holds -/
theorem cnt_mem {p : Int → Bool} {N : Nat} (l : List Int) (hn : l.Nodup) (h : ∀ j ∈ l, 0 ≤ j ∧ j < (N : Int)) (ha : ∀ j : Nat, j < N → p j = true → (j : Int) ∈ l) : cntK p N ≤ l.length := by
  have key : ∀ (l : List Int), l.Nodup → (∀ j ∈ l, 0 ≤ j ∧ j < (N : Int)) → cntK (fun j => tr (j ∈ l ∧ True)) N = l.length := by
    intro l
    induction l with
    | nil => intro _ _; exact cntK_none fun j _ => tr_f.mpr (fun z => by have := z.1; simp at this)
    | cons a l ih =>
      intro hn h
      have hn2 := List.nodup_cons.mp hn
      have h1 := cntK_mk (mk := fun j => j ∈ l) (h a (List.mem_cons_self ..)) hn2.1 (fun _ => True)
      rw [if_pos trivial, ih hn2.2 (fun j hj => h j (List.mem_cons_of_mem _ hj))] at h1
      have h2 : cntK (fun j => tr (j ∈ a :: l ∧ True)) N = cntK (fun j => tr ((j = a ∨ j ∈ l) ∧ True)) N := cntK_congr N fun j _ => tr_iff (by rw [List.mem_cons])
      rw [h2, h1, List.length_cons]; rfl
  rw [← key l hn h]
  exact cntK_le fun j hj z => tr_t.mpr ⟨ha j hj z, trivial⟩
/-- is the number e = 4 k + w a side of the island L -/
noncomputable def sdB (c r : Int) (b : Int → Int) (L e : Int) : Bool := decide (lw c r b (e / 4) = L ∧ (nb c r (e / 4) (e % 4) = -1 ∨ lw c r b (nb c r (e / 4) (e % 4)) ≠ L))
theorem cntK_4 (p : Int → Bool) (f : Int → Int) : ∀ N : Nat, (∀ k : Nat, k < N → f k = cntK (fun w => p (4 * k + w)) 4) → cntK p (4 * N) = sumK f N
  | 0, _ => rfl
  | N + 1, h => by
    have e : 4 * (N + 1) = 4 * N + 1 + 1 + 1 + 1 := by omega
    rw [e]
    simp only [cntK, sumK]
    rw [cntK_4 p f N (fun k hk => h k (by omega)), h N (by omega)]
    simp only [cntK]
    have e1 : ((4 * N + 1 : Nat) : Int) = 4 * (N : Int) + ((1 : Nat) : Int) := by omega
    have e2 : ((4 * N + 1 + 1 : Nat) : Int) = 4 * (N : Int) + ((2 : Nat) : Int) := by omega
    have e3 : ((4 * N + 1 + 1 + 1 : Nat) : Int) = 4 * (N : Int) + ((3 : Nat) : Int) := by omega
    have e0 : ((4 * N : Nat) : Int) = 4 * (N : Int) + ((0 : Nat) : Int) := by omega
    rw [e0, e1, e2, e3]
    omega
theorem sd_all (L : Int) (N : Nat) : cntK (sdB c r b L) (4 * N) = soK c r b L N + esK c r b L N := by
  unfold soK esK
  rw [← sumK_add]
  refine cntK_4 _ _ N fun k _ => ?_
  have hs : ∀ w : Nat, w < 4 → sdB c r b L (4 * (k : Int) + w) = decide (lw c r b k = L ∧ (nb c r k w = -1 ∨ lw c r b (nb c r k w) ≠ L)) := by
    intro w hw
    unfold sdB
    rw [show (4 * (k : Int) + w) / 4 = k by omega, show (4 * (k : Int) + w) % 4 = w by omega]
  rw [cntK_congr (q := fun w => decide (lw c r b k = L ∧ (nb c r k w = -1 ∨ lw c r b (nb c r k w) ≠ L))) 4 hs]
  by_cases h : lw c r b k = L
  · rw [if_pos h, if_pos h]
    unfold osK egK
    rw [h]
    rw [← cntK_or (fun j _ z => by
      have a := of_decide_eq_true z.1
      have d := of_decide_eq_true z.2
      exact a.1 d)]
    refine cntK_congr 4 fun w _ => ?_
    rw [← Bool.decide_or]
    refine decide_eq_decide.mpr ⟨fun z => ?_, fun z => ?_⟩
    · refine ⟨rfl, ?_⟩
      rcases z with z | z
      · exact Or.inr z.2
      · exact Or.inl z
    · by_cases y : nb c r k w = -1
      · exact Or.inr y
      · exact Or.inl ⟨y, by rcases z.2 with q | q; exact absurd q y; exact q⟩
  · rw [if_neg h, if_neg h]
    rw [cntK_none (fun j _ => decide_eq_false (fun z => h z.1))]
    rfl
/-- a side's number -/
def enc (c : Int) (q : Q3) : Int := 4 * (ry q.2.1 q.2.2 * c + rx q.1 q.2.2) + (q.2.2 + 3) % 4
/-- the cell on its left -/
def lX (q : Q3) : Int := rx q.1 ((q.2.2 + 3) % 4)
def lY (q : Q3) : Int := ry q.2.1 ((q.2.2 + 3) % 4)
theorem enc_k {q : Q3} : enc c q / 4 = ry q.2.1 q.2.2 * c + rx q.1 q.2.2 ∧ enc c q % 4 = (q.2.2 + 3) % 4 := by
  unfold enc
  constructor <;> omega
theorem left_nb {q : Q3} (hw : 0 ≤ q.2.2 ∧ q.2.2 < 4) : (lX q = rx q.1 q.2.2 + dx ((q.2.2 + 3) % 4)) ∧ (lY q = ry q.2.1 q.2.2 + dy ((q.2.2 + 3) % 4)) := by
  unfold lX lY rx ry dx dy
  rcases w_4 hw with h | h | h | h <;> rw [h] <;> simp <;> omega
/-- a neighbour, by its column and row -/
theorem nb_d {x y w : Int} (hx : 0 ≤ x ∧ x < c) (hy : 0 ≤ y ∧ y < r) (hw : 0 ≤ w ∧ w < 4) : (inP c r (x + dx w) (y + dy w) → nb c r (y * c + x) w = (y + dy w) * c + (x + dx w)) ∧ (¬ inP c r (x + dx w) (y + dy w) → nb c r (y * c + x) w = -1) := by
  rw [nb_xy hx]
  unfold inP
  rcases dxy_0 hw with ⟨a1, a2, rfl⟩ | ⟨a1, a2, rfl⟩ | ⟨a1, a2, rfl⟩ | ⟨a1, a2, rfl⟩ <;> rw [a1, a2]
  · rw [if_pos rfl]
    constructor
    · intro h
      rw [if_pos (by omega), show y + 0 = y by omega]
    · intro h
      rw [if_neg (by omega)]
  · rw [if_neg (by decide), if_pos rfl]
    constructor
    · intro h
      rw [if_pos (by omega), show x + 0 = x by omega]
    · intro h
      rw [if_neg (by omega)]
  · rw [if_neg (by decide), if_neg (by decide), if_pos rfl]
    constructor
    · intro h
      rw [if_pos (by omega), show y + 0 = y by omega, show x + -1 = x - 1 by omega]
    · intro h
      rw [if_neg (by omega)]
  · rw [if_neg (by decide), if_neg (by decide), if_neg (by decide)]
    constructor
    · intro h
      rw [if_pos (by omega), show x + 0 = x by omega, show y + -1 = y - 1 by omega]
    · intro h
      rw [if_neg (by omega)]
theorem enc_sd (hd : dim c r) {q : Q3} (h : oV (inI c r b L) q) : (0 ≤ enc c q ∧ enc c q < ((4 * (c * r).toNat : Nat) : Int)) ∧ sdB c r b L (enc c q) = true := by
  obtain ⟨hw, h1, h2⟩ := h
  have h1 := tr_t.mp h1
  have h2 := tr_f.mp h2
  have hc := dim_cells hd
  have hx : 0 ≤ rx q.1 q.2.2 ∧ rx q.1 q.2.2 < c := ⟨h1.1.1, h1.1.2.1⟩
  have hy : 0 ≤ ry q.2.1 q.2.2 ∧ ry q.2.1 q.2.2 < r := ⟨h1.1.2.2.1, h1.1.2.2.2⟩
  have d := dim_at hd hx hy
  refine ⟨by unfold enc; omega, ?_⟩
  unfold sdB
  rw [enc_k.1, enc_k.2]
  refine decide_eq_true ⟨h1.2, ?_⟩
  have e := left_nb hw
  have n := nb_d (r := r) hx hy (w := (q.2.2 + 3) % 4) (by omega)
  rw [← e.1, ← e.2] at n
  by_cases z : inP c r (lX q) (lY q)
  · right
    rw [n.1 z]
    exact fun y => h2 ⟨z, y⟩
  · left; exact n.2 z
theorem enc_inj (hd : dim c r) {q q' : Q3} (h : oV (inI c r b L) q) (h' : oV (inI c r b L) q') (e : enc c q = enc c q') : q = q' := by
  have a := (tr_t.mp h.2.1).1
  have a' := (tr_t.mp h'.2.1).1
  have w := h.1
  have w' := h'.1
  have k := (enc_k (c := c) (q := q)).1
  have k' := (enc_k (c := c) (q := q')).1
  have m := (enc_k (c := c) (q := q)).2
  have m' := (enc_k (c := c) (q := q')).2
  rw [e] at k m
  have ew : q.2.2 = q'.2.2 := by omega
  have ek : ry q.2.1 q.2.2 * c + rx q.1 q.2.2 = ry q'.2.1 q'.2.2 * c + rx q'.1 q'.2.2 := by omega
  have d := dm_xy (c := c) (x := rx q.1 q.2.2) (y := ry q.2.1 q.2.2) ⟨a.1, a.2.1⟩
  have d' := dm_xy (c := c) (x := rx q'.1 q'.2.2) (y := ry q'.2.1 q'.2.2) ⟨a'.1, a'.2.1⟩
  rw [ek] at d
  have ex : rx q.1 q.2.2 = rx q'.1 q'.2.2 := by omega
  have ey : ry q.2.1 q.2.2 = ry q'.2.1 q'.2.2 := by omega
  obtain ⟨x, y, v⟩ := q
  obtain ⟨x', y', v'⟩ := q'
  dsimp only at ew ex ey
  subst ew
  have ex2 : x = x' := by unfold rx at ex; split at ex <;> omega
  have ey2 : y = y' := by unfold ry at ey; split at ey <;> omega
  rw [ex2, ey2]
/-- the outline's sides, by their numbers -/
noncomputable def wkL (c r : Int) (b : Int → Int) (L : Int) : List Int := (List.range (oN1 c r b L).toNat).map (fun n => enc c (oN (inI c r b L) (o0 c L) n))
theorem oN1_ok (hd : dim c r) (hL : cel c r L) (hl : lw c r b L = L) : 1 ≤ oN1 c r b L ∧ oN1 c r b L ≤ 576 ∧ oN (inI c r b L) (o0 c L) (oN1 c r b L).toNat = o0 c L ∧ ∀ k : Nat, 1 ≤ k → (k : Int) < oN1 c r b L → oN (inI c r b L) (o0 c L) k ≠ o0 c L := oLen_ok hd inI_P (o0_V hd hL hl)
theorem wkL_nd (hd : dim c r) (hL : cel c r L) (hl : lw c r b L = L) : (wkL c r b L).Nodup := by
  have h0 := o0_V hd hL hl
  have ho := oN1_ok hd hL hl
  refine List.pairwise_map.mpr (List.Pairwise.imp_of_mem (fun {a d} ha hb hab ee => ?_) (List.nodup_range (n := (oN1 c r b L).toNat)))
  have ha := List.mem_range.mp ha
  have hb := List.mem_range.mp hb
  have eq := enc_inj hd (oN_V h0 a) (oN_V h0 d) ee
  rcases Nat.lt_or_gt_of_ne hab with z | z
  · exact ho.2.2.2 (d - a) (by omega) (by omega) (oN_back h0 a (d - a) (by rw [eq, show a + (d - a) = d by omega]))
  · exact ho.2.2.2 (a - d) (by omega) (by omega) (oN_back h0 d (a - d) (by rw [← eq, show d + (a - d) = a by omega]))
theorem wkL_len (hd : dim c r) (hL : cel c r L) (hl : lw c r b L = L) : ((wkL c r b L).length : Int) = oN1 c r b L := by
  have ho := oN1_ok hd hL hl
  unfold wkL
  rw [List.length_map, List.length_range]; omega
theorem wkL_in (hd : dim c r) (hL : cel c r L) (hl : lw c r b L = L) : ∀ j ∈ wkL c r b L, (0 ≤ j ∧ j < ((4 * (c * r).toNat : Nat) : Int)) ∧ sdB c r b L j = true := by
  intro j hj
  obtain ⟨n, -, rfl⟩ := List.mem_map.mp hj
  exact enc_sd hd (oN_V (o0_V hd hL hl) n)
/-- the outline is no longer than all sides -/
theorem out_le (hd : dim c r) (hL : cel c r L) (hl : lw c r b L = L) : oN1 c r b L ≤ soK c r b L (c * r).toNat + esK c r b L (c * r).toNat := by
  rw [← sd_all, ← wkL_len hd hL hl]
  exact cnt_list _ (wkL_nd hd hL hl) (wkL_in hd hL hl)
/-- .. and shorter if a side isn't of it -/
theorem out_lt (hd : dim c r) (hL : cel c r L) (hl : lw c r b L = L) {e : Int} (he : 0 ≤ e ∧ e < ((4 * (c * r).toNat : Nat) : Int)) (hs : sdB c r b L e = true) (hn : e ∉ wkL c r b L) : oN1 c r b L < soK c r b L (c * r).toNat + esK c r b L (c * r).toNat := by
  have h := cnt_list (p := sdB c r b L) (N := 4 * (c * r).toNat) (e :: wkL c r b L) (List.nodup_cons.mpr ⟨hn, wkL_nd hd hL hl⟩) (fun j hj => by
    rcases List.mem_cons.mp hj with rfl | hj
    · exact ⟨he, hs⟩
    · exact wkL_in hd hL hl j hj)
  rw [sd_all, List.length_cons] at h
  have := wkL_len hd hL hl
  omega
/-- .. and as long if all sides are of it -/
theorem out_eq (hd : dim c r) (hL : cel c r L) (hl : lw c r b L = L) (h : ∀ e : Nat, e < 4 * (c * r).toNat → sdB c r b L e = true → (e : Int) ∈ wkL c r b L) : soK c r b L (c * r).toNat + esK c r b L (c * r).toNat ≤ oN1 c r b L := by
  rw [← sd_all, ← wkL_len hd hL hl]
  exact cnt_mem _ (wkL_nd hd hL hl) (fun j hj => (wkL_in hd hL hl j hj).1) h
/-- a number that is a side, as a side -/
theorem sd_q (hd : dim c r) {e : Int} (he : 0 ≤ e ∧ e < ((4 * (c * r).toNat : Nat) : Int)) (hs : sdB c r b L e = true) : ∃ q : Q3, oV (inI c r b L) q ∧ enc c q = e := by
  have h := of_decide_eq_true hs
  have hc := dim_cells hd
  have hk : cel c r (e / 4) := ⟨by omega, by omega⟩
  obtain ⟨x, y, hx, hy, hxy⟩ := cel_xy hd hk
  obtain ⟨w, hw, hw2⟩ : ∃ w, (0 ≤ w ∧ w < 4) ∧ (w + 3) % 4 = e % 4 := ⟨(e % 4 + 1) % 4, by omega, by omega⟩
  obtain ⟨u, hu⟩ : ∃ u, rx u w = x := by
    unfold rx
    by_cases z : w = 1 ∨ w = 2
    · exact ⟨x + 1, by rw [if_pos z]; omega⟩
    · exact ⟨x, by rw [if_neg z]⟩
  obtain ⟨v, hv⟩ : ∃ v, ry v w = y := by
    unfold ry
    by_cases z : w = 2 ∨ w = 3
    · exact ⟨y + 1, by rw [if_pos z]; omega⟩
    · exact ⟨y, by rw [if_neg z]⟩
  have n := nb_d (r := r) hx hy (w := (w + 3) % 4) (by omega)
  have e2 := left_nb (q := (u, v, w)) hw
  have e3 : lX (u, v, w) = x + dx ((w + 3) % 4) := by rw [e2.1]; show rx u w + _ = _; rw [hu]
  have e4 : lY (u, v, w) = y + dy ((w + 3) % 4) := by rw [e2.2]; show ry v w + _ = _; rw [hv]
  rw [← e3, ← e4] at n
  refine ⟨(u, v, w), ⟨hw, tr_t.mpr ?_, tr_f.mpr ?_⟩, ?_⟩
  · show inI c r b L (rx u w) (ry v w)
    rw [hu, hv]
    exact ⟨⟨hx.1, hx.2, hy.1, hy.2⟩, by rw [← hxy]; exact h.1⟩
  · rintro ⟨z1, z2⟩
    have z1 : inP c r (lX (u, v, w)) (lY (u, v, w)) := z1
    have z2 : lw c r b (lY (u, v, w) * c + lX (u, v, w)) = L := z2
    have h2 := h.2
    rw [← hw2, hxy, n.1 z1, z2] at h2
    rcases h2 with q | q
    · have := xy_cel hd (x := lX (u, v, w)) (y := lY (u, v, w)) ⟨z1.1, z1.2.1⟩ ⟨z1.2.2.1, z1.2.2.2⟩
      have := this.1
      omega
    · exact q rfl
  · unfold enc
    dsimp only
    rw [hu, hv, hw2, ← hxy]
    omega
/-- right turns are four more than left turns -/
theorem out_turn (hd : dim c r) (hL : cel c r L) (hl : lw c r b L = L) : oR (inI c r b L) (o0 c L) (oN1 c r b L).toNat = oL (inI c r b L) (o0 c L) (oN1 c r b L).toNat + 4 := by
  have ho := oN1_ok hd hL hl
  refine turn_num (x0 := L % c) (y0 := L / c) (o0_V hd hL hl) (fun x y h => ?_) (by omega) ho.2.2.1 (fun k h1 h2 => ho.2.2.2 k h1 (by omega))
  have hk := dim_k hd hL
  have h1 := h.1
  have hx := xy_cel hd (x := x) (y := y) ⟨h1.1, h1.2.1⟩ ⟨h1.2.2.1, h1.2.2.2⟩
  have h2 := (lw_ok (B := b) hd hx).2.1
  rw [h.2] at h2
  -- L / c * c + L % c ≤ y * c + x
  by_cases z : L / c < y
  · exact Or.inl z
  · right
    have h3 : y * c ≤ L / c * c := Int.mul_le_mul_of_nonneg_right (by omega) (by have := hd.1; omega)
    have hy : y = L / c := by
      refine Classical.byContradiction fun hne => ?_
      have h4 : (y + 1) * c ≤ L / c * c := Int.mul_le_mul_of_nonneg_right (by omega) (by have := hd.1; omega)
      rw [Int.add_mul, Int.one_mul] at h4
      omega
    subst hy
    exact ⟨rfl, by omega⟩
end SD
