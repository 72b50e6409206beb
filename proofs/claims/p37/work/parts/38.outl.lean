/-! OUTLINES in the abstract: a step from side to side, and why it comes back. -/
section OU
def dx (w : Int) : Int := if w = 0 then 1 else if w = 2 then -1 else 0
def dy (w : Int) : Int := if w = 1 then 1 else if w = 3 then -1 else 0
def rx (x w : Int) : Int := if w = 1 ∨ w = 2 then x - 1 else x
def ry (y w : Int) : Int := if w = 2 ∨ w = 3 then y - 1 else y
/-- the four cells at a corner -/
noncomputable def cn (P : Int → Int → Prop) (x y k : Int) : Bool := tr (P (rx x k) (ry y k))
/-- the way behind a corner -/
def tn (D : Int → Bool) (w : Int) : Int := if D w = false then (w + 1) % 4 else if D ((w + 3) % 4) = true then (w + 3) % 4 else w
def pw (D : Int → Bool) (w : Int) : Int := if D ((w + 1) % 4) = false then (w + 3) % 4 else if D ((w + 2) % 4) = true then (w + 1) % 4 else w
theorem tn_rg {D : Int → Bool} {w : Int} (hw : 0 ≤ w ∧ w < 4) : 0 ≤ tn D w ∧ tn D w < 4 := by unfold tn; split <;> (try split) <;> omega
theorem tn_pw {D : Int → Bool} {w : Int} (hw : 0 ≤ w ∧ w < 4) (h1 : D ((w + 1) % 4) = true) (h2 : D ((w + 2) % 4) = false) : pw D (tn D w) = w ∧ D (tn D w) = true ∧ D ((tn D w + 3) % 4) = false := by
  unfold tn
  by_cases a : D w = false
  · rw [if_pos a]
    unfold pw
    rw [show (((w + 1) % 4 + 1) % 4) = (w + 2) % 4 by omega, if_pos h2, show (((w + 1) % 4 + 3) % 4) = w by omega]
    exact ⟨rfl, h1, a⟩
  · rw [if_neg a]
    by_cases d : D ((w + 3) % 4) = true
    · rw [if_pos d]
      unfold pw
      rw [show (((w + 3) % 4 + 1) % 4) = w by omega, if_neg a, show (((w + 3) % 4 + 2) % 4) = (w + 1) % 4 by omega, if_pos h1, show (((w + 3) % 4 + 3) % 4) = (w + 2) % 4 by omega]
      exact ⟨rfl, d, h2⟩
    · rw [if_neg d]
      unfold pw
      rw [if_neg (by rw [h1]; decide), if_neg (by rw [h2]; decide)]
      exact ⟨rfl, by simpa using a, by simpa using d⟩
theorem cn_mv {P : Int → Int → Prop} {x y w : Int} (hw : 0 ≤ w ∧ w < 4) : cn P (x + dx w) (y + dy w) ((w + 1) % 4) = cn P x y w ∧ cn P (x + dx w) (y + dy w) ((w + 2) % 4) = cn P x y ((w + 3) % 4) := by
  have e1 : rx (x + dx w) ((w + 1) % 4) = rx x w := by
    unfold rx dx
    repeat' split
    all_goals omega
  have e2 : ry (y + dy w) ((w + 1) % 4) = ry y w := by
    unfold ry dy
    repeat' split
    all_goals omega
  have e3 : rx (x + dx w) ((w + 2) % 4) = rx x ((w + 3) % 4) := by
    unfold rx dx
    repeat' split
    all_goals omega
  have e4 : ry (y + dy w) ((w + 2) % 4) = ry y ((w + 3) % 4) := by
    unfold ry dy
    repeat' split
    all_goals omega
  unfold cn
  rw [e1, e2, e3, e4]
  exact ⟨rfl, rfl⟩
abbrev Q3 : Type := Int × Int × Int
noncomputable def oS (P : Int → Int → Prop) (q : Q3) : Q3 := (q.1 + dx q.2.2, q.2.1 + dy q.2.2, tn (cn P (q.1 + dx q.2.2) (q.2.1 + dy q.2.2)) q.2.2)
noncomputable def oN (P : Int → Int → Prop) (q : Q3) : Nat → Q3
  | 0 => q
  | n + 1 => oS P (oN P q n)
/-- a side with the island on its right, and not on its left -/
def oV (P : Int → Int → Prop) (q : Q3) : Prop := (0 ≤ q.2.2 ∧ q.2.2 < 4) ∧ cn P q.1 q.2.1 q.2.2 = true ∧ cn P q.1 q.2.1 ((q.2.2 + 3) % 4) = false
theorem oV_step {P : Int → Int → Prop} {q : Q3} (h : oV P q) : oV P (oS P q) ∧ pw (cn P (q.1 + dx q.2.2) (q.2.1 + dy q.2.2)) (oS P q).2.2 = q.2.2 := by
  obtain ⟨h1, h2, h3⟩ := h
  have hm := cn_mv (P := P) (x := q.1) (y := q.2.1) h1
  have ht := tn_pw (D := cn P (q.1 + dx q.2.2) (q.2.1 + dy q.2.2)) h1 (hm.1.trans h2) (hm.2.trans h3)
  exact ⟨⟨tn_rg h1, ht.2.1, ht.2.2⟩, ht.1⟩
theorem oS_inj {P : Int → Int → Prop} {q q' : Q3} (h : oV P q) (h' : oV P q') (e : oS P q = oS P q') : q = q' := by
  have a := (oV_step h).2
  have a' := (oV_step h').2
  have e1 : q.1 + dx q.2.2 = q'.1 + dx q'.2.2 := congrArg Prod.fst e
  have e2 : q.2.1 + dy q.2.2 = q'.2.1 + dy q'.2.2 := congrArg (fun z => z.2.1) e
  rw [e, e1, e2, a'] at a
  obtain ⟨x, y, w⟩ := q
  obtain ⟨x', y', w'⟩ := q'
  dsimp only at a e1 e2
  subst a
  rw [show x = x' by omega, show y = y' by omega]
section
variable {P : Int → Int → Prop} {q : Q3}
theorem oN_V (h : oV P q) : ∀ n : Nat, oV P (oN P q n)
  | 0 => h
  | n + 1 => (oV_step (oN_V h n)).1
theorem oN_back (h : oV P q) : ∀ i d : Nat, oN P q i = oN P q (i + d) → oN P q d = q
  | 0, d, e => by rw [Nat.zero_add] at e; exact e.symm
  | i + 1, d, e => by
    refine oN_back h i d (oS_inj (oN_V h i) (oN_V h (i + d)) ?_)
    have : i + 1 + d = (i + d) + 1 := by omega
    rw [this] at e
    exact e
/-- how many sides, till it is back -/
noncomputable def oLen (P : Int → Int → Prop) (q : Q3) : Int := fstK (fun j => tr (1 ≤ j ∧ oN P q j.toNat = q)) 577
theorem oLen_ok {c r : Int} (hd : dim c r) (hP : ∀ x y, P x y → inP c r x y) (h : oV P q) : 1 ≤ oLen P q ∧ oLen P q ≤ 576 ∧ oN P q (oLen P q).toNat = q ∧ ∀ k : Nat, 1 ≤ k → (k : Int) < oLen P q → oN P q k ≠ q := by
  have hc := dim_cells hd
  -- a number of each side
  obtain ⟨e, he⟩ : ∃ e : Q3 → Int, e = fun z => 4 * (ry z.2.1 z.2.2 * c + rx z.1 z.2.2) + z.2.2 := ⟨_, rfl⟩
  have hin : ∀ z, oV P z → inP c r (rx z.1 z.2.2) (ry z.2.1 z.2.2) := fun z hz => hP _ _ (tr_t.mp hz.2.1)
  have erg : ∀ z, oV P z → 0 ≤ e z ∧ e z < 576 := fun z hz => by
    have a := hin z hz
    have d := dim_at hd (x := rx z.1 z.2.2) (y := ry z.2.1 z.2.2) ⟨a.1, a.2.1⟩ ⟨a.2.2.1, a.2.2.2⟩
    have w := hz.1
    rw [he]; dsimp only; omega
  have einj : ∀ z z', oV P z → oV P z' → e z = e z' → z = z' := fun z z' hz hz' ee => by
    have a := hin z hz
    have a' := hin z' hz'
    have w := hz.1
    have w' := hz'.1
    rw [he] at ee
    dsimp only at ee
    have ew : z.2.2 = z'.2.2 := by omega
    have ek : ry z.2.1 z.2.2 * c + rx z.1 z.2.2 = ry z'.2.1 z'.2.2 * c + rx z'.1 z'.2.2 := by omega
    have d := dm_xy (c := c) (x := rx z.1 z.2.2) (y := ry z.2.1 z.2.2) ⟨a.1, a.2.1⟩
    have d' := dm_xy (c := c) (x := rx z'.1 z'.2.2) (y := ry z'.2.1 z'.2.2) ⟨a'.1, a'.2.1⟩
    rw [ek] at d
    have ex : rx z.1 z.2.2 = rx z'.1 z'.2.2 := by omega
    have ey : ry z.2.1 z.2.2 = ry z'.2.1 z'.2.2 := by omega
    obtain ⟨x, y, v⟩ := z
    obtain ⟨x', y', v'⟩ := z'
    dsimp only at ew ex ey
    subst ew
    have ex2 : x = x' := by unfold rx at ex; split at ex <;> omega
    have ey2 : y = y' := by unfold ry at ey; split at ey <;> omega
    rw [ex2, ey2]
  have hex : ∃ n : Nat, 1 ≤ n ∧ n ≤ 576 ∧ oN P q n = q := by
    refine Classical.byContradiction fun hn => ?_
    have hne : ∀ n : Nat, 1 ≤ n → n ≤ 576 → oN P q n ≠ q := fun n a d z => hn ⟨n, a, d, z⟩
    have hnd : ((List.range 577).map (fun n => e (oN P q n))).Nodup := by
      refine List.pairwise_map.mpr (List.Pairwise.imp_of_mem (fun {a d} ha hb hab ee => ?_) (List.nodup_range (n := 577)))
      have ha := List.mem_range.mp ha
      have hb := List.mem_range.mp hb
      have eq := einj _ _ (oN_V h a) (oN_V h d) ee
      rcases Nat.lt_or_gt_of_ne hab with z | z
      · have := oN_back h a (d - a) (by rw [eq, show a + (d - a) = d by omega])
        exact hne _ (by omega) (by omega) this
      · have := oN_back h d (a - d) (by rw [← eq, show d + (a - d) = a by omega])
        exact hne _ (by omega) (by omega) this
    have h1 := cnt_list (p := fun _ => true) (N := 576) _ hnd (fun j hj => by
      obtain ⟨n, -, rfl⟩ := List.mem_map.mp hj
      exact ⟨erg _ (oN_V h n), rfl⟩)
    have h2 := cntK_rg (fun _ => true) 576
    rw [List.length_map, List.length_range] at h1
    omega
  obtain ⟨n, n1, n2, n3⟩ := hex
  have hne : oLen P q ≠ -1 := fun z => by
    have := fstK_neg.mp z n (by omega)
    exact tr_f.mp this ⟨by omega, by rw [Int.toNat_natCast]; exact n3⟩
  have hsp := tr_t.mp (fstK_spec (p := fun j => tr (1 ≤ j ∧ oN P q j.toNat = q)) hne)
  have hrg := fstK_rg (fun j => tr (1 ≤ j ∧ oN P q j.toNat = q)) 577
  refine ⟨hsp.1, ?_, hsp.2, fun k k1 k2 z => ?_⟩
  · have : oLen P q < 577 := hrg.2
    omega
  · have := fstK_min (p := fun j => tr (1 ≤ j ∧ oN P q j.toNat = q)) (m := 577) (j := k) k2
    exact tr_f.mp this ⟨by omega, by rw [Int.toNat_natCast]; exact z⟩
/-- right turns, left turns -/
noncomputable def oR (P : Int → Int → Prop) (q : Q3) : Nat → Int
  | 0 => 0
  | n + 1 => oR P q n + if cn P (oN P q (n + 1)).1 (oN P q (n + 1)).2.1 (oN P q n).2.2 = false then 1 else 0
noncomputable def oL (P : Int → Int → Prop) (q : Q3) : Nat → Int
  | 0 => 0
  | n + 1 => oL P q n + if cn P (oN P q (n + 1)).1 (oN P q (n + 1)).2.1 (oN P q n).2.2 = true ∧ cn P (oN P q (n + 1)).1 (oN P q (n + 1)).2.1 (((oN P q n).2.2 + 3) % 4) = true then 1 else 0
theorem oR_rg : ∀ n : Nat, (0 ≤ oR P q n ∧ oR P q n ≤ n) ∧ (0 ≤ oL P q n ∧ oL P q n ≤ n)
  | 0 => by simp [oR, oL]
  | n + 1 => by
    have := oR_rg n
    simp only [oR, oL]
    constructor <;> (split <;> omega)
/-- the way of a side that is asked for -/
noncomputable def oA (P : Int → Int → Prop) (q : Q3) (a : Int) (n : Nat) : Int := if 0 ≤ a ∧ a < n then (oN P q a.toNat).2.2 else -1
theorem oA_s (a : Int) (n : Nat) : oA P q a (n + 1) = if (n : Int) = a then (oN P q n).2.2 else oA P q a n := by
  unfold oA
  by_cases e : (n : Int) = a
  · rw [if_pos e, if_pos (by omega), ← e, Int.toNat_natCast]
  · rw [if_neg e]
    by_cases z : 0 ≤ a ∧ a < n
    · rw [if_pos z, if_pos (by omega)]
    · rw [if_neg z, if_neg (by omega)]
theorem oN_rg (h : oV P q) {c r : Int} (hd : dim c r) (hP : ∀ x y, P x y → inP c r x y) (n : Nat) : (0 ≤ (oN P q n).1 ∧ (oN P q n).1 ≤ 12) ∧ (0 ≤ (oN P q n).2.1 ∧ (oN P q n).2.1 ≤ 12) ∧ (0 ≤ (oN P q n).2.2 ∧ (oN P q n).2.2 < 4) := by
  have hv := oN_V h n
  have a := hP _ _ (tr_t.mp hv.2.1)
  obtain ⟨d1, d2, d3, d4⟩ := hd
  unfold rx ry at a
  refine ⟨?_, ?_, hv.1⟩
  · split at a <;> split at a <;> omega
  · split at a <;> split at a <;> omega
end
/-- where the outline of the island L begins -/
def o0 (c L : Int) : Q3 := (L % c, L / c, 0)
theorem o0_V {c r : Int} {b : Int → Int} {L : Int} (hd : dim c r) (hL : cel c r L) (hl : lw c r b L = L) : oV (inI c r b L) (o0 c L) := by
  have hk := dim_k hd hL
  refine ⟨⟨Int.le_refl _, by show (0 : Int) < 4; decide⟩, tr_t.mpr ?_, tr_f.mpr ?_⟩
  · refine ⟨⟨hk.1, hk.2.1, hk.2.2.1, hk.2.2.2.1⟩, ?_⟩
    show lw c r b (L / c * c + L % c) = L
    rw [← hk.2.2.2.2]; exact hl
  · rintro ⟨h1, h2⟩
    have hp : inP c r (L % c) (L / c - 1) := h1
    have h3 : lw c r b ((L / c - 1) * c + L % c) = L := h2
    have hx := xy_cel hd (x := L % c) (y := L / c - 1) ⟨hp.1, hp.2.1⟩ ⟨hp.2.2.1, hp.2.2.2⟩
    have := (lw_ok (B := b) hd hx).2.1
    have e : (L / c - 1) * c = L / c * c - c := by rw [Int.sub_mul, Int.one_mul]
    obtain ⟨d1, d2, d3, d4⟩ := hd
    omega
theorem inI_P {c r : Int} {b : Int → Int} {L : Int} : ∀ x y, inI c r b L x y → inP c r x y := fun _ _ h => h.1
end OU
