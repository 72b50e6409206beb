/-! HOLES in the abstract. -/
section HO
def near8 (c a d : Int) : Prop := (a % c - 1 ≤ d % c ∧ d % c ≤ a % c + 1) ∧ (a / c - 1 ≤ d / c ∧ d / c ≤ a / c + 1)
/-- cells that aren't of an island, side by side or across -/
def EH (c r : Int) (b : Int → Int) (L a d : Int) : Prop := (cel c r a ∧ lw c r b a ≠ L) ∧ (cel c r d ∧ lw c r b d ≠ L) ∧ near8 c a d
section
variable {c r L : Int} {b : Int → Int}
theorem EH_symm : ∀ a d, EH c r b L a d → EH c r b L d a := fun a d h => ⟨h.2.1, h.1, by have := h.2.2; unfold near8 at *; omega⟩
theorem EH_N (hd : dim c r) : ∀ a d, EH c r b L a d → 0 ≤ d ∧ d < ((c * r).toNat : Nat) := fun _ _ h => cel_N hd h.2.1.1
theorem EH_con {s j : Int} (h0 : cel c r s ∧ lw c r b s ≠ L) (h : con (EH c r b L) s j) : cel c r j ∧ lw c r b j ≠ L := con_inv (P := fun x => cel c r x ∧ lw c r b x ≠ L) (fun _ _ _ e => e.2.1) h0 h
/-- nothing of it at the edge -/
def inr (c r : Int) (b : Int → Int) (L j : Int) : Prop := ∀ i, con (EH c r b L) j i → ¬ edg c r i
theorem inr_con {j i : Int} (h : con (EH c r b L) j i) : inr c r b L j ↔ inr c r b L i := ⟨fun z x hx => z x (con_trans h hx), fun z x hx => z x (con_trans (con_symm EH_symm h) hx)⟩
/-- the lowest cell of what hangs together beside L -/
noncomputable def hlw (c r : Int) (b : Int → Int) (L j : Int) : Int := lowF (EH c r b L) (c * r).toNat j
theorem hlw_ok (hd : dim c r) {k : Int} (hk : cel c r k) : 0 ≤ hlw c r b L k ∧ hlw c r b L k ≤ k ∧ con (EH c r b L) k (hlw c r b L k) := by
  have h := lowF_ok (E := EH c r b L) EH_symm (EH_N hd) (cel_N hd hk)
  exact ⟨h.1.1, h.1.2, h.2.1⟩
theorem hlw_eq {a d : Int} (h : con (EH c r b L) a d) : hlw c r b L a = hlw c r b L d := lowF_eq EH_symm h
theorem hlw_iff (hd : dim c r) {a d : Int} (ha : cel c r a) (hb : cel c r d) : hlw c r b L a = hlw c r b L d ↔ con (EH c r b L) a d := lowF_iff EH_symm (EH_N hd) (cel_N hd ha) (cel_N hd hb)
theorem hlw_hlw (hd : dim c r) {k : Int} (hk : cel c r k) : hlw c r b L (hlw c r b L k) = hlw c r b L k := (hlw_eq (hlw_ok hd hk).2.2).symm
/-- how many holes; up to a cell -/
noncomputable def hoK (c r : Int) (b : Int → Int) (L : Int) (N : Nat) : Int := cntK (fun j => tr (lw c r b j ≠ L ∧ hlw c r b L j = j ∧ inr c r b L j)) N
noncomputable def hoF (c r : Int) (b : Int → Int) (L : Int) : Int := hoK c r b L (c * r).toNat
/-- islands in it -/
noncomputable def inF (c r : Int) (b : Int → Int) (L : Int) : Int := cntK (fun j => tr (lw c r b j = j ∧ j ≠ L ∧ inr c r b L j)) (c * r).toNat
/-- the first cell of a number -/
noncomputable def fo (c r : Int) (b : Int → Int) (i : Int) : Int := fstK (fun j => decide (lw c r b j = j ∧ rk c r b j = i)) (c * r).toNat
theorem fo_ok (hd : dim c r) {i : Int} (h0 : 0 ≤ i) (h : i < mny c r b) : cel c r (fo c r b i) ∧ lw c r b (fo c r b i) = fo c r b i ∧ rk c r b (fo c r b i) = i := by
  obtain ⟨L, hL, hl, hr⟩ := rk_on hd h0 h
  have h1 : fo c r b i ≠ -1 := fun e => by
    have := fstK_neg.mp e L.toNat (by have a := hL.1; have d := hL.2; omega)
    rw [Int.toNat_of_nonneg hL.1] at this
    exact absurd ⟨hl, hr⟩ (of_decide_eq_false this)
  have h2 := fstK_rg (fun j => decide (lw c r b j = j ∧ rk c r b j = i)) (c * r).toNat
  have h3 := of_decide_eq_true (fstK_spec h1)
  have hc := dim_cells hd
  have e : fo c r b i = fstK (fun j => decide (lw c r b j = j ∧ rk c r b j = i)) (c * r).toNat := rfl
  exact ⟨⟨by omega, by omega⟩, h3⟩
theorem fo_rk (hd : dim c r) {L : Int} (hL : cel c r L) (hl : lw c r b L = L) : fo c r b (rk c r b L) = L := by
  have h1 := rk_mny hd hL hl
  have h2 := fo_ok (b := b) hd h1.1 h1.2
  exact rk_inj h2.1 h2.2.1 hL hl h2.2.2
/-- the smallest island, told by its number, in a hole of which x lies -/
noncomputable def moN (c r : Int) (b : Int → Int) (x : Int) : Nat → Int
  | 0 => -1
  | i + 1 => if tr ((fo c r b i ≠ x ∧ inr c r b (fo c r b i) x) ∧ (moN c r b x i = -1 ∨ siz c r b (fo c r b i) < siz c r b (fo c r b (moN c r b x i)))) = true then i else moN c r b x i
theorem moN_rg (x : Int) : ∀ i : Nat, moN c r b x i = -1 ∨ (0 ≤ moN c r b x i ∧ moN c r b x i < i)
  | 0 => Or.inl rfl
  | i + 1 => by
    have := moN_rg x i
    simp only [moN]; split
    · right; omega
    · omega
/-- what is listed of all that hangs together with s -/
def BD (E : Int → Int → Prop) (s : Int) (Q : Int → Int) (had : Int) : Prop := (∀ i, 0 ≤ i → i < had → con E s (Q i)) ∧ (∀ j, con E s j → ∃ i, 0 ≤ i ∧ i < had ∧ Q i = j) ∧ (∀ i j, 0 ≤ i → i < j → j < had → Q i ≠ Q j) ∧ 1 ≤ had
def BK (E : Int → Int → Prop) (N : Nat) (s : Int) (mk : Int → Prop) (Q : Int → Int) (had : Int) : Prop := BI E N s mk Q had ∧ ∀ i j, 0 ≤ i → i < j → j < had → Q i ≠ Q j
theorem BK_start {E : Int → Int → Prop} {N : Nat} {s : Int} {Q : Int → Int} (hs : 0 ≤ s ∧ s < N) (hQ : Q 0 = s) : BK E N s (fun j => j = s) Q 1 := ⟨BI_start hs hQ, fun i j _ _ _ => by omega⟩
theorem BK_add {E : Int → Int → Prop} {N : Nat} {s had d : Int} {mk : Int → Prop} {Q : Int → Int} (h : BK E N s mk Q had) (hb : 0 ≤ d ∧ d < N) (hc : con E s d) (hm : ¬ mk d) : BK E N s (fun j => j = d ∨ mk j) (up Q had d) (had + 1) := by
  refine ⟨BI_add h.1 hb hc hm, fun i j h1 h2 h3 => ?_⟩
  unfold up
  rw [if_neg (show i ≠ had by omega)]
  by_cases e : j = had
  · rw [if_pos e]
    intro z
    exact hm (z ▸ h.1.2.2.1 i h1 (by omega))
  · rw [if_neg e]; exact h.2 i j h1 h2 (by omega)
theorem BK_done {E : Int → Int → Prop} {N : Nat} {s had : Int} {mk : Int → Prop} {Q : Int → Int} (h : BK E N s mk Q had) (hc : CL E mk Q had) : (∀ j, mk j ↔ con E s j) ∧ BD E s Q had := by
  have hd := BI_done h.1 hc
  exact ⟨hd, fun i h1 h2 => (hd _).mp (h.1.2.2.1 i h1 h2), fun j hj => h.1.2.2.2.1 j ((hd j).mpr hj), h.2, (BI_0 h.1).1⟩
/-- eight cells at least are about a hole -/
theorem cnt_list {p : Int → Bool} {N : Nat} : ∀ (l : List Int), l.Nodup → (∀ j ∈ l, (0 ≤ j ∧ j < N) ∧ p j = true) → (l.length : Int) ≤ cntK p N := by
  have key : ∀ (l : List Int), l.Nodup → (∀ j ∈ l, (0 ≤ j ∧ j < (N : Int)) ∧ p j = true) → cntK (fun j => tr (j ∈ l ∧ True)) N = l.length := by
    intro l
    induction l with
    | nil => intro _ _; exact cntK_none fun j _ => tr_f.mpr (fun z => by have := z.1; simp at this)
    | cons a l ih =>
      intro hn h
      have hn2 := List.nodup_cons.mp hn
      have h1 := cntK_mk (mk := fun j => j ∈ l) (h a (List.mem_cons_self ..)).1 hn2.1 (fun _ => True)
      rw [if_pos trivial, ih hn2.2 (fun j hj => h j (List.mem_cons_of_mem _ hj))] at h1
      have h2 : cntK (fun j => tr (j ∈ a :: l ∧ True)) N = cntK (fun j => tr ((j = a ∨ j ∈ l) ∧ True)) N := cntK_congr N fun j _ => tr_iff (by rw [List.mem_cons])
      rw [h2, h1, List.length_cons]; rfl
  intro l hn h
  rw [← key l hn h]
  exact cntK_le fun j _ hj => (h j (tr_t.mp hj).1).2
/-- a set of cells has one that is least by some measure -/
theorem ex_min {P : Int → Prop} (f : Int → Int) (hf : ∀ x, P x → 0 ≤ f x) {a : Int} (ha : P a) : ∃ m, P m ∧ ∀ x, P x → f m ≤ f x := by
  have key : ∀ n : Nat, ∀ a, P a → f a ≤ n → ∃ m, P m ∧ ∀ x, P x → f m ≤ f x := by
    intro n
    induction n with
    | zero => exact fun a ha h => ⟨a, ha, fun x hx => by have := hf x hx; omega⟩
    | succ n ih =>
      intro a ha h
      by_cases z : ∃ x, P x ∧ f x ≤ n
      · obtain ⟨x, hx, hx2⟩ := z; exact ih x hx hx2
      · exact ⟨a, ha, fun x hx => Classical.byContradiction fun y => z ⟨x, hx, by omega⟩⟩
  exact key (f a).toNat a ha (by have := hf a ha; omega)
theorem siz_8 (hd : dim c r) {j : Int} (hj : cel c r j) (hl : lw c r b j ≠ L) (hi : inr c r b L j) : 8 ≤ siz c r b L := by
  have hc := dim_cells hd
  -- the cells of the hole, inside the plate
  have hin : ∀ x, con (EH c r b L) j x → cel c r x ∧ lw c r b x ≠ L ∧ (0 < x % c ∧ x % c < c - 1) ∧ (0 < x / c ∧ x / c < r - 1) := fun x hx => by
    have h1 := EH_con ⟨hj, hl⟩ hx
    have h2 := hi x hx
    have h3 := dim_k hd h1.1
    unfold edg at h2
    exact ⟨h1.1, h1.2, by omega, by omega⟩
  -- a cell beside the hole that isn't of it is of the island
  have own : ∀ x u v : Int, con (EH c r b L) j x → (x % c - 1 ≤ u ∧ u ≤ x % c + 1) → (x / c - 1 ≤ v ∧ v ≤ x / c + 1) → ¬ con (EH c r b L) j (v * c + u) → (0 ≤ v * c + u ∧ v * c + u < ((c * r).toNat : Nat)) ∧ decide (lw c r b (v * c + u) = L) = true := fun x u v hx hu hv hn => by
    have h1 := hin x hx
    have h2 : cel c r (v * c + u) := xy_cel hd (by omega) (by omega)
    refine ⟨cel_N hd h2, decide_eq_true (Classical.byContradiction fun z => hn (con_step hx ⟨⟨h1.1, h1.2.1⟩, ⟨h2, z⟩, ?_⟩))⟩
    have h3 := dm_xy (c := c) (x := u) (y := v) (by omega)
    unfold near8
    rw [h3.1, h3.2]
    exact ⟨hu, hv⟩
  have refl := con_refl (E := EH c r b L) j
  obtain ⟨t, t1, t2⟩ := ex_min (P := fun x => con (EH c r b L) j x) (fun x => x / c) (fun x hx => by have := (hin x hx).2.2.2.1; omega) refl
  obtain ⟨d, d1, d2⟩ := ex_min (P := fun x => con (EH c r b L) j x) (fun x => r - x / c) (fun x hx => by have := (hin x hx).2.2.2.2; omega) refl
  obtain ⟨e, e1, e2⟩ := ex_min (P := fun x => con (EH c r b L) j x) (fun x => x % c) (fun x hx => by have := (hin x hx).2.2.1.1; omega) refl
  obtain ⟨w, w1, w2⟩ := ex_min (P := fun x => con (EH c r b L) j x) (fun x => c - x % c) (fun x hx => by have := (hin x hx).2.2.1.2; omega) refl
  have ht := hin t t1
  have hb := hin d d1
  have he := hin e e1
  have hw := hin w w1
  have dv : ∀ u v : Int, 0 ≤ u ∧ u < c → (v * c + u) / c = v := fun u v h => (dm_xy h).2
  have md : ∀ u v : Int, 0 ≤ u ∧ u < c → (v * c + u) % c = u := fun u v h => (dm_xy h).1
  have nt : ∀ u : Int, 0 ≤ u ∧ u < c → ¬ con (EH c r b L) j ((t / c - 1) * c + u) := fun u hu z => by have := t2 _ z; rw [dv u _ hu] at this; omega
  have nd : ∀ u : Int, 0 ≤ u ∧ u < c → ¬ con (EH c r b L) j ((d / c + 1) * c + u) := fun u hu z => by have := d2 _ z; rw [dv u _ hu] at this; omega
  have ne : ¬ con (EH c r b L) j (e / c * c + (e % c - 1)) := fun z => by have := e2 _ z; rw [md _ _ (by omega)] at this; omega
  have nw : ¬ con (EH c r b L) j (w / c * c + (w % c + 1)) := fun z => by have := w2 _ z; rw [md _ _ (by omega)] at this; omega
  have te := t2 e e1
  have tw := t2 w w1
  have de := d2 e e1
  have dw := d2 w w1
  have ew := e2 w w1
  -- their rows and columns tell them apart
  have q : ∀ u v u' v' : Int, (0 ≤ u ∧ u < c) → (0 ≤ u' ∧ u' < c) → (u ≠ u' ∨ v ≠ v') → v * c + u ≠ v' * c + u' := fun u v u' v' h h' hn z => by
    have a := dv u v h
    have a' := dv u' v' h'
    have m := md u v h
    have m' := md u' v' h'
    rw [z] at a m
    omega
  have h8 := cnt_list (p := fun x => decide (lw c r b x = L)) (N := (c * r).toNat)
    [(t / c - 1) * c + (t % c - 1), (t / c - 1) * c + t % c, (t / c - 1) * c + (t % c + 1), (d / c + 1) * c + (d % c - 1), (d / c + 1) * c + d % c, (d / c + 1) * c + (d % c + 1), e / c * c + (e % c - 1), w / c * c + (w % c + 1)] ?_ ?_
  · exact h8
  · simp only [List.nodup_cons, List.mem_cons, List.not_mem_nil, or_false, not_or, List.nodup_nil, and_true, not_false_eq_true]
    refine ⟨⟨?_, ?_, ?_, ?_, ?_, ?_, ?_⟩, ⟨?_, ?_, ?_, ?_, ?_, ?_⟩, ⟨?_, ?_, ?_, ?_, ?_⟩, ⟨?_, ?_, ?_, ?_⟩, ⟨?_, ?_, ?_⟩, ⟨?_, ?_⟩, ?_⟩ <;> exact q _ _ _ _ (by omega) (by omega) (by omega)
  · intro x hx
    simp only [List.mem_cons, List.not_mem_nil, or_false] at hx
    rcases hx with rfl | rfl | rfl | rfl | rfl | rfl | rfl | rfl
    · exact own t _ _ t1 (by omega) (by omega) (nt _ (by omega))
    · exact own t _ _ t1 (by omega) (by omega) (nt _ (by omega))
    · exact own t _ _ t1 (by omega) (by omega) (nt _ (by omega))
    · exact own d _ _ d1 (by omega) (by omega) (nd _ (by omega))
    · exact own d _ _ d1 (by omega) (by omega) (nd _ (by omega))
    · exact own d _ _ d1 (by omega) (by omega) (nd _ (by omega))
    · exact own e _ _ e1 (by omega) (by omega) ne
    · exact own w _ _ w1 (by omega) (by omega) nw
end
end HO
