/-! ISLANDS: the smallest, the borders, who takes it. -/
section IS2
variable {l : Launch} {c r ct : Int} {B F S Br Q Fo No : Int → Int}
/-- what is held of a survey's rows -/
def IV (c r ct : Int) (B F S : Int → Int) : Prop :=
  (∀ i, 0 ≤ B i ∧ B i ≤ 5) ∧ (∀ i, rg (F i)) ∧ (∀ i, rg (S i)) ∧ (∀ k, cel c r k → F k = lw c r B k) ∧ (∀ L, cel c r L → lw c r B L = L → S L = siz c r B L) ∧ ct = mny c r B
theorem lw_rg (hd : dim c r) (k : Int) : -1 ≤ lw c r B k ∧ lw c r B k < 144 := by
  have h := fstK_rg (fun j => tr (con (EB c r B) k j)) (c * r).toNat
  have := dim_cells hd
  unfold lw lowF; omega
theorem siz_rg (hd : dim c r) (L : Int) : 0 ≤ siz c r B L ∧ siz c r B L ≤ 144 := by
  have h := cntK_rg (fun j => decide (lw c r B j = L)) (c * r).toNat
  have := dim_cells hd
  unfold siz; omega
theorem dX0_smallestBelow_0 : decode cX0_smallestBelow 0 = .ok (.iconst (-1), 1) := by decide +kernel
theorem dX0_smallestBelow_1 : decode cX0_smallestBelow 1 = .ok (.istore_n 2, 1) := by decide +kernel
theorem dX0_smallestBelow_2 : decode cX0_smallestBelow 2 = .ok (.iconst 0, 1) := by decide +kernel
theorem dX0_smallestBelow_3 : decode cX0_smallestBelow 3 = .ok (.istore_n 3, 1) := by decide +kernel
theorem dX0_smallestBelow_4 : decode cX0_smallestBelow 4 = .ok (.iload_n 3, 1) := by decide +kernel
theorem dX0_smallestBelow_5 : decode cX0_smallestBelow 5 = .ok (.aload_n 0, 1) := by decide +kernel
theorem dX0_smallestBelow_6 : decode cX0_smallestBelow 6 = .ok (.getfield 18, 3) := by decide +kernel
theorem dX0_smallestBelow_9 : decode cX0_smallestBelow 9 = .ok (.if_icmp .ge 51, 3) := by decide +kernel
theorem dX0_smallestBelow_12 : decode cX0_smallestBelow 12 = .ok (.aload_n 0, 1) := by decide +kernel
theorem dX0_smallestBelow_13 : decode cX0_smallestBelow 13 = .ok (.getfield 28, 3) := by decide +kernel
theorem dX0_smallestBelow_16 : decode cX0_smallestBelow 16 = .ok (.iload_n 3, 1) := by decide +kernel
theorem dX0_smallestBelow_17 : decode cX0_smallestBelow 17 = .ok (.iaload, 1) := by decide +kernel
theorem dX0_smallestBelow_18 : decode cX0_smallestBelow 18 = .ok (.iload_n 3, 1) := by decide +kernel
theorem dX0_smallestBelow_19 : decode cX0_smallestBelow 19 = .ok (.if_icmp .ne 35, 3) := by decide +kernel
theorem dX0_smallestBelow_22 : decode cX0_smallestBelow 22 = .ok (.aload_n 0, 1) := by decide +kernel
theorem dX0_smallestBelow_23 : decode cX0_smallestBelow 23 = .ok (.getfield 31, 3) := by decide +kernel
theorem dX0_smallestBelow_26 : decode cX0_smallestBelow 26 = .ok (.iload_n 3, 1) := by decide +kernel
theorem dX0_smallestBelow_27 : decode cX0_smallestBelow 27 = .ok (.iaload, 1) := by decide +kernel
theorem dX0_smallestBelow_28 : decode cX0_smallestBelow 28 = .ok (.iload_n 1, 1) := by decide +kernel
theorem dX0_smallestBelow_29 : decode cX0_smallestBelow 29 = .ok (.if_icmp .ge 25, 3) := by decide +kernel
theorem dX0_smallestBelow_32 : decode cX0_smallestBelow 32 = .ok (.iload_n 2, 1) := by decide +kernel
theorem dX0_smallestBelow_33 : decode cX0_smallestBelow 33 = .ok (.iconst (-1), 1) := by decide +kernel
theorem dX0_smallestBelow_34 : decode cX0_smallestBelow 34 = .ok (.if_icmp .eq 18, 3) := by decide +kernel
theorem dX0_smallestBelow_37 : decode cX0_smallestBelow 37 = .ok (.aload_n 0, 1) := by decide +kernel
theorem dX0_smallestBelow_38 : decode cX0_smallestBelow 38 = .ok (.getfield 31, 3) := by decide +kernel
theorem dX0_smallestBelow_41 : decode cX0_smallestBelow 41 = .ok (.iload_n 3, 1) := by decide +kernel
theorem dX0_smallestBelow_42 : decode cX0_smallestBelow 42 = .ok (.iaload, 1) := by decide +kernel
theorem dX0_smallestBelow_43 : decode cX0_smallestBelow 43 = .ok (.aload_n 0, 1) := by decide +kernel
theorem dX0_smallestBelow_44 : decode cX0_smallestBelow 44 = .ok (.getfield 31, 3) := by decide +kernel
theorem dX0_smallestBelow_47 : decode cX0_smallestBelow 47 = .ok (.iload_n 2, 1) := by decide +kernel
theorem dX0_smallestBelow_48 : decode cX0_smallestBelow 48 = .ok (.iaload, 1) := by decide +kernel
theorem dX0_smallestBelow_49 : decode cX0_smallestBelow 49 = .ok (.if_icmp .ge 5, 3) := by decide +kernel
theorem dX0_smallestBelow_52 : decode cX0_smallestBelow 52 = .ok (.iload_n 3, 1) := by decide +kernel
theorem dX0_smallestBelow_53 : decode cX0_smallestBelow 53 = .ok (.istore_n 2, 1) := by decide +kernel
theorem dX0_smallestBelow_54 : decode cX0_smallestBelow 54 = .ok (.iinc 3 1, 3) := by decide +kernel
theorem dX0_smallestBelow_57 : decode cX0_smallestBelow 57 = .ok (.goto (-53), 3) := by decide +kernel
theorem dX0_smallestBelow_60 : decode cX0_smallestBelow 60 = .ok (.iload_n 2, 1) := by decide +kernel
theorem dX0_smallestBelow_61 : decode cX0_smallestBelow 61 = .ok (.ireturn, 1) := by decide +kernel
theorem c_smallestBelow {le : Int} (hd : dim c r) (hl : rg le) (hI : IV c r ct B F S) : Cd l yX0_smallestBelow cX0_smallestBelow 4 (some .int) rmX0_smallestBelow [.ref 0, iv le] (isM c r (c * r) ct B F S Br Q Fo No) (some (iv (smL c r B le))) (isM c r (c * r) ct B F S Br Q Fo No) := by
  refine Ct.of miX0_smallestBelow (Nat.le_of_ble_eq_true rfl) ?_
  intro X hXl hN ok
  refine AW.cast (L2 := [some (.ref 0), some (iv le), none, none]) ?_ rfl rfl rfl
  obtain ⟨-, h2, h3, h4, h5, -⟩ := hI
  have hc := dim_cells hd
  have loop : ∀ k : Nat, (k : Int) ≤ c * r → AW X 0 0 4 [some (.ref 0), some (iv le), some (iv (smK c r B le k)), some (iv k)] [] (isM c r (c * r) ct B F S Br Q Fo No) := by
    refine wfl (fun k : Nat => 145 - k) _ _ ?_
    intro k hk ih
    have hsm := smK_ok (c := c) (r := r) (B := B) (le := le) k
    have hF : (k : Int) < c * r → F k = lw c r B k := fun h => h4 k ⟨by omega, h⟩
    have hS : (k : Int) < c * r → lw c r B k = k → S k = siz c r B k := fun h => h5 k ⟨by omega, h⟩
    have hS2 : smK c r B le k ≠ -1 → S (smK c r B le k) = siz c r B (smK c r B le k) := fun h => by
      rcases hsm with z | z
      · exact absurd z h
      · exact h5 _ ⟨z.1, by omega⟩ z.2.2.1
    have hz := siz_rg (B := B) hd k
    have hz2 := siz_rg (B := B) hd (smK c r B le k)
    have r2 := h2 k
    have r3 := h3 k
    have r4 := h3 (smK c r B le k)
    have e1 : lw c r B k = k ∧ siz c r B k < le ∧ (smK c r B le k = -1 ∨ siz c r B k < siz c r B (smK c r B le k)) → smK c r B le (k + 1) = k := fun h => by simp only [smK]; exact if_pos h
    have e2 : ¬ (lw c r B k = k ∧ siz c r B k < le ∧ (smK c r B le k = -1 ∨ siz c r B k < siz c r B (smK c r B le k))) → smK c r B le (k + 1) = smK c r B le k := fun h => by simp only [smK]; exact if_neg h
    refine a_iload_n (pc := 4) ok dX0_smallestBelow_4 rfl ?_
    refine a_aload_n (pc := 5) ok dX0_smallestBelow_5 rfl ?_
    refine a_getf (pc := 6) ok dX0_smallestBelow_6 fl0_18 rfl rfl ?_
    refine a_icmp_ge (pc := 9) (tgt := 60) ok dX0_smallestBelow_9 (by decide) (by first | omega | (unfold rg; omega) | (simp only [rg] at *; omega) | exact bz_rg _ | grind [rg]) (by first | omega | (unfold rg; omega) | (simp only [rg] at *; omega) | exact bz_rg _ | grind [rg]) (fun c9 => ?_) (fun c9 => ?_)
    · refine a_iload_n (pc := 60) ok dX0_smallestBelow_60 rfl ?_
      exact a_iret (pc := 61) ok dX0_smallestBelow_61 (⟨by unfold smL; rw [show (c * r).toNat = k by omega], rfl⟩)
    · refine a_aload_n (pc := 12) ok dX0_smallestBelow_12 rfl ?_
      refine a_getf (pc := 13) ok dX0_smallestBelow_13 fl0_28 rfl rfl ?_
      refine a_iload_n (pc := 16) ok dX0_smallestBelow_16 rfl ?_
      refine a_iald (pc := 17) ok dX0_smallestBelow_17 rfl (by first | decide | omega) (by first | omega | (unfold rg; omega) | (simp only [rg] at *; omega) | exact bz_rg _ | grind [rg]) ?_
      refine a_iload_n (pc := 18) ok dX0_smallestBelow_18 rfl ?_
      refine a_icmp_ne (pc := 19) (tgt := 54) ok dX0_smallestBelow_19 (by decide) (by first | omega | (unfold rg; omega) | (simp only [rg] at *; omega) | exact bz_rg _ | grind [rg]) (by first | omega | (unfold rg; omega) | (simp only [rg] at *; omega) | exact bz_rg _ | grind [rg]) (fun c19 => ?_) (fun c19 => ?_)
      · refine a_iinc (pc := 54) ok dX0_smallestBelow_54 rfl rfl (by rw [hN]; decide) ?_
        refine a_goto (pc := 57) (tgt := 4) ok dX0_smallestBelow_57 (by decide) ?_
        have y1 := hF (by omega)
        first
        | exact AW.cast (ih (k + 1) (by omega) (by omega)) (by rw [e1 ⟨by omega, by have := hS (by omega) (by omega); omega, by first | (left; omega) | (right; have := hS (by omega) (by omega); have := hS2 (by omega); omega)⟩]; rfl) rfl rfl
        | exact AW.cast (ih (k + 1) (by omega) (by omega)) (by rw [e2 (fun z => by have a := z.1; have b := hS (by omega) a; have d := z.2.2; by_cases q : smK c r B le k = -1 <;> first | omega | (have := hS2 q; omega))]; rfl) rfl rfl
      · refine a_aload_n (pc := 22) ok dX0_smallestBelow_22 rfl ?_
        refine a_getf (pc := 23) ok dX0_smallestBelow_23 fl0_31 rfl rfl ?_
        refine a_iload_n (pc := 26) ok dX0_smallestBelow_26 rfl ?_
        refine a_iald (pc := 27) ok dX0_smallestBelow_27 rfl (by first | decide | omega) (by first | omega | (unfold rg; omega) | (simp only [rg] at *; omega) | exact bz_rg _ | grind [rg]) ?_
        refine a_iload_n (pc := 28) ok dX0_smallestBelow_28 rfl ?_
        refine a_icmp_ge (pc := 29) (tgt := 54) ok dX0_smallestBelow_29 (by decide) (by first | omega | (unfold rg; omega) | (simp only [rg] at *; omega) | exact bz_rg _ | grind [rg]) (by first | omega | (unfold rg; omega) | (simp only [rg] at *; omega) | exact bz_rg _ | grind [rg]) (fun c29 => ?_) (fun c29 => ?_)
        · refine a_iinc (pc := 54) ok dX0_smallestBelow_54 rfl rfl (by rw [hN]; decide) ?_
          refine a_goto (pc := 57) (tgt := 4) ok dX0_smallestBelow_57 (by decide) ?_
          have y1 := hF (by omega)
          first
          | exact AW.cast (ih (k + 1) (by omega) (by omega)) (by rw [e1 ⟨by omega, by have := hS (by omega) (by omega); omega, by first | (left; omega) | (right; have := hS (by omega) (by omega); have := hS2 (by omega); omega)⟩]; rfl) rfl rfl
          | exact AW.cast (ih (k + 1) (by omega) (by omega)) (by rw [e2 (fun z => by have a := z.1; have b := hS (by omega) a; have d := z.2.2; by_cases q : smK c r B le k = -1 <;> first | omega | (have := hS2 q; omega))]; rfl) rfl rfl
        · refine a_iload_n (pc := 32) ok dX0_smallestBelow_32 rfl ?_
          refine a_iconst (pc := 33) ok dX0_smallestBelow_33 ?_
          refine a_icmp_eq (pc := 34) (tgt := 52) ok dX0_smallestBelow_34 (by decide) (by first | omega | (unfold rg; omega) | (simp only [rg] at *; omega) | exact bz_rg _ | grind [rg]) (by first | omega | (unfold rg; omega) | (simp only [rg] at *; omega) | exact bz_rg _ | grind [rg]) (fun c34 => ?_) (fun c34 => ?_)
          · refine a_iload_n (pc := 52) ok dX0_smallestBelow_52 rfl ?_
            refine a_istore_n (pc := 53) ok dX0_smallestBelow_53 rfl (by rw [hN]; decide) ?_
            refine a_iinc (pc := 54) ok dX0_smallestBelow_54 rfl rfl (by rw [hN]; decide) ?_
            refine a_goto (pc := 57) (tgt := 4) ok dX0_smallestBelow_57 (by decide) ?_
            have y1 := hF (by omega)
            first
            | exact AW.cast (ih (k + 1) (by omega) (by omega)) (by rw [e1 ⟨by omega, by have := hS (by omega) (by omega); omega, by first | (left; omega) | (right; have := hS (by omega) (by omega); have := hS2 (by omega); omega)⟩]; rfl) rfl rfl
            | exact AW.cast (ih (k + 1) (by omega) (by omega)) (by rw [e2 (fun z => by have a := z.1; have b := hS (by omega) a; have d := z.2.2; by_cases q : smK c r B le k = -1 <;> first | omega | (have := hS2 q; omega))]; rfl) rfl rfl
          · refine a_aload_n (pc := 37) ok dX0_smallestBelow_37 rfl ?_
            refine a_getf (pc := 38) ok dX0_smallestBelow_38 fl0_31 rfl rfl ?_
            refine a_iload_n (pc := 41) ok dX0_smallestBelow_41 rfl ?_
            refine a_iald (pc := 42) ok dX0_smallestBelow_42 rfl (by first | decide | omega) (by first | omega | (unfold rg; omega) | (simp only [rg] at *; omega) | exact bz_rg _ | grind [rg]) ?_
            refine a_aload_n (pc := 43) ok dX0_smallestBelow_43 rfl ?_
            refine a_getf (pc := 44) ok dX0_smallestBelow_44 fl0_31 rfl rfl ?_
            refine a_iload_n (pc := 47) ok dX0_smallestBelow_47 rfl ?_
            refine a_iald (pc := 48) ok dX0_smallestBelow_48 rfl (by first | decide | omega) (by first | omega | (unfold rg; omega) | (simp only [rg] at *; omega) | exact bz_rg _ | grind [rg]) ?_
            refine a_icmp_ge (pc := 49) (tgt := 54) ok dX0_smallestBelow_49 (by decide) (by first | omega | (unfold rg; omega) | (simp only [rg] at *; omega) | exact bz_rg _ | grind [rg]) (by first | omega | (unfold rg; omega) | (simp only [rg] at *; omega) | exact bz_rg _ | grind [rg]) (fun c49 => ?_) (fun c49 => ?_)
            · refine a_iinc (pc := 54) ok dX0_smallestBelow_54 rfl rfl (by rw [hN]; decide) ?_
              refine a_goto (pc := 57) (tgt := 4) ok dX0_smallestBelow_57 (by decide) ?_
              have y1 := hF (by omega)
              first
              | exact AW.cast (ih (k + 1) (by omega) (by omega)) (by rw [e1 ⟨by omega, by have := hS (by omega) (by omega); omega, by first | (left; omega) | (right; have := hS (by omega) (by omega); have := hS2 (by omega); omega)⟩]; rfl) rfl rfl
              | exact AW.cast (ih (k + 1) (by omega) (by omega)) (by rw [e2 (fun z => by have a := z.1; have b := hS (by omega) a; have d := z.2.2; by_cases q : smK c r B le k = -1 <;> first | omega | (have := hS2 q; omega))]; rfl) rfl rfl
            · refine a_iload_n (pc := 52) ok dX0_smallestBelow_52 rfl ?_
              refine a_istore_n (pc := 53) ok dX0_smallestBelow_53 rfl (by rw [hN]; decide) ?_
              refine a_iinc (pc := 54) ok dX0_smallestBelow_54 rfl rfl (by rw [hN]; decide) ?_
              refine a_goto (pc := 57) (tgt := 4) ok dX0_smallestBelow_57 (by decide) ?_
              have y1 := hF (by omega)
              first
              | exact AW.cast (ih (k + 1) (by omega) (by omega)) (by rw [e1 ⟨by omega, by have := hS (by omega) (by omega); omega, by first | (left; omega) | (right; have := hS (by omega) (by omega); have := hS2 (by omega); omega)⟩]; rfl) rfl rfl
              | exact AW.cast (ih (k + 1) (by omega) (by omega)) (by rw [e2 (fun z => by have a := z.1; have b := hS (by omega) a; have d := z.2.2; by_cases q : smK c r B le k = -1 <;> first | omega | (have := hS2 q; omega))]; rfl) rfl rfl
  refine a_iconst (pc := 0) ok dX0_smallestBelow_0 ?_
  refine a_istore_n (pc := 1) ok dX0_smallestBelow_1 rfl (by rw [hN]; decide) ?_
  refine a_iconst (pc := 2) ok dX0_smallestBelow_2 ?_
  refine a_istore_n (pc := 3) ok dX0_smallestBelow_3 rfl (by rw [hN]; decide) ?_
  exact loop 0 (by omega)
/-- borders, measured up to a side -/
noncomputable def bq (c r : Int) (B : Int → Int) (s L k : Int) (w : Nat) : Int := cntK (fun w => decide (nb c r k w ≠ -1 ∧ lw c r B (nb c r k w) ≠ s ∧ lw c r B (nb c r k w) = L)) w
noncomputable def brp (c r : Int) (B : Int → Int) (s : Int) (k w : Nat) : Int → Int := fun L => sumK (fun k => if lw c r B k = s then bq c r B s L k 4 else 0) k + (if lw c r B k = s then bq c r B s L k w else 0)
theorem sumK_le {f : Int → Int} {b : Int} (h : ∀ k : Nat, f k ≤ b) : ∀ N : Nat, sumK f N ≤ b * N
  | 0 => by simp [sumK]
  | N + 1 => by
    have := sumK_le h N
    have := h N
    have e : b * ((N + 1 : Nat) : Int) = b * N + b := by rw [Int.natCast_add, Int.mul_add]; simp
    simp only [sumK]; omega
theorem bq_rg (s L k : Int) (w : Nat) : 0 ≤ bq c r B s L k w ∧ bq c r B s L k w ≤ w := cntK_rg _ _
theorem brp_rg (s L : Int) (k w : Nat) (hk : k ≤ 144) (hw : w ≤ 4) : 0 ≤ brp c r B s k w L ∧ brp c r B s k w L ≤ 600 := by
  have h1 := sumK_le (f := fun k => if lw c r B k = s then bq c r B s L k 4 else 0) (b := 4) (fun k => by
    have := bq_rg (c := c) (r := r) (B := B) s L k 4
    split <;> omega) k
  have h2 := (sumK_pos (f := fun k => if lw c r B k = s then bq c r B s L k 4 else 0) (N := k) (fun k => by
    have := bq_rg (c := c) (r := r) (B := B) s L k 4
    split <;> omega)).1
  have h3 := bq_rg (c := c) (r := r) (B := B) s L k w
  unfold brp
  split <;> omega
theorem brd_brp (s : Int) : (fun L => brd c r B s L) = brp c r B s (c * r).toNat 0 := by
  funext L
  have : bq c r B s L ((c * r).toNat : Nat) 0 = 0 := rfl
  unfold brp brd
  rw [this, ite_self, Int.add_zero]
  rfl
theorem brd_rg (hd : dim c r) (s L : Int) : 0 ≤ brd c r B s L ∧ brd c r B s L ≤ 600 := by
  have hc := dim_cells hd
  have := brp_rg (c := c) (r := r) (B := B) s L (c * r).toNat 0 (by omega) (by omega)
  rw [show brd c r B s L = brp c r B s (c * r).toNat 0 L from congrFun (brd_brp s) L]; exact this
theorem brp_0 (s : Int) : ∀ k : Nat, (∀ j : Nat, j < k → lw c r B j ≠ s) → brp c r B s k 0 = fun _ => 0 := by
  intro k hk
  funext L
  have h0 : bq c r B s L k 0 = 0 := rfl
  have h1 : ∀ k : Nat, (∀ j : Nat, j < k → lw c r B j ≠ s) → sumK (fun k => if lw c r B k = s then bq c r B s L k 4 else 0) k = 0 := fun k => by
    induction k with
    | zero => intro _; rfl
    | succ k ih => intro h; simp only [sumK]; rw [ih (fun j hj => h j (by omega)), if_neg (h k (by omega))]; rfl
  unfold brp
  rw [h0, ite_self, h1 k hk]; rfl
theorem brp_n {s : Int} {k : Nat} (h : lw c r B k ≠ s) : brp c r B s (k + 1) 0 = brp c r B s k 0 := by
  funext L
  have h0 : ∀ k : Int, bq c r B s L k 0 = 0 := fun _ => rfl
  unfold brp
  rw [h0, h0, ite_self, ite_self]
  simp only [sumK]
  rw [if_neg h]; omega
theorem brp_4 {s : Int} {k : Nat} (h : lw c r B k = s) : brp c r B s (k + 1) 0 = brp c r B s k 4 := by
  funext L
  have h0 : ∀ k : Int, bq c r B s L k 0 = 0 := fun _ => rfl
  unfold brp
  rw [h0, ite_self]
  simp only [sumK]
  rw [if_pos h]; omega
theorem bq_t {s L k : Int} {w : Nat} (h : nb c r k w ≠ -1 ∧ lw c r B (nb c r k w) ≠ s ∧ lw c r B (nb c r k w) = L) : bq c r B s L k (w + 1) = bq c r B s L k w + 1 := cntK_t (decide_eq_true h)
theorem bq_f {s L k : Int} {w : Nat} (h : ¬ (nb c r k w ≠ -1 ∧ lw c r B (nb c r k w) ≠ s ∧ lw c r B (nb c r k w) = L)) : bq c r B s L k (w + 1) = bq c r B s L k w := cntK_f (decide_eq_false h)
theorem brp_t {s : Int} {k w : Nat} (h0 : lw c r B k = s) (h1 : nb c r k w ≠ -1) (h2 : lw c r B (nb c r k w) ≠ s) : brp c r B s k (w + 1) = up (brp c r B s k w) (lw c r B (nb c r k w)) (brp c r B s k w (lw c r B (nb c r k w)) + 1) := by
  funext L
  unfold up
  by_cases e : L = lw c r B (nb c r k w)
  · rw [if_pos e]; subst e; unfold brp; rw [if_pos h0, if_pos h0, bq_t ⟨h1, h2, rfl⟩]; omega
  · rw [if_neg e]; unfold brp; rw [if_pos h0, if_pos h0, bq_f (fun z => e z.2.2.symm)]
theorem brp_f {s : Int} {k w : Nat} (h : nb c r k w = -1 ∨ lw c r B (nb c r k w) = s) : brp c r B s k (w + 1) = brp c r B s k w := by
  funext L
  unfold brp
  rw [bq_f (fun z => by rcases h with y | y; exact z.1 y; exact z.2.1 y)]
theorem dX0_measureBorders_0 : decode cX0_measureBorders 0 = .ok (.aload_n 0, 1) := by decide +kernel
theorem dX0_measureBorders_1 : decode cX0_measureBorders 1 = .ok (.getfield 34, 3) := by decide +kernel
theorem dX0_measureBorders_4 : decode cX0_measureBorders 4 = .ok (.iconst 0, 1) := by decide +kernel
theorem dX0_measureBorders_5 : decode cX0_measureBorders 5 = .ok (.invokestatic 89, 3) := by decide +kernel
theorem dX0_measureBorders_8 : decode cX0_measureBorders 8 = .ok (.iload_n 1, 1) := by decide +kernel
theorem dX0_measureBorders_9 : decode cX0_measureBorders 9 = .ok (.istore_n 2, 1) := by decide +kernel
theorem dX0_measureBorders_10 : decode cX0_measureBorders 10 = .ok (.iload_n 2, 1) := by decide +kernel
theorem dX0_measureBorders_11 : decode cX0_measureBorders 11 = .ok (.aload_n 0, 1) := by decide +kernel
theorem dX0_measureBorders_12 : decode cX0_measureBorders 12 = .ok (.getfield 18, 3) := by decide +kernel
theorem dX0_measureBorders_15 : decode cX0_measureBorders 15 = .ok (.if_icmp .ge 73, 3) := by decide +kernel
theorem dX0_measureBorders_18 : decode cX0_measureBorders 18 = .ok (.aload_n 0, 1) := by decide +kernel
theorem dX0_measureBorders_19 : decode cX0_measureBorders 19 = .ok (.getfield 28, 3) := by decide +kernel
theorem dX0_measureBorders_22 : decode cX0_measureBorders 22 = .ok (.iload_n 2, 1) := by decide +kernel
theorem dX0_measureBorders_23 : decode cX0_measureBorders 23 = .ok (.iaload, 1) := by decide +kernel
theorem dX0_measureBorders_24 : decode cX0_measureBorders 24 = .ok (.iload_n 1, 1) := by decide +kernel
theorem dX0_measureBorders_25 : decode cX0_measureBorders 25 = .ok (.if_icmp .ne 57, 3) := by decide +kernel
theorem dX0_measureBorders_28 : decode cX0_measureBorders 28 = .ok (.iconst 0, 1) := by decide +kernel
theorem dX0_measureBorders_29 : decode cX0_measureBorders 29 = .ok (.istore_n 3, 1) := by decide +kernel
theorem dX0_measureBorders_30 : decode cX0_measureBorders 30 = .ok (.iload_n 3, 1) := by decide +kernel
theorem dX0_measureBorders_31 : decode cX0_measureBorders 31 = .ok (.iconst 4, 1) := by decide +kernel
theorem dX0_measureBorders_32 : decode cX0_measureBorders 32 = .ok (.if_icmp .ge 50, 3) := by decide +kernel
theorem dX0_measureBorders_35 : decode cX0_measureBorders 35 = .ok (.aload_n 0, 1) := by decide +kernel
theorem dX0_measureBorders_36 : decode cX0_measureBorders 36 = .ok (.iload_n 2, 1) := by decide +kernel
theorem dX0_measureBorders_37 : decode cX0_measureBorders 37 = .ok (.iload_n 3, 1) := by decide +kernel
theorem dX0_measureBorders_38 : decode cX0_measureBorders 38 = .ok (.invokevirtual 95, 3) := by decide +kernel
theorem dX0_measureBorders_41 : decode cX0_measureBorders 41 = .ok (.istore 4, 2) := by decide +kernel
theorem dX0_measureBorders_43 : decode cX0_measureBorders 43 = .ok (.iload 4, 2) := by decide +kernel
theorem dX0_measureBorders_45 : decode cX0_measureBorders 45 = .ok (.iconst (-1), 1) := by decide +kernel
theorem dX0_measureBorders_46 : decode cX0_measureBorders 46 = .ok (.if_icmp .eq 30, 3) := by decide +kernel
theorem dX0_measureBorders_49 : decode cX0_measureBorders 49 = .ok (.aload_n 0, 1) := by decide +kernel
theorem dX0_measureBorders_50 : decode cX0_measureBorders 50 = .ok (.getfield 28, 3) := by decide +kernel
theorem dX0_measureBorders_53 : decode cX0_measureBorders 53 = .ok (.iload 4, 2) := by decide +kernel
theorem dX0_measureBorders_55 : decode cX0_measureBorders 55 = .ok (.iaload, 1) := by decide +kernel
theorem dX0_measureBorders_56 : decode cX0_measureBorders 56 = .ok (.iload_n 1, 1) := by decide +kernel
theorem dX0_measureBorders_57 : decode cX0_measureBorders 57 = .ok (.if_icmp .eq 19, 3) := by decide +kernel
theorem dX0_measureBorders_60 : decode cX0_measureBorders 60 = .ok (.aload_n 0, 1) := by decide +kernel
theorem dX0_measureBorders_61 : decode cX0_measureBorders 61 = .ok (.getfield 34, 3) := by decide +kernel
theorem dX0_measureBorders_64 : decode cX0_measureBorders 64 = .ok (.aload_n 0, 1) := by decide +kernel
theorem dX0_measureBorders_65 : decode cX0_measureBorders 65 = .ok (.getfield 28, 3) := by decide +kernel
theorem dX0_measureBorders_68 : decode cX0_measureBorders 68 = .ok (.iload 4, 2) := by decide +kernel
theorem dX0_measureBorders_70 : decode cX0_measureBorders 70 = .ok (.iaload, 1) := by decide +kernel
theorem dX0_measureBorders_71 : decode cX0_measureBorders 71 = .ok (.dup2, 1) := by decide +kernel
theorem dX0_measureBorders_72 : decode cX0_measureBorders 72 = .ok (.iaload, 1) := by decide +kernel
theorem dX0_measureBorders_73 : decode cX0_measureBorders 73 = .ok (.iconst 1, 1) := by decide +kernel
theorem dX0_measureBorders_74 : decode cX0_measureBorders 74 = .ok (.iadd, 1) := by decide +kernel
theorem dX0_measureBorders_75 : decode cX0_measureBorders 75 = .ok (.iastore, 1) := by decide +kernel
theorem dX0_measureBorders_76 : decode cX0_measureBorders 76 = .ok (.iinc 3 1, 3) := by decide +kernel
theorem dX0_measureBorders_79 : decode cX0_measureBorders 79 = .ok (.goto (-49), 3) := by decide +kernel
theorem dX0_measureBorders_82 : decode cX0_measureBorders 82 = .ok (.iinc 2 1, 3) := by decide +kernel
theorem dX0_measureBorders_85 : decode cX0_measureBorders 85 = .ok (.goto (-75), 3) := by decide +kernel
theorem dX0_measureBorders_88 : decode cX0_measureBorders 88 = .ok (.return_, 1) := by decide +kernel
theorem c_measureBorders {s : Int} (hd : dim c r) (hs : cel c r s) (hF : ∀ k, cel c r k → F k = lw c r B k) : Cd l yX0_measureBorders cX0_measureBorders 5 none rmX0_measureBorders [.ref 0, iv s] (isM c r (c * r) ct B F S Br Q Fo No) none (isM c r (c * r) ct B F S (fun L => brd c r B s L) Q Fo No) := by
  refine Ct.of miX0_measureBorders (Nat.le_of_ble_eq_true rfl) ?_
  intro X hXl hN ok
  refine AW.cast (L2 := [some (.ref 0), some (iv s), none, none, none]) ?_ rfl rfl rfl
  have hc := dim_cells hd
  have hs1 := hs.1
  have hs2 := hs.2
  have loop : ∀ k : Nat, (k : Int) ≤ c * r → AW X 0 0 10 [some (.ref 0), some (iv s), some (iv k), none, none] [] (isM c r (c * r) ct B F S (brp c r B s k 0) Q Fo No) := by
    refine wfl (fun k : Nat => 145 - k) _ _ ?_
    intro k hk ih
    have hFk : (k : Int) < c * r → F k = lw c r B k := fun h => hF k ⟨by omega, h⟩
    have hlk := lw_rg (B := B) hd k
    have fin : (k : Int) < c * r → ∀ u v : Option Value, AW X 0 0 82 [some (.ref 0), some (iv s), some (iv k), u, v] [] (isM c r (c * r) ct B F S (brp c r B s (k + 1) 0) Q Fo No) := by
      intro hk2 u v
      refine a_iinc (pc := 82) ok dX0_measureBorders_82 rfl rfl (by rw [hN]; decide) ?_
      refine a_goto (pc := 85) (tgt := 10) ok dX0_measureBorders_85 (by decide) ?_
      exact AW.forget (ih (k + 1) (by omega) (by omega)) (by repeat' (first | exact trivial | refine ⟨rfl, ?_⟩))
    have inner : (k : Int) < c * r → lw c r B k = s → ∀ w : Nat, w ≤ 4 → AW X 0 0 30 [some (.ref 0), some (iv s), some (iv k), some (iv w), none] [] (isM c r (c * r) ct B F S (brp c r B s k w) Q Fo No) := by
      intro hk2 hks
      have hck : cel c r k := ⟨by omega, hk2⟩
      refine wfl (fun w : Nat => 5 - w) _ _ ?_
      intro w hw ih2
      have hn : w < 4 → nb c r k w ≠ -1 → cel c r (nb c r k w) := fun h h2 => (nb_back hd hck (by omega) h2).1
      have hnr : w < 4 → rg (nb c r k w) := fun h => by have := nb_rg (w := w) hd hck; unfold rg; omega
      have hFn : w < 4 → nb c r k w ≠ -1 → F (nb c r k w) = lw c r B (nb c r k w) := fun h h2 => hF _ (hn h h2)
      have hlr := lw_rg (B := B) hd (nb c r k w)
      have hlo : w < 4 → nb c r k w ≠ -1 → 0 ≤ lw c r B (nb c r k w) := fun h h2 => (lw_ok (B := B) hd (hn h h2)).1.1
      refine a_iload_n (pc := 30) ok dX0_measureBorders_30 rfl ?_
      refine a_iconst (pc := 31) ok dX0_measureBorders_31 ?_
      refine a_icmp_ge (pc := 32) (tgt := 82) ok dX0_measureBorders_32 (by decide) (by first | omega | (unfold rg; omega) | (simp only [rg] at *; omega) | exact bz_rg _ | grind [rg]) (by first | omega | (unfold rg; omega) | (simp only [rg] at *; omega) | exact bz_rg _ | grind [rg]) (fun c32 => ?_) (fun c32 => ?_)
      · obtain rfl : w = 4 := by omega
        exact AW.cast (fin (by omega) _ _) rfl rfl (congrArg (fun f => isM c r (c * r) ct B F S f Q Fo No) (brp_4 hks).symm)
      · refine a_aload_n (pc := 35) ok dX0_measureBorders_35 rfl ?_
        refine a_iload_n (pc := 36) ok dX0_measureBorders_36 rfl ?_
        refine a_iload_n (pc := 37) ok dX0_measureBorders_37 rfl ?_
        refine a_callVp (pc := 38) ok [0, 1, 2, 3, 4, 5, 6, 7] dX0_measureBorders_38 mv0_95 miX0_neighbour (c_neighbour hd hck (by omega)) ⟨by decide, by decide, rfl, rfl, Nat.zero_le _, Nat.zero_le _⟩ rfl rfl (Nat.le_of_ble_eq_true rfl) rfl (by decide) rfl rfl ?_
        refine a_istore (pc := 41) ok dX0_measureBorders_41 rfl (by rw [hN]; decide) ?_
        refine a_iload (pc := 43) ok dX0_measureBorders_43 rfl ?_
        refine a_iconst (pc := 45) ok dX0_measureBorders_45 ?_
        refine a_icmp_eq (pc := 46) (tgt := 76) ok dX0_measureBorders_46 (by decide) (by have := hnr (by omega); unfold rg at *; omega) (by have := hnr (by omega); unfold rg at *; omega) (fun c46 => ?_) (fun c46 => ?_)
        · refine a_iinc (pc := 76) ok dX0_measureBorders_76 rfl rfl (by rw [hN]; decide) ?_
          refine a_goto (pc := 79) (tgt := 30) ok dX0_measureBorders_79 (by decide) ?_
          first
          | exact AW.forget (AW.cast (ih2 (w + 1) (by omega) (by omega)) rfl rfl (congrArg (fun f => isM c r (c * r) ct B F S f Q Fo No) (brp_f (Or.inl c46)).symm)) (by repeat' (first | exact trivial | refine ⟨rfl, ?_⟩))
          | exact AW.forget (AW.cast (ih2 (w + 1) (by omega) (by omega)) rfl rfl (congrArg (fun f => isM c r (c * r) ct B F S f Q Fo No) (brp_f (Or.inr (by rw [← hFn (by omega) c46]; exact c57))).symm)) (by repeat' (first | exact trivial | refine ⟨rfl, ?_⟩))
          | exact AW.forget (AW.cast (ih2 (w + 1) (by omega) (by omega)) rfl rfl (congrArg (fun f => isM c r (c * r) ct B F S f Q Fo No) (by rw [hFn (by omega) c46]; exact (brp_t hks c46 (by rw [← hFn (by omega) c46]; exact c57)).symm))) (by repeat' (first | exact trivial | refine ⟨rfl, ?_⟩))
        · refine a_aload_n (pc := 49) ok dX0_measureBorders_49 rfl ?_
          refine a_getf (pc := 50) ok dX0_measureBorders_50 fl0_28 rfl rfl ?_
          refine a_iload (pc := 53) ok dX0_measureBorders_53 rfl ?_
          refine a_iald (pc := 55) ok dX0_measureBorders_55 rfl (by first | decide | omega) (by have a := hn (by omega) c46; have b := a.1; have d := a.2; omega) ?_
          refine a_iload_n (pc := 56) ok dX0_measureBorders_56 rfl ?_
          refine a_icmp_eq (pc := 57) (tgt := 76) ok dX0_measureBorders_57 (by decide) (by have := hFn (by omega) c46; unfold rg; omega) (by have := hFn (by omega) c46; unfold rg; omega) (fun c57 => ?_) (fun c57 => ?_)
          · refine a_iinc (pc := 76) ok dX0_measureBorders_76 rfl rfl (by rw [hN]; decide) ?_
            refine a_goto (pc := 79) (tgt := 30) ok dX0_measureBorders_79 (by decide) ?_
            first
            | exact AW.forget (AW.cast (ih2 (w + 1) (by omega) (by omega)) rfl rfl (congrArg (fun f => isM c r (c * r) ct B F S f Q Fo No) (brp_f (Or.inl c46)).symm)) (by repeat' (first | exact trivial | refine ⟨rfl, ?_⟩))
            | exact AW.forget (AW.cast (ih2 (w + 1) (by omega) (by omega)) rfl rfl (congrArg (fun f => isM c r (c * r) ct B F S f Q Fo No) (brp_f (Or.inr (by rw [← hFn (by omega) c46]; exact c57))).symm)) (by repeat' (first | exact trivial | refine ⟨rfl, ?_⟩))
            | exact AW.forget (AW.cast (ih2 (w + 1) (by omega) (by omega)) rfl rfl (congrArg (fun f => isM c r (c * r) ct B F S f Q Fo No) (by rw [hFn (by omega) c46]; exact (brp_t hks c46 (by rw [← hFn (by omega) c46]; exact c57)).symm))) (by repeat' (first | exact trivial | refine ⟨rfl, ?_⟩))
          · refine a_aload_n (pc := 60) ok dX0_measureBorders_60 rfl ?_
            refine a_getf (pc := 61) ok dX0_measureBorders_61 fl0_34 rfl rfl ?_
            refine a_aload_n (pc := 64) ok dX0_measureBorders_64 rfl ?_
            refine a_getf (pc := 65) ok dX0_measureBorders_65 fl0_28 rfl rfl ?_
            refine a_iload (pc := 68) ok dX0_measureBorders_68 rfl ?_
            refine a_iald (pc := 70) ok dX0_measureBorders_70 rfl (by first | decide | omega) (by have a := hn (by omega) c46; have b := a.1; have d := a.2; omega) ?_
            refine a_dup2 (pc := 71) ok dX0_measureBorders_71 rfl rfl ?_
            refine a_iald (pc := 72) ok dX0_measureBorders_72 rfl (by first | decide | omega) (by have := hFn (by omega) c46; have := hlo (by omega) c46; omega) ?_
            refine a_iconst (pc := 73) ok dX0_measureBorders_73 ?_
            refine a_iadd (pc := 74) ok dX0_measureBorders_74 ?_
            refine a_iast (pc := 75) ok dX0_measureBorders_75 rfl (by first | decide | omega) (by have := hFn (by omega) c46; have := hlo (by omega) c46; omega) ?_
            refine a_iinc (pc := 76) ok dX0_measureBorders_76 rfl rfl (by rw [hN]; decide) ?_
            refine a_goto (pc := 79) (tgt := 30) ok dX0_measureBorders_79 (by decide) ?_
            first
            | exact AW.forget (AW.cast (ih2 (w + 1) (by omega) (by omega)) rfl rfl (congrArg (fun f => isM c r (c * r) ct B F S f Q Fo No) (brp_f (Or.inl c46)).symm)) (by repeat' (first | exact trivial | refine ⟨rfl, ?_⟩))
            | exact AW.forget (AW.cast (ih2 (w + 1) (by omega) (by omega)) rfl rfl (congrArg (fun f => isM c r (c * r) ct B F S f Q Fo No) (brp_f (Or.inr (by rw [← hFn (by omega) c46]; exact c57))).symm)) (by repeat' (first | exact trivial | refine ⟨rfl, ?_⟩))
            | exact AW.forget (AW.cast (ih2 (w + 1) (by omega) (by omega)) rfl rfl (congrArg (fun f => isM c r (c * r) ct B F S f Q Fo No) (by rw [hFn (by omega) c46]; exact (brp_t hks c46 (by rw [← hFn (by omega) c46]; exact c57)).symm))) (by repeat' (first | exact trivial | refine ⟨rfl, ?_⟩))
    refine a_iload_n (pc := 10) ok dX0_measureBorders_10 rfl ?_
    refine a_aload_n (pc := 11) ok dX0_measureBorders_11 rfl ?_
    refine a_getf (pc := 12) ok dX0_measureBorders_12 fl0_18 rfl rfl ?_
    refine a_icmp_ge (pc := 15) (tgt := 88) ok dX0_measureBorders_15 (by decide) (by first | omega | (unfold rg; omega) | (simp only [rg] at *; omega) | exact bz_rg _ | grind [rg]) (by first | omega | (unfold rg; omega) | (simp only [rg] at *; omega) | exact bz_rg _ | grind [rg]) (fun c15 => ?_) (fun c15 => ?_)
    · exact a_vret (pc := 88) ok dX0_measureBorders_88 (⟨rfl, by rw [brd_brp, show (c * r).toNat = k by omega]⟩)
    · refine a_aload_n (pc := 18) ok dX0_measureBorders_18 rfl ?_
      refine a_getf (pc := 19) ok dX0_measureBorders_19 fl0_28 rfl rfl ?_
      refine a_iload_n (pc := 22) ok dX0_measureBorders_22 rfl ?_
      refine a_iald (pc := 23) ok dX0_measureBorders_23 rfl (by first | decide | omega) (by first | omega | (unfold rg; omega) | (simp only [rg] at *; omega) | exact bz_rg _ | grind [rg]) ?_
      refine a_iload_n (pc := 24) ok dX0_measureBorders_24 rfl ?_
      refine a_icmp_ne (pc := 25) (tgt := 82) ok dX0_measureBorders_25 (by decide) (by have := hFk (by omega); unfold rg; omega) (by have := hFk (by omega); unfold rg; omega) (fun c25 => ?_) (fun c25 => ?_)
      · exact AW.cast (fin (by omega) _ _) rfl rfl (congrArg (fun f => isM c r (c * r) ct B F S f Q Fo No) (brp_n (show lw c r B k ≠ s by have := hFk (by omega); omega)).symm)
      · refine a_iconst (pc := 28) ok dX0_measureBorders_28 ?_
        refine a_istore_n (pc := 29) ok dX0_measureBorders_29 rfl (by rw [hN]; decide) ?_
        exact AW.cast (inner (by omega) (by have := hFk (by omega); omega) 0 (by omega)) rfl rfl rfl
  refine a_aload_n (pc := 0) ok dX0_measureBorders_0 rfl ?_
  refine a_getf (pc := 1) ok dX0_measureBorders_1 fl0_34 rfl rfl ?_
  refine a_iconst (pc := 4) ok dX0_measureBorders_4 ?_
  refine a_callSv (pc := 5) ok [4] dX0_measureBorders_5 mv0_89 miAF_fill (c_fill (by omega)) ⟨by decide, by decide, rfl, rfl, Nat.zero_le _, Nat.zero_le _⟩ rfl rfl (Nat.le_of_ble_eq_true rfl) rfl (by decide) rfl ?_
  refine a_iload_n (pc := 8) ok dX0_measureBorders_8 rfl ?_
  refine a_istore_n (pc := 9) ok dX0_measureBorders_9 rfl (by rw [hN]; decide) ?_
  refine AW.cast (loop s.toNat (by omega)) (by rw [Int.toNat_of_nonneg hs1]; rfl) rfl ?_
  rw [brp_0 s s.toNat (fun j hj e => by have := (lw_ok (B := B) hd (k := j) ⟨by omega, by omega⟩).2.1; omega)]
  rfl
theorem dX0_isBetterTaker_0 : decode cX0_isBetterTaker 0 = .ok (.aload_n 0, 1) := by decide +kernel
theorem dX0_isBetterTaker_1 : decode cX0_isBetterTaker 1 = .ok (.getfield 34, 3) := by decide +kernel
theorem dX0_isBetterTaker_4 : decode cX0_isBetterTaker 4 = .ok (.iload_n 1, 1) := by decide +kernel
theorem dX0_isBetterTaker_5 : decode cX0_isBetterTaker 5 = .ok (.iaload, 1) := by decide +kernel
theorem dX0_isBetterTaker_6 : decode cX0_isBetterTaker 6 = .ok (.aload_n 0, 1) := by decide +kernel
theorem dX0_isBetterTaker_7 : decode cX0_isBetterTaker 7 = .ok (.getfield 34, 3) := by decide +kernel
theorem dX0_isBetterTaker_10 : decode cX0_isBetterTaker 10 = .ok (.iload_n 2, 1) := by decide +kernel
theorem dX0_isBetterTaker_11 : decode cX0_isBetterTaker 11 = .ok (.iaload, 1) := by decide +kernel
theorem dX0_isBetterTaker_12 : decode cX0_isBetterTaker 12 = .ok (.if_icmp .eq 24, 3) := by decide +kernel
theorem dX0_isBetterTaker_15 : decode cX0_isBetterTaker 15 = .ok (.aload_n 0, 1) := by decide +kernel
theorem dX0_isBetterTaker_16 : decode cX0_isBetterTaker 16 = .ok (.getfield 34, 3) := by decide +kernel
theorem dX0_isBetterTaker_19 : decode cX0_isBetterTaker 19 = .ok (.iload_n 1, 1) := by decide +kernel
theorem dX0_isBetterTaker_20 : decode cX0_isBetterTaker 20 = .ok (.iaload, 1) := by decide +kernel
theorem dX0_isBetterTaker_21 : decode cX0_isBetterTaker 21 = .ok (.aload_n 0, 1) := by decide +kernel
theorem dX0_isBetterTaker_22 : decode cX0_isBetterTaker 22 = .ok (.getfield 34, 3) := by decide +kernel
theorem dX0_isBetterTaker_25 : decode cX0_isBetterTaker 25 = .ok (.iload_n 2, 1) := by decide +kernel
theorem dX0_isBetterTaker_26 : decode cX0_isBetterTaker 26 = .ok (.iaload, 1) := by decide +kernel
theorem dX0_isBetterTaker_27 : decode cX0_isBetterTaker 27 = .ok (.if_icmp .le 7, 3) := by decide +kernel
theorem dX0_isBetterTaker_30 : decode cX0_isBetterTaker 30 = .ok (.iconst 1, 1) := by decide +kernel
theorem dX0_isBetterTaker_31 : decode cX0_isBetterTaker 31 = .ok (.goto 4, 3) := by decide +kernel
theorem dX0_isBetterTaker_34 : decode cX0_isBetterTaker 34 = .ok (.iconst 0, 1) := by decide +kernel
theorem dX0_isBetterTaker_35 : decode cX0_isBetterTaker 35 = .ok (.ireturn, 1) := by decide +kernel
theorem dX0_isBetterTaker_36 : decode cX0_isBetterTaker 36 = .ok (.aload_n 0, 1) := by decide +kernel
theorem dX0_isBetterTaker_37 : decode cX0_isBetterTaker 37 = .ok (.getfield 24, 3) := by decide +kernel
theorem dX0_isBetterTaker_40 : decode cX0_isBetterTaker 40 = .ok (.iload_n 1, 1) := by decide +kernel
theorem dX0_isBetterTaker_41 : decode cX0_isBetterTaker 41 = .ok (.iaload, 1) := by decide +kernel
theorem dX0_isBetterTaker_42 : decode cX0_isBetterTaker 42 = .ok (.iload_n 3, 1) := by decide +kernel
theorem dX0_isBetterTaker_43 : decode cX0_isBetterTaker 43 = .ok (.isub, 1) := by decide +kernel
theorem dX0_isBetterTaker_44 : decode cX0_isBetterTaker 44 = .ok (.invokestatic 84, 3) := by decide +kernel
theorem dX0_isBetterTaker_47 : decode cX0_isBetterTaker 47 = .ok (.istore 4, 2) := by decide +kernel
theorem dX0_isBetterTaker_49 : decode cX0_isBetterTaker 49 = .ok (.aload_n 0, 1) := by decide +kernel
theorem dX0_isBetterTaker_50 : decode cX0_isBetterTaker 50 = .ok (.getfield 24, 3) := by decide +kernel
theorem dX0_isBetterTaker_53 : decode cX0_isBetterTaker 53 = .ok (.iload_n 2, 1) := by decide +kernel
theorem dX0_isBetterTaker_54 : decode cX0_isBetterTaker 54 = .ok (.iaload, 1) := by decide +kernel
theorem dX0_isBetterTaker_55 : decode cX0_isBetterTaker 55 = .ok (.iload_n 3, 1) := by decide +kernel
theorem dX0_isBetterTaker_56 : decode cX0_isBetterTaker 56 = .ok (.isub, 1) := by decide +kernel
theorem dX0_isBetterTaker_57 : decode cX0_isBetterTaker 57 = .ok (.invokestatic 84, 3) := by decide +kernel
theorem dX0_isBetterTaker_60 : decode cX0_isBetterTaker 60 = .ok (.istore 5, 2) := by decide +kernel
theorem dX0_isBetterTaker_62 : decode cX0_isBetterTaker 62 = .ok (.iload 4, 2) := by decide +kernel
theorem dX0_isBetterTaker_64 : decode cX0_isBetterTaker 64 = .ok (.iload 5, 2) := by decide +kernel
theorem dX0_isBetterTaker_66 : decode cX0_isBetterTaker 66 = .ok (.if_icmp .eq 16, 3) := by decide +kernel
theorem dX0_isBetterTaker_69 : decode cX0_isBetterTaker 69 = .ok (.iload 4, 2) := by decide +kernel
theorem dX0_isBetterTaker_71 : decode cX0_isBetterTaker 71 = .ok (.iload 5, 2) := by decide +kernel
theorem dX0_isBetterTaker_73 : decode cX0_isBetterTaker 73 = .ok (.if_icmp .ge 7, 3) := by decide +kernel
theorem dX0_isBetterTaker_76 : decode cX0_isBetterTaker 76 = .ok (.iconst 1, 1) := by decide +kernel
theorem dX0_isBetterTaker_77 : decode cX0_isBetterTaker 77 = .ok (.goto 4, 3) := by decide +kernel
theorem dX0_isBetterTaker_80 : decode cX0_isBetterTaker 80 = .ok (.iconst 0, 1) := by decide +kernel
theorem dX0_isBetterTaker_81 : decode cX0_isBetterTaker 81 = .ok (.ireturn, 1) := by decide +kernel
theorem dX0_isBetterTaker_82 : decode cX0_isBetterTaker 82 = .ok (.aload_n 0, 1) := by decide +kernel
theorem dX0_isBetterTaker_83 : decode cX0_isBetterTaker 83 = .ok (.getfield 24, 3) := by decide +kernel
theorem dX0_isBetterTaker_86 : decode cX0_isBetterTaker 86 = .ok (.iload_n 1, 1) := by decide +kernel
theorem dX0_isBetterTaker_87 : decode cX0_isBetterTaker 87 = .ok (.iaload, 1) := by decide +kernel
theorem dX0_isBetterTaker_88 : decode cX0_isBetterTaker 88 = .ok (.aload_n 0, 1) := by decide +kernel
theorem dX0_isBetterTaker_89 : decode cX0_isBetterTaker 89 = .ok (.getfield 24, 3) := by decide +kernel
theorem dX0_isBetterTaker_92 : decode cX0_isBetterTaker 92 = .ok (.iload_n 2, 1) := by decide +kernel
theorem dX0_isBetterTaker_93 : decode cX0_isBetterTaker 93 = .ok (.iaload, 1) := by decide +kernel
theorem dX0_isBetterTaker_94 : decode cX0_isBetterTaker 94 = .ok (.if_icmp .ge 7, 3) := by decide +kernel
theorem dX0_isBetterTaker_97 : decode cX0_isBetterTaker 97 = .ok (.iconst 1, 1) := by decide +kernel
theorem dX0_isBetterTaker_98 : decode cX0_isBetterTaker 98 = .ok (.goto 4, 3) := by decide +kernel
theorem dX0_isBetterTaker_101 : decode cX0_isBetterTaker 101 = .ok (.iconst 0, 1) := by decide +kernel
theorem dX0_isBetterTaker_102 : decode cX0_isBetterTaker 102 = .ok (.ireturn, 1) := by decide +kernel
theorem c_isBetterTaker {a b s : Int} (hB : ∀ i, 0 ≤ B i ∧ B i ≤ 5) (hV : ∀ i, rg (Br i)) (ha : 0 ≤ a ∧ a < 144) (hb : 0 ≤ b ∧ b < 144) : Cd l yX0_isBetterTaker cX0_isBetterTaker 6 (some .boolean) rmX0_isBetterTaker [.ref 0, iv a, iv b, iv (B s)] (isM c r (c * r) ct B F S Br Q Fo No) (some (iv (bz (bet B Br s a b)))) (isM c r (c * r) ct B F S Br Q Fo No) := by
  refine Ct.of miX0_isBetterTaker (Nat.le_of_ble_eq_true rfl) ?_
  intro X hXl hN ok
  refine AW.cast (L2 := [some (.ref 0), some (iv a), some (iv b), some (iv (B s)), none, none]) ?_ rfl rfl rfl
  have h1 := hB a
  have h2 := hB b
  have h3 := hB s
  have h4 := hV a
  have h5 := hV b
  refine a_aload_n (pc := 0) ok dX0_isBetterTaker_0 rfl ?_
  refine a_getf (pc := 1) ok dX0_isBetterTaker_1 fl0_34 rfl rfl ?_
  refine a_iload_n (pc := 4) ok dX0_isBetterTaker_4 rfl ?_
  refine a_iald (pc := 5) ok dX0_isBetterTaker_5 rfl (by first | decide | omega) (by first | omega | (unfold rg; omega) | (simp only [rg] at *; omega) | exact bz_rg _ | grind [rg]) ?_
  refine a_aload_n (pc := 6) ok dX0_isBetterTaker_6 rfl ?_
  refine a_getf (pc := 7) ok dX0_isBetterTaker_7 fl0_34 rfl rfl ?_
  refine a_iload_n (pc := 10) ok dX0_isBetterTaker_10 rfl ?_
  refine a_iald (pc := 11) ok dX0_isBetterTaker_11 rfl (by first | decide | omega) (by first | omega | (unfold rg; omega) | (simp only [rg] at *; omega) | exact bz_rg _ | grind [rg]) ?_
  refine a_icmp_eq (pc := 12) (tgt := 36) ok dX0_isBetterTaker_12 (by decide) (by first | omega | (unfold rg; omega) | (simp only [rg] at *; omega) | exact bz_rg _ | grind [rg]) (by first | omega | (unfold rg; omega) | (simp only [rg] at *; omega) | exact bz_rg _ | grind [rg]) (fun c12 => ?_) (fun c12 => ?_)
  · refine a_aload_n (pc := 36) ok dX0_isBetterTaker_36 rfl ?_
    refine a_getf (pc := 37) ok dX0_isBetterTaker_37 fl0_24 rfl rfl ?_
    refine a_iload_n (pc := 40) ok dX0_isBetterTaker_40 rfl ?_
    refine a_iald (pc := 41) ok dX0_isBetterTaker_41 rfl (by first | decide | omega) (by first | omega | (unfold rg; omega) | (simp only [rg] at *; omega) | exact bz_rg _ | grind [rg]) ?_
    refine a_iload_n (pc := 42) ok dX0_isBetterTaker_42 rfl ?_
    refine a_isub (pc := 43) ok dX0_isBetterTaker_43 ?_
    refine a_mabs (pc := 44) ok dX0_isBetterTaker_44 (ug3 89 (by decide +kernel) rfl) ⟨by decide, by decide, Nat.zero_le _, Nat.zero_le _⟩ (by decide) (by first | omega | (unfold rg; omega) | (simp only [rg] at *; omega) | exact bz_rg _ | grind [rg]) ?_
    refine a_istore (pc := 47) ok dX0_isBetterTaker_47 rfl (by rw [hN]; decide) ?_
    refine a_aload_n (pc := 49) ok dX0_isBetterTaker_49 rfl ?_
    refine a_getf (pc := 50) ok dX0_isBetterTaker_50 fl0_24 rfl rfl ?_
    refine a_iload_n (pc := 53) ok dX0_isBetterTaker_53 rfl ?_
    refine a_iald (pc := 54) ok dX0_isBetterTaker_54 rfl (by first | decide | omega) (by first | omega | (unfold rg; omega) | (simp only [rg] at *; omega) | exact bz_rg _ | grind [rg]) ?_
    refine a_iload_n (pc := 55) ok dX0_isBetterTaker_55 rfl ?_
    refine a_isub (pc := 56) ok dX0_isBetterTaker_56 ?_
    refine a_mabs (pc := 57) ok dX0_isBetterTaker_57 (ug3 89 (by decide +kernel) rfl) ⟨by decide, by decide, Nat.zero_le _, Nat.zero_le _⟩ (by decide) (by first | omega | (unfold rg; omega) | (simp only [rg] at *; omega) | exact bz_rg _ | grind [rg]) ?_
    refine a_istore (pc := 60) ok dX0_isBetterTaker_60 rfl (by rw [hN]; decide) ?_
    refine a_iload (pc := 62) ok dX0_isBetterTaker_62 rfl ?_
    refine a_iload (pc := 64) ok dX0_isBetterTaker_64 rfl ?_
    refine a_icmp_eq (pc := 66) (tgt := 82) ok dX0_isBetterTaker_66 (by decide) (by first | omega | (unfold rg; omega) | (simp only [rg] at *; omega) | exact bz_rg _ | grind [rg]) (by first | omega | (unfold rg; omega) | (simp only [rg] at *; omega) | exact bz_rg _ | grind [rg]) (fun c66 => ?_) (fun c66 => ?_)
    · refine a_aload_n (pc := 82) ok dX0_isBetterTaker_82 rfl ?_
      refine a_getf (pc := 83) ok dX0_isBetterTaker_83 fl0_24 rfl rfl ?_
      refine a_iload_n (pc := 86) ok dX0_isBetterTaker_86 rfl ?_
      refine a_iald (pc := 87) ok dX0_isBetterTaker_87 rfl (by first | decide | omega) (by first | omega | (unfold rg; omega) | (simp only [rg] at *; omega) | exact bz_rg _ | grind [rg]) ?_
      refine a_aload_n (pc := 88) ok dX0_isBetterTaker_88 rfl ?_
      refine a_getf (pc := 89) ok dX0_isBetterTaker_89 fl0_24 rfl rfl ?_
      refine a_iload_n (pc := 92) ok dX0_isBetterTaker_92 rfl ?_
      refine a_iald (pc := 93) ok dX0_isBetterTaker_93 rfl (by first | decide | omega) (by first | omega | (unfold rg; omega) | (simp only [rg] at *; omega) | exact bz_rg _ | grind [rg]) ?_
      refine a_icmp_ge (pc := 94) (tgt := 101) ok dX0_isBetterTaker_94 (by decide) (by first | omega | (unfold rg; omega) | (simp only [rg] at *; omega) | exact bz_rg _ | grind [rg]) (by first | omega | (unfold rg; omega) | (simp only [rg] at *; omega) | exact bz_rg _ | grind [rg]) (fun c94 => ?_) (fun c94 => ?_)
      · refine a_iconst (pc := 101) ok dX0_isBetterTaker_101 ?_
        exact a_zret (pc := 102) ok dX0_isBetterTaker_102 (by first | rfl | exact nb_bz _ | decide) (⟨by unfold bet ab; first | exact congrArg (fun z => some (iv z)) (bz_pos (by omega)).symm | exact congrArg (fun z => some (iv z)) (bz_neg (by omega)).symm, rfl⟩)
      · refine a_iconst (pc := 97) ok dX0_isBetterTaker_97 ?_
        refine a_goto (pc := 98) (tgt := 102) ok dX0_isBetterTaker_98 (by decide) ?_
        exact a_zret (pc := 102) ok dX0_isBetterTaker_102 (by first | rfl | exact nb_bz _ | decide) (⟨by unfold bet ab; first | exact congrArg (fun z => some (iv z)) (bz_pos (by omega)).symm | exact congrArg (fun z => some (iv z)) (bz_neg (by omega)).symm, rfl⟩)
    · refine a_iload (pc := 69) ok dX0_isBetterTaker_69 rfl ?_
      refine a_iload (pc := 71) ok dX0_isBetterTaker_71 rfl ?_
      refine a_icmp_ge (pc := 73) (tgt := 80) ok dX0_isBetterTaker_73 (by decide) (by first | omega | (unfold rg; omega) | (simp only [rg] at *; omega) | exact bz_rg _ | grind [rg]) (by first | omega | (unfold rg; omega) | (simp only [rg] at *; omega) | exact bz_rg _ | grind [rg]) (fun c73 => ?_) (fun c73 => ?_)
      · refine a_iconst (pc := 80) ok dX0_isBetterTaker_80 ?_
        exact a_zret (pc := 81) ok dX0_isBetterTaker_81 (by first | rfl | exact nb_bz _ | decide) (⟨by unfold bet ab; first | exact congrArg (fun z => some (iv z)) (bz_pos (by omega)).symm | exact congrArg (fun z => some (iv z)) (bz_neg (by omega)).symm, rfl⟩)
      · refine a_iconst (pc := 76) ok dX0_isBetterTaker_76 ?_
        refine a_goto (pc := 77) (tgt := 81) ok dX0_isBetterTaker_77 (by decide) ?_
        exact a_zret (pc := 81) ok dX0_isBetterTaker_81 (by first | rfl | exact nb_bz _ | decide) (⟨by unfold bet ab; first | exact congrArg (fun z => some (iv z)) (bz_pos (by omega)).symm | exact congrArg (fun z => some (iv z)) (bz_neg (by omega)).symm, rfl⟩)
  · refine a_aload_n (pc := 15) ok dX0_isBetterTaker_15 rfl ?_
    refine a_getf (pc := 16) ok dX0_isBetterTaker_16 fl0_34 rfl rfl ?_
    refine a_iload_n (pc := 19) ok dX0_isBetterTaker_19 rfl ?_
    refine a_iald (pc := 20) ok dX0_isBetterTaker_20 rfl (by first | decide | omega) (by first | omega | (unfold rg; omega) | (simp only [rg] at *; omega) | exact bz_rg _ | grind [rg]) ?_
    refine a_aload_n (pc := 21) ok dX0_isBetterTaker_21 rfl ?_
    refine a_getf (pc := 22) ok dX0_isBetterTaker_22 fl0_34 rfl rfl ?_
    refine a_iload_n (pc := 25) ok dX0_isBetterTaker_25 rfl ?_
    refine a_iald (pc := 26) ok dX0_isBetterTaker_26 rfl (by first | decide | omega) (by first | omega | (unfold rg; omega) | (simp only [rg] at *; omega) | exact bz_rg _ | grind [rg]) ?_
    refine a_icmp_le (pc := 27) (tgt := 34) ok dX0_isBetterTaker_27 (by decide) (by first | omega | (unfold rg; omega) | (simp only [rg] at *; omega) | exact bz_rg _ | grind [rg]) (by first | omega | (unfold rg; omega) | (simp only [rg] at *; omega) | exact bz_rg _ | grind [rg]) (fun c27 => ?_) (fun c27 => ?_)
    · refine a_iconst (pc := 34) ok dX0_isBetterTaker_34 ?_
      exact a_zret (pc := 35) ok dX0_isBetterTaker_35 (by first | rfl | exact nb_bz _ | decide) (⟨by unfold bet ab; first | exact congrArg (fun z => some (iv z)) (bz_pos (by omega)).symm | exact congrArg (fun z => some (iv z)) (bz_neg (by omega)).symm, rfl⟩)
    · refine a_iconst (pc := 30) ok dX0_isBetterTaker_30 ?_
      refine a_goto (pc := 31) (tgt := 35) ok dX0_isBetterTaker_31 (by decide) ?_
      exact a_zret (pc := 35) ok dX0_isBetterTaker_35 (by first | rfl | exact nb_bz _ | decide) (⟨by unfold bet ab; first | exact congrArg (fun z => some (iv z)) (bz_pos (by omega)).symm | exact congrArg (fun z => some (iv z)) (bz_neg (by omega)).symm, rfl⟩)
theorem dX0_takerOf_0 : decode cX0_takerOf 0 = .ok (.aload_n 0, 1) := by decide +kernel
theorem dX0_takerOf_1 : decode cX0_takerOf 1 = .ok (.iload_n 1, 1) := by decide +kernel
theorem dX0_takerOf_2 : decode cX0_takerOf 2 = .ok (.invokevirtual 77, 3) := by decide +kernel
theorem dX0_takerOf_5 : decode cX0_takerOf 5 = .ok (.iconst (-1), 1) := by decide +kernel
theorem dX0_takerOf_6 : decode cX0_takerOf 6 = .ok (.istore_n 2, 1) := by decide +kernel
theorem dX0_takerOf_7 : decode cX0_takerOf 7 = .ok (.iconst 0, 1) := by decide +kernel
theorem dX0_takerOf_8 : decode cX0_takerOf 8 = .ok (.istore_n 3, 1) := by decide +kernel
theorem dX0_takerOf_9 : decode cX0_takerOf 9 = .ok (.iload_n 3, 1) := by decide +kernel
theorem dX0_takerOf_10 : decode cX0_takerOf 10 = .ok (.aload_n 0, 1) := by decide +kernel
theorem dX0_takerOf_11 : decode cX0_takerOf 11 = .ok (.getfield 18, 3) := by decide +kernel
theorem dX0_takerOf_14 : decode cX0_takerOf 14 = .ok (.if_icmp .ge 40, 3) := by decide +kernel
theorem dX0_takerOf_17 : decode cX0_takerOf 17 = .ok (.aload_n 0, 1) := by decide +kernel
theorem dX0_takerOf_18 : decode cX0_takerOf 18 = .ok (.getfield 34, 3) := by decide +kernel
theorem dX0_takerOf_21 : decode cX0_takerOf 21 = .ok (.iload_n 3, 1) := by decide +kernel
theorem dX0_takerOf_22 : decode cX0_takerOf 22 = .ok (.iaload, 1) := by decide +kernel
theorem dX0_takerOf_23 : decode cX0_takerOf 23 = .ok (.ifCond .le 25, 3) := by decide +kernel
theorem dX0_takerOf_26 : decode cX0_takerOf 26 = .ok (.iload_n 2, 1) := by decide +kernel
theorem dX0_takerOf_27 : decode cX0_takerOf 27 = .ok (.iconst (-1), 1) := by decide +kernel
theorem dX0_takerOf_28 : decode cX0_takerOf 28 = .ok (.if_icmp .eq 18, 3) := by decide +kernel
theorem dX0_takerOf_31 : decode cX0_takerOf 31 = .ok (.aload_n 0, 1) := by decide +kernel
theorem dX0_takerOf_32 : decode cX0_takerOf 32 = .ok (.iload_n 3, 1) := by decide +kernel
theorem dX0_takerOf_33 : decode cX0_takerOf 33 = .ok (.iload_n 2, 1) := by decide +kernel
theorem dX0_takerOf_34 : decode cX0_takerOf 34 = .ok (.aload_n 0, 1) := by decide +kernel
theorem dX0_takerOf_35 : decode cX0_takerOf 35 = .ok (.getfield 24, 3) := by decide +kernel
theorem dX0_takerOf_38 : decode cX0_takerOf 38 = .ok (.iload_n 1, 1) := by decide +kernel
theorem dX0_takerOf_39 : decode cX0_takerOf 39 = .ok (.iaload, 1) := by decide +kernel
theorem dX0_takerOf_40 : decode cX0_takerOf 40 = .ok (.invokevirtual 80, 3) := by decide +kernel
theorem dX0_takerOf_43 : decode cX0_takerOf 43 = .ok (.ifCond .eq 5, 3) := by decide +kernel
theorem dX0_takerOf_46 : decode cX0_takerOf 46 = .ok (.iload_n 3, 1) := by decide +kernel
theorem dX0_takerOf_47 : decode cX0_takerOf 47 = .ok (.istore_n 2, 1) := by decide +kernel
theorem dX0_takerOf_48 : decode cX0_takerOf 48 = .ok (.iinc 3 1, 3) := by decide +kernel
theorem dX0_takerOf_51 : decode cX0_takerOf 51 = .ok (.goto (-42), 3) := by decide +kernel
theorem dX0_takerOf_54 : decode cX0_takerOf 54 = .ok (.iload_n 2, 1) := by decide +kernel
theorem dX0_takerOf_55 : decode cX0_takerOf 55 = .ok (.ireturn, 1) := by decide +kernel
theorem c_takerOf {s : Int} (hd : dim c r) (hs : cel c r s) (hI : IV c r ct B F S) : Cd l yX0_takerOf cX0_takerOf 4 (some .int) rmX0_takerOf [.ref 0, iv s] (isM c r (c * r) ct B F S Br Q Fo No) (some (iv (tkL c r B s))) (isM c r (c * r) ct B F S (fun L => brd c r B s L) Q Fo No) := by
  refine Ct.of miX0_takerOf (Nat.le_of_ble_eq_true rfl) ?_
  intro X hXl hN ok
  refine AW.cast (L2 := [some (.ref 0), some (iv s), none, none]) ?_ rfl rfl rfl
  obtain ⟨hB, -, -, h4, -, -⟩ := hI
  have hc := dim_cells hd
  have hs1 := hs.1
  have hs2 := hs.2
  have hbr : ∀ L, rg (brd c r B s L) := fun L => by have := brd_rg (B := B) hd s L; unfold rg; omega
  have loop : ∀ k : Nat, (k : Int) ≤ c * r → AW X 0 0 9 [some (.ref 0), some (iv s), some (iv (tkK c r B s k)), some (iv k)] [] (isM c r (c * r) ct B F S (fun L => brd c r B s L) Q Fo No) := by
    refine wfl (fun k : Nat => 145 - k) _ _ ?_
    intro k hk ih
    have htk := (tkK_ok (c := c) (r := r) (B := B) (s := s) k).2
    have hbk := hbr k
    have e1 : 0 < brd c r B s k ∧ (tkK c r B s k = -1 ∨ bet B (brd c r B s) s k (tkK c r B s k)) → tkK c r B s (k + 1) = k := fun h => by simp only [tkK]; exact if_pos h
    have e2 : ¬ (0 < brd c r B s k ∧ (tkK c r B s k = -1 ∨ bet B (brd c r B s) s k (tkK c r B s k))) → tkK c r B s (k + 1) = tkK c r B s k := fun h => by simp only [tkK]; exact if_neg h
    refine a_iload_n (pc := 9) ok dX0_takerOf_9 rfl ?_
    refine a_aload_n (pc := 10) ok dX0_takerOf_10 rfl ?_
    refine a_getf (pc := 11) ok dX0_takerOf_11 fl0_18 rfl rfl ?_
    refine a_icmp_ge (pc := 14) (tgt := 54) ok dX0_takerOf_14 (by decide) (by first | omega | (unfold rg; omega) | (simp only [rg] at *; omega) | exact bz_rg _ | grind [rg]) (by first | omega | (unfold rg; omega) | (simp only [rg] at *; omega) | exact bz_rg _ | grind [rg]) (fun c14 => ?_) (fun c14 => ?_)
    · refine a_iload_n (pc := 54) ok dX0_takerOf_54 rfl ?_
      exact a_iret (pc := 55) ok dX0_takerOf_55 (⟨by unfold tkL; rw [show (c * r).toNat = k by omega], rfl⟩)
    · refine a_aload_n (pc := 17) ok dX0_takerOf_17 rfl ?_
      refine a_getf (pc := 18) ok dX0_takerOf_18 fl0_34 rfl rfl ?_
      refine a_iload_n (pc := 21) ok dX0_takerOf_21 rfl ?_
      refine a_iald (pc := 22) ok dX0_takerOf_22 rfl (by first | decide | omega) (by first | omega | (unfold rg; omega) | (simp only [rg] at *; omega) | exact bz_rg _ | grind [rg]) ?_
      refine a_if_le (pc := 23) (tgt := 48) ok dX0_takerOf_23 (by decide) (by first | omega | (unfold rg; omega) | (simp only [rg] at *; omega) | exact bz_rg _ | grind [rg]) (fun c23 => ?_) (fun c23 => ?_)
      · refine a_iinc (pc := 48) ok dX0_takerOf_48 rfl rfl (by rw [hN]; decide) ?_
        refine a_goto (pc := 51) (tgt := 9) ok dX0_takerOf_51 (by decide) ?_
        first
        | exact AW.cast (ih (k + 1) (by omega) (by omega)) (by rw [e1 ⟨by omega, Or.inl c28⟩]; rfl) rfl rfl
        | exact AW.cast (ih (k + 1) (by omega) (by omega)) (by rw [e1 ⟨by omega, Or.inr (Classical.byContradiction fun z => c43 (bz_neg z))⟩]; rfl) rfl rfl
        | exact AW.cast (ih (k + 1) (by omega) (by omega)) (by rw [e2 (fun z => by rcases z.2 with y | y; exact c28 y; rw [bz_pos y] at c43; exact absurd c43 (by decide))]; rfl) rfl rfl
        | exact AW.cast (ih (k + 1) (by omega) (by omega)) (by rw [e2 (fun z => by have := z.1; omega)]; rfl) rfl rfl
      · refine a_iload_n (pc := 26) ok dX0_takerOf_26 rfl ?_
        refine a_iconst (pc := 27) ok dX0_takerOf_27 ?_
        refine a_icmp_eq (pc := 28) (tgt := 46) ok dX0_takerOf_28 (by decide) (by first | omega | (unfold rg; omega) | (simp only [rg] at *; omega) | exact bz_rg _ | grind [rg]) (by first | omega | (unfold rg; omega) | (simp only [rg] at *; omega) | exact bz_rg _ | grind [rg]) (fun c28 => ?_) (fun c28 => ?_)
        · refine a_iload_n (pc := 46) ok dX0_takerOf_46 rfl ?_
          refine a_istore_n (pc := 47) ok dX0_takerOf_47 rfl (by rw [hN]; decide) ?_
          refine a_iinc (pc := 48) ok dX0_takerOf_48 rfl rfl (by rw [hN]; decide) ?_
          refine a_goto (pc := 51) (tgt := 9) ok dX0_takerOf_51 (by decide) ?_
          first
          | exact AW.cast (ih (k + 1) (by omega) (by omega)) (by rw [e1 ⟨by omega, Or.inl c28⟩]; rfl) rfl rfl
          | exact AW.cast (ih (k + 1) (by omega) (by omega)) (by rw [e1 ⟨by omega, Or.inr (Classical.byContradiction fun z => c43 (bz_neg z))⟩]; rfl) rfl rfl
          | exact AW.cast (ih (k + 1) (by omega) (by omega)) (by rw [e2 (fun z => by rcases z.2 with y | y; exact c28 y; rw [bz_pos y] at c43; exact absurd c43 (by decide))]; rfl) rfl rfl
          | exact AW.cast (ih (k + 1) (by omega) (by omega)) (by rw [e2 (fun z => by have := z.1; omega)]; rfl) rfl rfl
        · refine a_aload_n (pc := 31) ok dX0_takerOf_31 rfl ?_
          refine a_iload_n (pc := 32) ok dX0_takerOf_32 rfl ?_
          refine a_iload_n (pc := 33) ok dX0_takerOf_33 rfl ?_
          refine a_aload_n (pc := 34) ok dX0_takerOf_34 rfl ?_
          refine a_getf (pc := 35) ok dX0_takerOf_35 fl0_24 rfl rfl ?_
          refine a_iload_n (pc := 38) ok dX0_takerOf_38 rfl ?_
          refine a_iald (pc := 39) ok dX0_takerOf_39 rfl (by first | decide | omega) (by first | omega | (unfold rg; omega) | (simp only [rg] at *; omega) | exact bz_rg _ | grind [rg]) ?_
          refine a_callVp (pc := 40) ok [0, 1, 2, 3, 4, 5, 6, 7] dX0_takerOf_40 mv0_80 miX0_isBetterTaker (c_isBetterTaker hB hbr (by omega) (by omega)) ⟨by decide, by decide, rfl, rfl, Nat.zero_le _, Nat.zero_le _⟩ rfl rfl (Nat.le_of_ble_eq_true rfl) rfl (by decide) rfl rfl ?_
          refine a_if_eq (pc := 43) (tgt := 48) ok dX0_takerOf_43 (by decide) (by first | omega | (unfold rg; omega) | (simp only [rg] at *; omega) | exact bz_rg _ | grind [rg]) (fun c43 => ?_) (fun c43 => ?_)
          · refine a_iinc (pc := 48) ok dX0_takerOf_48 rfl rfl (by rw [hN]; decide) ?_
            refine a_goto (pc := 51) (tgt := 9) ok dX0_takerOf_51 (by decide) ?_
            first
            | exact AW.cast (ih (k + 1) (by omega) (by omega)) (by rw [e1 ⟨by omega, Or.inl c28⟩]; rfl) rfl rfl
            | exact AW.cast (ih (k + 1) (by omega) (by omega)) (by rw [e1 ⟨by omega, Or.inr (Classical.byContradiction fun z => c43 (bz_neg z))⟩]; rfl) rfl rfl
            | exact AW.cast (ih (k + 1) (by omega) (by omega)) (by rw [e2 (fun z => by rcases z.2 with y | y; exact c28 y; rw [bz_pos y] at c43; exact absurd c43 (by decide))]; rfl) rfl rfl
            | exact AW.cast (ih (k + 1) (by omega) (by omega)) (by rw [e2 (fun z => by have := z.1; omega)]; rfl) rfl rfl
          · refine a_iload_n (pc := 46) ok dX0_takerOf_46 rfl ?_
            refine a_istore_n (pc := 47) ok dX0_takerOf_47 rfl (by rw [hN]; decide) ?_
            refine a_iinc (pc := 48) ok dX0_takerOf_48 rfl rfl (by rw [hN]; decide) ?_
            refine a_goto (pc := 51) (tgt := 9) ok dX0_takerOf_51 (by decide) ?_
            first
            | exact AW.cast (ih (k + 1) (by omega) (by omega)) (by rw [e1 ⟨by omega, Or.inl c28⟩]; rfl) rfl rfl
            | exact AW.cast (ih (k + 1) (by omega) (by omega)) (by rw [e1 ⟨by omega, Or.inr (Classical.byContradiction fun z => c43 (bz_neg z))⟩]; rfl) rfl rfl
            | exact AW.cast (ih (k + 1) (by omega) (by omega)) (by rw [e2 (fun z => by rcases z.2 with y | y; exact c28 y; rw [bz_pos y] at c43; exact absurd c43 (by decide))]; rfl) rfl rfl
            | exact AW.cast (ih (k + 1) (by omega) (by omega)) (by rw [e2 (fun z => by have := z.1; omega)]; rfl) rfl rfl
  refine a_aload_n (pc := 0) ok dX0_takerOf_0 rfl ?_
  refine a_iload_n (pc := 1) ok dX0_takerOf_1 rfl ?_
  refine a_callVv (pc := 2) ok [0, 1, 2, 3, 4, 5, 6, 7] dX0_takerOf_2 mv0_77 miX0_measureBorders (c_measureBorders hd hs h4) ⟨by decide, by decide, rfl, rfl, Nat.zero_le _, Nat.zero_le _⟩ rfl rfl (Nat.le_of_ble_eq_true rfl) rfl (by decide) rfl rfl rfl ?_
  refine a_iconst (pc := 5) ok dX0_takerOf_5 ?_
  refine a_istore_n (pc := 6) ok dX0_takerOf_6 rfl (by rw [hN]; decide) ?_
  refine a_iconst (pc := 7) ok dX0_takerOf_7 ?_
  refine a_istore_n (pc := 8) ok dX0_takerOf_8 rfl (by rw [hN]; decide) ?_
  exact AW.cast (loop 0 (by omega)) rfl rfl rfl
end IS2
