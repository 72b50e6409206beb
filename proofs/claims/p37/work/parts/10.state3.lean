/-! STATE: thresholds taken out, bands, shares. -/
section ST3
variable {l : Launch} {c r le li : Int} {G T Hh : Int → Int}
/-- the thresholds without the one at p -/
def remT (T : Int → Int) (n : Nat) (p : Int) : Int → Int := fun j => if p ≤ j ∧ j < (n : Int) - 1 then T (j + 1) else T j
theorem dX4_takeThreshold_0 : decode cX4_takeThreshold 0 = .ok (.iconst 0, 1) := by decide +kernel
theorem dX4_takeThreshold_1 : decode cX4_takeThreshold 1 = .ok (.istore_n 2, 1) := by decide +kernel
theorem dX4_takeThreshold_2 : decode cX4_takeThreshold 2 = .ok (.iconst 0, 1) := by decide +kernel
theorem dX4_takeThreshold_3 : decode cX4_takeThreshold 3 = .ok (.istore_n 3, 1) := by decide +kernel
theorem dX4_takeThreshold_4 : decode cX4_takeThreshold 4 = .ok (.iload_n 3, 1) := by decide +kernel
theorem dX4_takeThreshold_5 : decode cX4_takeThreshold 5 = .ok (.aload_n 0, 1) := by decide +kernel
theorem dX4_takeThreshold_6 : decode cX4_takeThreshold 6 = .ok (.getfield 28, 3) := by decide +kernel
theorem dX4_takeThreshold_9 : decode cX4_takeThreshold 9 = .ok (.if_icmp .ge 34, 3) := by decide +kernel
theorem dX4_takeThreshold_12 : decode cX4_takeThreshold 12 = .ok (.aload_n 0, 1) := by decide +kernel
theorem dX4_takeThreshold_13 : decode cX4_takeThreshold 13 = .ok (.getfield 15, 3) := by decide +kernel
theorem dX4_takeThreshold_16 : decode cX4_takeThreshold 16 = .ok (.iload_n 3, 1) := by decide +kernel
theorem dX4_takeThreshold_17 : decode cX4_takeThreshold 17 = .ok (.iaload, 1) := by decide +kernel
theorem dX4_takeThreshold_18 : decode cX4_takeThreshold 18 = .ok (.iload_n 1, 1) := by decide +kernel
theorem dX4_takeThreshold_19 : decode cX4_takeThreshold 19 = .ok (.if_icmp .eq 18, 3) := by decide +kernel
theorem dX4_takeThreshold_22 : decode cX4_takeThreshold 22 = .ok (.aload_n 0, 1) := by decide +kernel
theorem dX4_takeThreshold_23 : decode cX4_takeThreshold 23 = .ok (.getfield 15, 3) := by decide +kernel
theorem dX4_takeThreshold_26 : decode cX4_takeThreshold 26 = .ok (.iload_n 2, 1) := by decide +kernel
theorem dX4_takeThreshold_27 : decode cX4_takeThreshold 27 = .ok (.aload_n 0, 1) := by decide +kernel
theorem dX4_takeThreshold_28 : decode cX4_takeThreshold 28 = .ok (.getfield 15, 3) := by decide +kernel
theorem dX4_takeThreshold_31 : decode cX4_takeThreshold 31 = .ok (.iload_n 3, 1) := by decide +kernel
theorem dX4_takeThreshold_32 : decode cX4_takeThreshold 32 = .ok (.iaload, 1) := by decide +kernel
theorem dX4_takeThreshold_33 : decode cX4_takeThreshold 33 = .ok (.iastore, 1) := by decide +kernel
theorem dX4_takeThreshold_34 : decode cX4_takeThreshold 34 = .ok (.iinc 2 1, 3) := by decide +kernel
theorem dX4_takeThreshold_37 : decode cX4_takeThreshold 37 = .ok (.iinc 3 1, 3) := by decide +kernel
theorem dX4_takeThreshold_40 : decode cX4_takeThreshold 40 = .ok (.goto (-36), 3) := by decide +kernel
theorem dX4_takeThreshold_43 : decode cX4_takeThreshold 43 = .ok (.aload_n 0, 1) := by decide +kernel
theorem dX4_takeThreshold_44 : decode cX4_takeThreshold 44 = .ok (.iload_n 2, 1) := by decide +kernel
theorem dX4_takeThreshold_45 : decode cX4_takeThreshold 45 = .ok (.putfield 28, 3) := by decide +kernel
theorem dX4_takeThreshold_48 : decode cX4_takeThreshold 48 = .ok (.return_, 1) := by decide +kernel
theorem c_takeThreshold {n : Nat} {v p : Int} (hn : n ≤ 5) (hT : ∀ i, rg (T i)) (hs : srt T n) (hv : rg v) (hp : 0 ≤ p ∧ p < n) (hpv : T p = v) : Cd l yX4_takeThreshold cX4_takeThreshold 4 none rmX4_takeThreshold [.ref 0, iv v] (stM c r G T n le Hh li) none (stM c r G (remT T n p) (n - 1 : Int) le Hh li) := by
  refine Ct.of miX4_takeThreshold (Nat.le_of_ble_eq_true rfl) ?_
  intro X hXl hN ok
  refine AW.cast (L2 := [some (.ref 0), some (iv v), none, none]) ?_ rfl rfl rfl
  have loop1 : ∀ k : Nat, (p < k ∧ k ≤ n) → AW X 0 0 4 [some (.ref 0), some (iv v), some (iv ((k : Int) - 1)), some (iv k)] [] (stM c r G (fun j => if p ≤ j ∧ j < (k : Int) - 1 then T (j + 1) else T j) n le Hh li) := by
    refine wfl (fun k : Nat => n - k) _ _ ?_
    intro k hk ih
    have hTk := hT k
    have hz : (if p ≤ (k : Int) ∧ (k : Int) < (k : Int) - 1 then T ((k : Int) + 1) else T k) = T k := if_neg (by omega)
    have hlt : (k : Int) < n → v < T k := fun h => by rw [← hpv]; exact hs p k hp.1 hk.1 h
    refine a_iload_n (pc := 4) ok dX4_takeThreshold_4 rfl ?_
    refine a_aload_n (pc := 5) ok dX4_takeThreshold_5 rfl ?_
    refine a_getf (pc := 6) ok dX4_takeThreshold_6 fl4_28 rfl rfl ?_
    refine a_icmp_ge (pc := 9) (tgt := 43) ok dX4_takeThreshold_9 (by decide) (by first | omega | (unfold rg; omega) | (simp only [rg] at *; omega) | exact bz_rg _ | grind [rg]) (by first | omega | (unfold rg; omega) | (simp only [rg] at *; omega) | exact bz_rg _ | grind [rg]) (fun c9 => ?_) (fun c9 => ?_)
    · have e : k = n := by omega
      subst e
      refine a_aload_n (pc := 43) ok dX4_takeThreshold_43 rfl ?_
      refine a_iload_n (pc := 44) ok dX4_takeThreshold_44 rfl ?_
      refine a_putf (pc := 45) ok dX4_takeThreshold_45 fp4_28 rfl (by first | rfl | decide) (by first | rfl | decide) (Nat.le_of_ble_eq_true rfl) ?_
      exact a_vret (pc := 48) ok dX4_takeThreshold_48 (⟨rfl, rfl⟩)
    · refine a_aload_n (pc := 12) ok dX4_takeThreshold_12 rfl ?_
      refine a_getf (pc := 13) ok dX4_takeThreshold_13 fl4_15 rfl rfl ?_
      refine a_iload_n (pc := 16) ok dX4_takeThreshold_16 rfl ?_
      refine a_iald (pc := 17) ok dX4_takeThreshold_17 rfl (by first | decide | omega) (by first | omega | (unfold rg; omega) | (simp only [rg] at *; omega) | exact bz_rg _ | grind [rg]) ?_
      refine a_iload_n (pc := 18) ok dX4_takeThreshold_18 rfl ?_
      refine AW.cast (st2 := [iv v, iv (T k)]) ?_ rfl (by rw [hz]) rfl
      refine a_icmp_eq (pc := 19) (tgt := 37) ok dX4_takeThreshold_19 (by decide) (by first | omega | (unfold rg; omega) | (simp only [rg] at *; omega) | exact bz_rg _ | grind [rg]) (by first | omega | (unfold rg; omega) | (simp only [rg] at *; omega) | exact bz_rg _ | grind [rg]) (fun c19 => ?_) (fun c19 => ?_)
      · first
        | (exfalso; have := hlt (by omega); omega)
        | (refine a_iinc (pc := 37) ok dX4_takeThreshold_37 rfl rfl (by rw [hN]; decide) ?_
           refine a_goto (pc := 40) (tgt := 4) ok dX4_takeThreshold_40 (by decide) ?_
           refine AW.cast (ih (k + 1) ⟨by omega, by omega⟩ (by omega)) ?_ rfl ?_
           · rw [show ((k + 1 : Nat) : Int) - 1 = (k : Int) - 1 + 1 by omega]; rfl
           · have e : up (fun j => if p ≤ j ∧ j < (k : Int) - 1 then T (j + 1) else T j) ((k : Int) - 1) (T k) = fun j => if p ≤ j ∧ j < ((k + 1 : Nat) : Int) - 1 then T (j + 1) else T j := by
               funext j; simp only [up]
               by_cases h1 : j = (k : Int) - 1
               · rw [if_pos h1, if_pos (by omega), h1]; congr 1; omega
               · rw [if_neg h1]; by_cases h2 : p ≤ j ∧ j < (k : Int) - 1
                 · rw [if_pos h2, if_pos (by omega)]
                 · rw [if_neg h2, if_neg (by omega)]
             exact congrArg (fun f => stM c r G f n le Hh li) e)
      · refine a_aload_n (pc := 22) ok dX4_takeThreshold_22 rfl ?_
        refine a_getf (pc := 23) ok dX4_takeThreshold_23 fl4_15 rfl rfl ?_
        refine a_iload_n (pc := 26) ok dX4_takeThreshold_26 rfl ?_
        refine a_aload_n (pc := 27) ok dX4_takeThreshold_27 rfl ?_
        refine a_getf (pc := 28) ok dX4_takeThreshold_28 fl4_15 rfl rfl ?_
        refine a_iload_n (pc := 31) ok dX4_takeThreshold_31 rfl ?_
        refine a_iald (pc := 32) ok dX4_takeThreshold_32 rfl (by first | decide | omega) (by first | omega | (unfold rg; omega) | (simp only [rg] at *; omega) | exact bz_rg _ | grind [rg]) ?_
        refine AW.cast (st2 := [iv (T k), iv ((k : Int) - 1), .ref 2]) ?_ rfl (by rw [hz]) rfl
        refine a_iast (pc := 33) ok dX4_takeThreshold_33 rfl (by first | decide | omega) (by first | omega | (unfold rg; omega) | (simp only [rg] at *; omega) | exact bz_rg _ | grind [rg]) ?_
        refine a_iinc (pc := 34) ok dX4_takeThreshold_34 rfl rfl (by rw [hN]; decide) ?_
        first
        | (exfalso; have := hlt (by omega); omega)
        | (refine a_iinc (pc := 37) ok dX4_takeThreshold_37 rfl rfl (by rw [hN]; decide) ?_
           refine a_goto (pc := 40) (tgt := 4) ok dX4_takeThreshold_40 (by decide) ?_
           refine AW.cast (ih (k + 1) ⟨by omega, by omega⟩ (by omega)) ?_ rfl ?_
           · rw [show ((k + 1 : Nat) : Int) - 1 = (k : Int) - 1 + 1 by omega]; rfl
           · have e : up (fun j => if p ≤ j ∧ j < (k : Int) - 1 then T (j + 1) else T j) ((k : Int) - 1) (T k) = fun j => if p ≤ j ∧ j < ((k + 1 : Nat) : Int) - 1 then T (j + 1) else T j := by
               funext j; simp only [up]
               by_cases h1 : j = (k : Int) - 1
               · rw [if_pos h1, if_pos (by omega), h1]; congr 1; omega
               · rw [if_neg h1]; by_cases h2 : p ≤ j ∧ j < (k : Int) - 1
                 · rw [if_pos h2, if_pos (by omega)]
                 · rw [if_neg h2, if_neg (by omega)]
             exact congrArg (fun f => stM c r G f n le Hh li) e)
  have loop0 : ∀ k : Nat, ((k : Int) ≤ p) → AW X 0 0 4 [some (.ref 0), some (iv v), some (iv k), some (iv k)] [] (stM c r G T n le Hh li) := by
    refine wfl (fun k : Nat => n - k) _ _ ?_
    intro k hk ih
    have hTk := hT k
    have hne : (k : Int) < p → T k < v := fun h => by rw [← hpv]; exact hs k p (by omega) h hp.2
    have hu : up T k (T k) = T := up_self
    refine a_iload_n (pc := 4) ok dX4_takeThreshold_4 rfl ?_
    refine a_aload_n (pc := 5) ok dX4_takeThreshold_5 rfl ?_
    refine a_getf (pc := 6) ok dX4_takeThreshold_6 fl4_28 rfl rfl ?_
    refine a_icmp_ge (pc := 9) (tgt := 43) ok dX4_takeThreshold_9 (by decide) (by first | omega | (unfold rg; omega) | (simp only [rg] at *; omega) | exact bz_rg _ | grind [rg]) (by first | omega | (unfold rg; omega) | (simp only [rg] at *; omega) | exact bz_rg _ | grind [rg]) (fun c9 => ?_) (fun c9 => ?_)
    · exfalso; omega
    · refine a_aload_n (pc := 12) ok dX4_takeThreshold_12 rfl ?_
      refine a_getf (pc := 13) ok dX4_takeThreshold_13 fl4_15 rfl rfl ?_
      refine a_iload_n (pc := 16) ok dX4_takeThreshold_16 rfl ?_
      refine a_iald (pc := 17) ok dX4_takeThreshold_17 rfl (by first | decide | omega) (by first | omega | (unfold rg; omega) | (simp only [rg] at *; omega) | exact bz_rg _ | grind [rg]) ?_
      refine a_iload_n (pc := 18) ok dX4_takeThreshold_18 rfl ?_
      refine a_icmp_eq (pc := 19) (tgt := 37) ok dX4_takeThreshold_19 (by decide) (by first | omega | (unfold rg; omega) | (simp only [rg] at *; omega) | exact bz_rg _ | grind [rg]) (by first | omega | (unfold rg; omega) | (simp only [rg] at *; omega) | exact bz_rg _ | grind [rg]) (fun c19 => ?_) (fun c19 => ?_)
      · first
        | (have hkp : (k : Int) ≠ p := fun z => by rw [z, hpv] at c19; exact c19 rfl
           refine a_iinc (pc := 37) ok dX4_takeThreshold_37 rfl rfl (by rw [hN]; decide) ?_
           refine a_goto (pc := 40) (tgt := 4) ok dX4_takeThreshold_40 (by decide) ?_
           refine AW.cast (ih (k + 1) (by omega) (by omega)) rfl rfl ?_
           exact congrArg (fun f => stM c r G f n le Hh li) hu)
        | (have hkp : (k : Int) = p := by
             rcases (show (k : Int) < p ∨ (k : Int) = p by omega) with z | z
             · have := hne z; omega
             · exact z
           refine a_iinc (pc := 37) ok dX4_takeThreshold_37 rfl rfl (by rw [hN]; decide) ?_
           refine a_goto (pc := 40) (tgt := 4) ok dX4_takeThreshold_40 (by decide) ?_
           refine AW.cast (loop1 (k + 1) ⟨by omega, by omega⟩) ?_ rfl ?_
           · rw [show ((k + 1 : Nat) : Int) - 1 = (k : Int) by omega]; rfl
           · have e : T = fun j => if p ≤ j ∧ j < ((k + 1 : Nat) : Int) - 1 then T (j + 1) else T j := by funext j; rw [if_neg (by omega)]
             exact congrArg (fun f => stM c r G f n le Hh li) e)
      · refine a_aload_n (pc := 22) ok dX4_takeThreshold_22 rfl ?_
        refine a_getf (pc := 23) ok dX4_takeThreshold_23 fl4_15 rfl rfl ?_
        refine a_iload_n (pc := 26) ok dX4_takeThreshold_26 rfl ?_
        refine a_aload_n (pc := 27) ok dX4_takeThreshold_27 rfl ?_
        refine a_getf (pc := 28) ok dX4_takeThreshold_28 fl4_15 rfl rfl ?_
        refine a_iload_n (pc := 31) ok dX4_takeThreshold_31 rfl ?_
        refine a_iald (pc := 32) ok dX4_takeThreshold_32 rfl (by first | decide | omega) (by first | omega | (unfold rg; omega) | (simp only [rg] at *; omega) | exact bz_rg _ | grind [rg]) ?_
        refine a_iast (pc := 33) ok dX4_takeThreshold_33 rfl (by first | decide | omega) (by first | omega | (unfold rg; omega) | (simp only [rg] at *; omega) | exact bz_rg _ | grind [rg]) ?_
        refine a_iinc (pc := 34) ok dX4_takeThreshold_34 rfl rfl (by rw [hN]; decide) ?_
        first
        | (have hkp : (k : Int) ≠ p := fun z => by rw [z, hpv] at c19; exact c19 rfl
           refine a_iinc (pc := 37) ok dX4_takeThreshold_37 rfl rfl (by rw [hN]; decide) ?_
           refine a_goto (pc := 40) (tgt := 4) ok dX4_takeThreshold_40 (by decide) ?_
           refine AW.cast (ih (k + 1) (by omega) (by omega)) rfl rfl ?_
           exact congrArg (fun f => stM c r G f n le Hh li) hu)
        | (have hkp : (k : Int) = p := by
             rcases (show (k : Int) < p ∨ (k : Int) = p by omega) with z | z
             · have := hne z; omega
             · exact z
           refine a_iinc (pc := 37) ok dX4_takeThreshold_37 rfl rfl (by rw [hN]; decide) ?_
           refine a_goto (pc := 40) (tgt := 4) ok dX4_takeThreshold_40 (by decide) ?_
           refine AW.cast (loop1 (k + 1) ⟨by omega, by omega⟩) ?_ rfl ?_
           · rw [show ((k + 1 : Nat) : Int) - 1 = (k : Int) by omega]; rfl
           · have e : T = fun j => if p ≤ j ∧ j < ((k + 1 : Nat) : Int) - 1 then T (j + 1) else T j := by funext j; rw [if_neg (by omega)]
             exact congrArg (fun f => stM c r G f n le Hh li) e)
  refine a_iconst (pc := 0) ok dX4_takeThreshold_0 ?_
  refine a_istore_n (pc := 1) ok dX4_takeThreshold_1 rfl (by rw [hN]; decide) ?_
  refine a_iconst (pc := 2) ok dX4_takeThreshold_2 ?_
  refine a_istore_n (pc := 3) ok dX4_takeThreshold_3 rfl (by rw [hN]; decide) ?_
  exact loop0 0 (by omega)
theorem dX4_changeThreshold_0 : decode cX4_changeThreshold 0 = .ok (.iload_n 2, 1) := by decide +kernel
theorem dX4_changeThreshold_1 : decode cX4_changeThreshold 1 = .ok (.ifCond .eq 11, 3) := by decide +kernel
theorem dX4_changeThreshold_4 : decode cX4_changeThreshold 4 = .ok (.aload_n 0, 1) := by decide +kernel
theorem dX4_changeThreshold_5 : decode cX4_changeThreshold 5 = .ok (.iload_n 1, 1) := by decide +kernel
theorem dX4_changeThreshold_6 : decode cX4_changeThreshold 6 = .ok (.invokevirtual 84, 3) := by decide +kernel
theorem dX4_changeThreshold_9 : decode cX4_changeThreshold 9 = .ok (.goto 8, 3) := by decide +kernel
theorem dX4_changeThreshold_12 : decode cX4_changeThreshold 12 = .ok (.aload_n 0, 1) := by decide +kernel
theorem dX4_changeThreshold_13 : decode cX4_changeThreshold 13 = .ok (.iload_n 1, 1) := by decide +kernel
theorem dX4_changeThreshold_14 : decode cX4_changeThreshold 14 = .ok (.invokevirtual 88, 3) := by decide +kernel
theorem dX4_changeThreshold_17 : decode cX4_changeThreshold 17 = .ok (.aload_n 0, 1) := by decide +kernel
theorem dX4_changeThreshold_18 : decode cX4_changeThreshold 18 = .ok (.getfield 28, 3) := by decide +kernel
theorem dX4_changeThreshold_21 : decode cX4_changeThreshold 21 = .ok (.ireturn, 1) := by decide +kernel
/-- a threshold put in (b not 0) or taken out: the thresholds then, how many -/
def chT (T : Int → Int) (n : Nat) (v b : Int) : Int → Int := if b = 0 then remT T n (fstK (fun k => T k == v) n) else insT T n v
def chN (n : Nat) (b : Int) : Nat := if b = 0 then n - 1 else n + 1
theorem hasT_at {n : Nat} {v : Int} (h : hasT T n v = true) : 0 ≤ fstK (fun k => T k == v) n ∧ fstK (fun k => T k == v) n < n ∧ T (fstK (fun k => T k == v) n) = v := by
  have h1 : fstK (fun k => T k == v) n ≠ -1 := by simpa [hasT] using h
  have h2 := fstK_rg (fun k => T k == v) n
  have h3 := fstK_spec h1
  exact ⟨by omega, h2.2, by simpa using h3⟩
theorem c_changeThreshold {n : Nat} {v b : Int} (hn : n ≤ 5) (hT : ∀ i, rg (T i)) (hs : srt T n) (hv : rg v) (hb : rg b) (hcan : canT T n v b = true) : Cd l yX4_changeThreshold cX4_changeThreshold 3 (some .int) rmX4_changeThreshold [.ref 0, iv v, iv b] (stM c r G T n le Hh li) (some (iv (chN n b))) (stM c r G (chT T n v b) (chN n b) le Hh li) := by
  refine Ct.of miX4_changeThreshold (Nat.le_of_ble_eq_true rfl) ?_
  intro X hXl hN ok
  refine AW.cast (L2 := [some (.ref 0), some (iv v), some (iv b)]) ?_ rfl rfl rfl
  have hc0 : b = 0 → hasT T n v = true := fun h => by simpa [canT, h] using hcan
  have hc1 : ¬ b = 0 → n < 5 := fun h => by simp [canT, h] at hcan; exact hcan.2
  have hz0 : b = 0 → (chN n b : Int) = (n : Int) - 1 ∧ chT T n v b = remT T n (fstK (fun k => T k == v) n) := fun h => ⟨by have := hasT_at (hc0 h); unfold chN; rw [if_pos h]; omega, by unfold chT; rw [if_pos h]⟩
  have hz1 : ¬ b = 0 → chN n b = n + 1 ∧ chT T n v b = insT T n v := fun h => ⟨by unfold chN; rw [if_neg h], by unfold chT; rw [if_neg h]⟩
  have r0 : b = 0 → (some (iv ((n : Int) - 1)) = some (iv (chN n b)) ∧ stM c r G (remT T n (fstK (fun k => T k == v) n)) (n - 1 : Int) le Hh li = stM c r G (chT T n v b) (chN n b) le Hh li) := fun h => by rw [(hz0 h).1, (hz0 h).2]; exact ⟨rfl, rfl⟩
  have r1 : ¬ b = 0 → (some (iv ((n + 1 : Nat) : Int)) = some (iv (chN n b)) ∧ stM c r G (insT T n v) (n + 1 : Nat) le Hh li = stM c r G (chT T n v b) (chN n b) le Hh li) := fun h => by rw [(hz1 h).1, (hz1 h).2]; exact ⟨rfl, rfl⟩
  refine a_iload_n (pc := 0) ok dX4_changeThreshold_0 rfl ?_
  refine a_if_eq (pc := 1) (tgt := 12) ok dX4_changeThreshold_1 (by decide) (by first | omega | (unfold rg; omega) | (simp only [rg] at *; omega) | exact bz_rg _ | grind [rg]) (fun c1 => ?_) (fun c1 => ?_)
  · refine a_aload_n (pc := 12) ok dX4_changeThreshold_12 rfl ?_
    refine a_iload_n (pc := 13) ok dX4_changeThreshold_13 rfl ?_
    refine a_callVv (pc := 14) ok [0, 1, 2, 3] dX4_changeThreshold_14 mv4_88 miX4_takeThreshold (c_takeThreshold hn hT hs hv ⟨(hasT_at (hc0 (by omega))).1, (hasT_at (hc0 (by omega))).2.1⟩ (hasT_at (hc0 (by omega))).2.2) ⟨by decide, by decide, rfl, rfl, Nat.zero_le _, Nat.zero_le _⟩ rfl rfl (by decide) rfl (by decide) rfl rfl rfl ?_
    refine a_aload_n (pc := 17) ok dX4_changeThreshold_17 rfl ?_
    refine a_getf (pc := 18) ok dX4_changeThreshold_18 fl4_28 rfl rfl ?_
    exact a_iret (pc := 21) ok dX4_changeThreshold_21 (by first | exact r0 c1 | exact r1 c1)
  · refine a_aload_n (pc := 4) ok dX4_changeThreshold_4 rfl ?_
    refine a_iload_n (pc := 5) ok dX4_changeThreshold_5 rfl ?_
    refine a_callVv (pc := 6) ok [0, 1, 2, 3] dX4_changeThreshold_6 mv4_84 miX4_putThreshold (c_putThreshold (hc1 (by omega)) hT hs hv) ⟨by decide, by decide, rfl, rfl, Nat.zero_le _, Nat.zero_le _⟩ rfl rfl (by decide) rfl (by decide) rfl rfl rfl ?_
    refine a_goto (pc := 9) (tgt := 17) ok dX4_changeThreshold_9 (by decide) ?_
    refine a_aload_n (pc := 17) ok dX4_changeThreshold_17 rfl ?_
    refine a_getf (pc := 18) ok dX4_changeThreshold_18 fl4_28 rfl rfl ?_
    exact a_iret (pc := 21) ok dX4_changeThreshold_21 (by first | exact r0 c1 | exact r1 c1)
theorem dX4_tryChangeThreshold_0 : decode cX4_tryChangeThreshold 0 = .ok (.iload_n 1, 1) := by decide +kernel
theorem dX4_tryChangeThreshold_1 : decode cX4_tryChangeThreshold 1 = .ok (.iconst 1, 1) := by decide +kernel
theorem dX4_tryChangeThreshold_2 : decode cX4_tryChangeThreshold 2 = .ok (.bipush 99, 2) := by decide +kernel
theorem dX4_tryChangeThreshold_4 : decode cX4_tryChangeThreshold 4 = .ok (.invokestatic 68, 3) := by decide +kernel
theorem dX4_tryChangeThreshold_7 : decode cX4_tryChangeThreshold 7 = .ok (.ifCond .eq 12, 3) := by decide +kernel
theorem dX4_tryChangeThreshold_10 : decode cX4_tryChangeThreshold 10 = .ok (.aload_n 0, 1) := by decide +kernel
theorem dX4_tryChangeThreshold_11 : decode cX4_tryChangeThreshold 11 = .ok (.iload_n 1, 1) := by decide +kernel
theorem dX4_tryChangeThreshold_12 : decode cX4_tryChangeThreshold 12 = .ok (.iload_n 2, 1) := by decide +kernel
theorem dX4_tryChangeThreshold_13 : decode cX4_tryChangeThreshold 13 = .ok (.invokevirtual 91, 3) := by decide +kernel
theorem dX4_tryChangeThreshold_16 : decode cX4_tryChangeThreshold 16 = .ok (.ifCond .ne 5, 3) := by decide +kernel
theorem dX4_tryChangeThreshold_19 : decode cX4_tryChangeThreshold 19 = .ok (.iconst 0, 1) := by decide +kernel
theorem dX4_tryChangeThreshold_20 : decode cX4_tryChangeThreshold 20 = .ok (.ireturn, 1) := by decide +kernel
theorem dX4_tryChangeThreshold_21 : decode cX4_tryChangeThreshold 21 = .ok (.aload_n 0, 1) := by decide +kernel
theorem dX4_tryChangeThreshold_22 : decode cX4_tryChangeThreshold 22 = .ok (.iload_n 1, 1) := by decide +kernel
theorem dX4_tryChangeThreshold_23 : decode cX4_tryChangeThreshold 23 = .ok (.iload_n 2, 1) := by decide +kernel
theorem dX4_tryChangeThreshold_24 : decode cX4_tryChangeThreshold 24 = .ok (.invokevirtual 95, 3) := by decide +kernel
theorem dX4_tryChangeThreshold_27 : decode cX4_tryChangeThreshold 27 = .ok (.pop, 1) := by decide +kernel
theorem dX4_tryChangeThreshold_28 : decode cX4_tryChangeThreshold 28 = .ok (.iconst 1, 1) := by decide +kernel
theorem dX4_tryChangeThreshold_29 : decode cX4_tryChangeThreshold 29 = .ok (.ireturn, 1) := by decide +kernel
theorem c_tryChangeThreshold {n : Nat} {v b : Int} (hn : n ≤ 5) (hT : ∀ i, rg (T i)) (hs : srt T n) (hv : rg v) (hb : rg b) : Cd l yX4_tryChangeThreshold cX4_tryChangeThreshold 3 (some .boolean) rmX4_tryChangeThreshold [.ref 0, iv v, iv b] (stM c r G T n le Hh li) (some (iv (bz (1 ≤ v ∧ v ≤ 99 ∧ canT T n v b = true))))
    (stM c r G (if 1 ≤ v ∧ v ≤ 99 ∧ canT T n v b = true then chT T n v b else T) (if 1 ≤ v ∧ v ≤ 99 ∧ canT T n v b = true then chN n b else n : Nat) le Hh li) := by
  refine Ct.of miX4_tryChangeThreshold (Nat.le_of_ble_eq_true rfl) ?_
  intro X hXl hN ok
  refine AW.cast (L2 := [some (.ref 0), some (iv v), some (iv b)]) ?_ rfl rfl rfl
  refine a_iload_n (pc := 0) ok dX4_tryChangeThreshold_0 rfl ?_
  refine a_iconst (pc := 1) ok dX4_tryChangeThreshold_1 ?_
  refine a_bipush (pc := 2) ok dX4_tryChangeThreshold_2 (by decide) ?_
  refine a_callSp (pc := 4) ok [] dX4_tryChangeThreshold_4 mv4_68 miX6_isWithin (c_isWithin hv (by unfold rg; omega) (by unfold rg; omega)) ⟨by decide, by decide, rfl, rfl, Nat.zero_le _, Nat.zero_le _⟩ rfl rfl (by decide) rfl (by decide) ?_
  refine a_if_eq (pc := 7) (tgt := 19) ok dX4_tryChangeThreshold_7 (by decide) (by first | omega | (unfold rg; omega) | (simp only [rg] at *; omega) | exact bz_rg _ | grind [rg]) (fun c7 => ?_) (fun c7 => ?_)
  · refine a_iconst (pc := 19) ok dX4_tryChangeThreshold_19 ?_
    exact a_zret (pc := 20) ok dX4_tryChangeThreshold_20 (by first | rfl | exact nb_bz _ | decide) (by have hx : ¬ (1 ≤ v ∧ v ≤ 99 ∧ canT T n v b = true) := (by rintro ⟨q1, q2, q3⟩; simp only [bz_0] at *; first | omega | exact absurd q3 (by assumption)); rw [if_neg hx, if_neg hx]; exact ⟨congrArg (fun z => some (iv z)) (bz_neg hx).symm, rfl⟩)
  · refine a_aload_n (pc := 10) ok dX4_tryChangeThreshold_10 rfl ?_
    refine a_iload_n (pc := 11) ok dX4_tryChangeThreshold_11 rfl ?_
    refine a_iload_n (pc := 12) ok dX4_tryChangeThreshold_12 rfl ?_
    refine a_callVp (pc := 13) ok [0, 1, 2, 3] dX4_tryChangeThreshold_13 mv4_91 miX4_canChangeThreshold (c_canChangeThreshold hn hT hv hb) ⟨by decide, by decide, rfl, rfl, Nat.zero_le _, Nat.zero_le _⟩ rfl rfl (by decide) rfl (by decide) rfl rfl ?_
    refine a_if_ne (pc := 16) (tgt := 21) ok dX4_tryChangeThreshold_16 (by decide) (by first | omega | (unfold rg; omega) | (simp only [rg] at *; omega) | exact bz_rg _ | grind [rg]) (fun c16 => ?_) (fun c16 => ?_)
    · refine a_aload_n (pc := 21) ok dX4_tryChangeThreshold_21 rfl ?_
      refine a_iload_n (pc := 22) ok dX4_tryChangeThreshold_22 rfl ?_
      refine a_iload_n (pc := 23) ok dX4_tryChangeThreshold_23 rfl ?_
      refine a_callVi (pc := 24) ok [0, 1, 2, 3] dX4_tryChangeThreshold_24 mv4_95 miX4_changeThreshold (c_changeThreshold hn hT hs hv hb (by rw [bz_0] at c16; exact Decidable.not_not.mp c16)) ⟨by decide, by decide, rfl, rfl, Nat.zero_le _, Nat.zero_le _⟩ rfl rfl (by decide) rfl (by decide) rfl rfl rfl ?_
      refine a_pop (pc := 27) ok dX4_tryChangeThreshold_27 rfl ?_
      refine a_iconst (pc := 28) ok dX4_tryChangeThreshold_28 ?_
      exact a_zret (pc := 29) ok dX4_tryChangeThreshold_29 (by first | rfl | exact nb_bz _ | decide) (by have hx : (1 ≤ v ∧ v ≤ 99 ∧ canT T n v b = true) := (by simp only [bz_0, Decidable.not_not] at *; exact ⟨c7.1, c7.2, c16⟩); rw [if_pos hx, if_pos hx]; exact ⟨congrArg (fun z => some (iv z)) (bz_pos hx).symm, rfl⟩)
    · refine a_iconst (pc := 19) ok dX4_tryChangeThreshold_19 ?_
      exact a_zret (pc := 20) ok dX4_tryChangeThreshold_20 (by first | rfl | exact nb_bz _ | decide) (by have hx : ¬ (1 ≤ v ∧ v ≤ 99 ∧ canT T n v b = true) := (by rintro ⟨q1, q2, q3⟩; simp only [bz_0] at *; first | omega | exact absurd q3 (by assumption)); rw [if_neg hx, if_neg hx]; exact ⟨congrArg (fun z => some (iv z)) (bz_neg hx).symm, rfl⟩)
theorem cntK_t {p : Int → Bool} {k : Nat} (h : p k = true) : cntK p (k + 1) = cntK p k + 1 := by simp [cntK, h]
theorem cntK_f {p : Int → Bool} {k : Nat} (h : p k = false) : cntK p (k + 1) = cntK p k := by simp [cntK, h]
theorem dX4_bandOfGrey_0 : decode cX4_bandOfGrey 0 = .ok (.iconst 0, 1) := by decide +kernel
theorem dX4_bandOfGrey_1 : decode cX4_bandOfGrey 1 = .ok (.istore_n 2, 1) := by decide +kernel
theorem dX4_bandOfGrey_2 : decode cX4_bandOfGrey 2 = .ok (.iconst 0, 1) := by decide +kernel
theorem dX4_bandOfGrey_3 : decode cX4_bandOfGrey 3 = .ok (.istore_n 3, 1) := by decide +kernel
theorem dX4_bandOfGrey_4 : decode cX4_bandOfGrey 4 = .ok (.iload_n 3, 1) := by decide +kernel
theorem dX4_bandOfGrey_5 : decode cX4_bandOfGrey 5 = .ok (.aload_n 0, 1) := by decide +kernel
theorem dX4_bandOfGrey_6 : decode cX4_bandOfGrey 6 = .ok (.getfield 28, 3) := by decide +kernel
theorem dX4_bandOfGrey_9 : decode cX4_bandOfGrey 9 = .ok (.if_icmp .ge 22, 3) := by decide +kernel
theorem dX4_bandOfGrey_12 : decode cX4_bandOfGrey 12 = .ok (.aload_n 0, 1) := by decide +kernel
theorem dX4_bandOfGrey_13 : decode cX4_bandOfGrey 13 = .ok (.getfield 15, 3) := by decide +kernel
theorem dX4_bandOfGrey_16 : decode cX4_bandOfGrey 16 = .ok (.iload_n 3, 1) := by decide +kernel
theorem dX4_bandOfGrey_17 : decode cX4_bandOfGrey 17 = .ok (.iaload, 1) := by decide +kernel
theorem dX4_bandOfGrey_18 : decode cX4_bandOfGrey 18 = .ok (.iload_n 1, 1) := by decide +kernel
theorem dX4_bandOfGrey_19 : decode cX4_bandOfGrey 19 = .ok (.if_icmp .gt 6, 3) := by decide +kernel
theorem dX4_bandOfGrey_22 : decode cX4_bandOfGrey 22 = .ok (.iinc 2 1, 3) := by decide +kernel
theorem dX4_bandOfGrey_25 : decode cX4_bandOfGrey 25 = .ok (.iinc 3 1, 3) := by decide +kernel
theorem dX4_bandOfGrey_28 : decode cX4_bandOfGrey 28 = .ok (.goto (-24), 3) := by decide +kernel
theorem dX4_bandOfGrey_31 : decode cX4_bandOfGrey 31 = .ok (.iload_n 2, 1) := by decide +kernel
theorem dX4_bandOfGrey_32 : decode cX4_bandOfGrey 32 = .ok (.ireturn, 1) := by decide +kernel
def bandN (T : Int → Int) (n : Nat) (g : Int) : Int := cntK (fun k => decide (T k ≤ g)) n
theorem c_bandOfGrey {n : Nat} {g : Int} (hn : n ≤ 5) (hT : ∀ i, rg (T i)) (hg : rg g) : Cd l yX4_bandOfGrey cX4_bandOfGrey 4 (some .int) rmX4_bandOfGrey [.ref 0, iv g] (stM c r G T n le Hh li) (some (iv (bandN T n g))) (stM c r G T n le Hh li) := by
  refine Ct.of miX4_bandOfGrey (Nat.le_of_ble_eq_true rfl) ?_
  intro X hXl hN ok
  refine AW.cast (L2 := [some (.ref 0), some (iv g), none, none]) ?_ rfl rfl rfl
  have loop : ∀ k : Nat, k ≤ n → AW X 0 0 4 [some (.ref 0), some (iv g), some (iv (cntK (fun k => decide (T k ≤ g)) k)), some (iv k)] [] (stM c r G T n le Hh li) := by
    refine wfl (fun k : Nat => n - k) _ _ ?_
    intro k hk ih
    have hTk := hT k
    refine a_iload_n (pc := 4) ok dX4_bandOfGrey_4 rfl ?_
    refine a_aload_n (pc := 5) ok dX4_bandOfGrey_5 rfl ?_
    refine a_getf (pc := 6) ok dX4_bandOfGrey_6 fl4_28 rfl rfl ?_
    refine a_icmp_ge (pc := 9) (tgt := 31) ok dX4_bandOfGrey_9 (by decide) (by first | omega | (unfold rg; omega) | (simp only [rg] at *; omega) | exact bz_rg _ | grind [rg]) (by first | omega | (unfold rg; omega) | (simp only [rg] at *; omega) | exact bz_rg _ | grind [rg]) (fun c9 => ?_) (fun c9 => ?_)
    · have e : k = n := by omega
      subst e
      refine a_iload_n (pc := 31) ok dX4_bandOfGrey_31 rfl ?_
      exact a_iret (pc := 32) ok dX4_bandOfGrey_32 (⟨rfl, rfl⟩)
    · refine a_aload_n (pc := 12) ok dX4_bandOfGrey_12 rfl ?_
      refine a_getf (pc := 13) ok dX4_bandOfGrey_13 fl4_15 rfl rfl ?_
      refine a_iload_n (pc := 16) ok dX4_bandOfGrey_16 rfl ?_
      refine a_iald (pc := 17) ok dX4_bandOfGrey_17 rfl (by first | decide | omega) (by first | omega | (unfold rg; omega) | (simp only [rg] at *; omega) | exact bz_rg _ | grind [rg]) ?_
      refine a_iload_n (pc := 18) ok dX4_bandOfGrey_18 rfl ?_
      refine a_icmp_gt (pc := 19) (tgt := 25) ok dX4_bandOfGrey_19 (by decide) (by first | omega | (unfold rg; omega) | (simp only [rg] at *; omega) | exact bz_rg _ | grind [rg]) (by first | omega | (unfold rg; omega) | (simp only [rg] at *; omega) | exact bz_rg _ | grind [rg]) (fun c19 => ?_) (fun c19 => ?_)
      · refine AW.cast (L2 := [some (.ref 0), some (iv g), some (iv (cntK (fun k => decide (T k ≤ g)) (k + 1))), some (iv k)]) ?_ (by first | (rw [cntK_t (decide_eq_true (by omega))] <;> rfl) | (rw [cntK_f (decide_eq_false (by omega))] <;> rfl)) rfl rfl
        refine a_iinc (pc := 25) ok dX4_bandOfGrey_25 rfl rfl (by rw [hN]; decide) ?_
        refine a_goto (pc := 28) (tgt := 4) ok dX4_bandOfGrey_28 (by decide) ?_
        exact ih (k + 1) (by omega) (by omega)
      · refine a_iinc (pc := 22) ok dX4_bandOfGrey_22 rfl rfl (by rw [hN]; decide) ?_
        refine AW.cast (L2 := [some (.ref 0), some (iv g), some (iv (cntK (fun k => decide (T k ≤ g)) (k + 1))), some (iv k)]) ?_ (by first | (rw [cntK_t (decide_eq_true (by omega))] <;> rfl) | (rw [cntK_f (decide_eq_false (by omega))] <;> rfl)) rfl rfl
        refine a_iinc (pc := 25) ok dX4_bandOfGrey_25 rfl rfl (by rw [hN]; decide) ?_
        refine a_goto (pc := 28) (tgt := 4) ok dX4_bandOfGrey_28 (by decide) ?_
        exact ih (k + 1) (by omega) (by omega)
  refine a_iconst (pc := 0) ok dX4_bandOfGrey_0 ?_
  refine a_istore_n (pc := 1) ok dX4_bandOfGrey_1 rfl (by rw [hN]; decide) ?_
  refine a_iconst (pc := 2) ok dX4_bandOfGrey_2 ?_
  refine a_istore_n (pc := 3) ok dX4_bandOfGrey_3 rfl (by rw [hN]; decide) ?_
  exact loop 0 (by omega)
theorem dX4_cellsBelow_0 : decode cX4_cellsBelow 0 = .ok (.aload_n 0, 1) := by decide +kernel
theorem dX4_cellsBelow_1 : decode cX4_cellsBelow 1 = .ok (.invokevirtual 56, 3) := by decide +kernel
theorem dX4_cellsBelow_4 : decode cX4_cellsBelow 4 = .ok (.istore_n 2, 1) := by decide +kernel
theorem dX4_cellsBelow_5 : decode cX4_cellsBelow 5 = .ok (.iconst 0, 1) := by decide +kernel
theorem dX4_cellsBelow_6 : decode cX4_cellsBelow 6 = .ok (.istore_n 3, 1) := by decide +kernel
theorem dX4_cellsBelow_7 : decode cX4_cellsBelow 7 = .ok (.iconst 0, 1) := by decide +kernel
theorem dX4_cellsBelow_8 : decode cX4_cellsBelow 8 = .ok (.istore 4, 2) := by decide +kernel
theorem dX4_cellsBelow_10 : decode cX4_cellsBelow 10 = .ok (.iload 4, 2) := by decide +kernel
theorem dX4_cellsBelow_12 : decode cX4_cellsBelow 12 = .ok (.iload_n 2, 1) := by decide +kernel
theorem dX4_cellsBelow_13 : decode cX4_cellsBelow 13 = .ok (.if_icmp .ge 23, 3) := by decide +kernel
theorem dX4_cellsBelow_16 : decode cX4_cellsBelow 16 = .ok (.aload_n 0, 1) := by decide +kernel
theorem dX4_cellsBelow_17 : decode cX4_cellsBelow 17 = .ok (.getfield 9, 3) := by decide +kernel
theorem dX4_cellsBelow_20 : decode cX4_cellsBelow 20 = .ok (.iload 4, 2) := by decide +kernel
theorem dX4_cellsBelow_22 : decode cX4_cellsBelow 22 = .ok (.iaload, 1) := by decide +kernel
theorem dX4_cellsBelow_23 : decode cX4_cellsBelow 23 = .ok (.iload_n 1, 1) := by decide +kernel
theorem dX4_cellsBelow_24 : decode cX4_cellsBelow 24 = .ok (.if_icmp .ge 6, 3) := by decide +kernel
theorem dX4_cellsBelow_27 : decode cX4_cellsBelow 27 = .ok (.iinc 3 1, 3) := by decide +kernel
theorem dX4_cellsBelow_30 : decode cX4_cellsBelow 30 = .ok (.iinc 4 1, 3) := by decide +kernel
theorem dX4_cellsBelow_33 : decode cX4_cellsBelow 33 = .ok (.goto (-23), 3) := by decide +kernel
theorem dX4_cellsBelow_36 : decode cX4_cellsBelow 36 = .ok (.iload_n 3, 1) := by decide +kernel
theorem dX4_cellsBelow_37 : decode cX4_cellsBelow 37 = .ok (.ireturn, 1) := by decide +kernel
def belowK (G : Int → Int) (C : Nat) (v : Int) : Int := cntK (fun k => decide (G k < v)) C
theorem c_cellsBelow {n v : Int} (hd : dim c r) (hG : ∀ i, 0 ≤ G i ∧ G i ≤ 99) (hv : rg v) : Cd l yX4_cellsBelow cX4_cellsBelow 5 (some .int) rmX4_cellsBelow [.ref 0, iv v] (stM c r G T n le Hh li) (some (iv (belowK G (c * r).toNat v))) (stM c r G T n le Hh li) := by
  refine Ct.of miX4_cellsBelow (Nat.le_of_ble_eq_true rfl) ?_
  intro X hXl hN ok
  refine AW.cast (L2 := [some (.ref 0), some (iv v), none, none, none]) ?_ rfl rfl rfl
  have hc := dim_cells hd
  have loop : ∀ k : Nat, (k : Int) ≤ c * r → AW X 0 0 10 [some (.ref 0), some (iv v), some (iv (c * r)), some (iv (cntK (fun k => decide (G k < v)) k)), some (iv k)] [] (stM c r G T n le Hh li) := by
    refine wfl (fun k : Nat => (c * r).toNat - k) _ _ ?_
    intro k hk ih
    have hGk := hG k
    refine a_iload (pc := 10) ok dX4_cellsBelow_10 rfl ?_
    refine a_iload_n (pc := 12) ok dX4_cellsBelow_12 rfl ?_
    refine a_icmp_ge (pc := 13) (tgt := 36) ok dX4_cellsBelow_13 (by decide) (by first | omega | (unfold rg; omega) | (simp only [rg] at *; omega) | exact bz_rg _ | grind [rg]) (by first | omega | (unfold rg; omega) | (simp only [rg] at *; omega) | exact bz_rg _ | grind [rg]) (fun c13 => ?_) (fun c13 => ?_)
    · have e : k = (c * r).toNat := by omega
      subst e
      refine a_iload_n (pc := 36) ok dX4_cellsBelow_36 rfl ?_
      exact a_iret (pc := 37) ok dX4_cellsBelow_37 (⟨rfl, rfl⟩)
    · refine a_aload_n (pc := 16) ok dX4_cellsBelow_16 rfl ?_
      refine a_getf (pc := 17) ok dX4_cellsBelow_17 fl4_9 rfl rfl ?_
      refine a_iload (pc := 20) ok dX4_cellsBelow_20 rfl ?_
      refine a_iald (pc := 22) ok dX4_cellsBelow_22 rfl (by first | decide | omega) (by first | omega | (unfold rg; omega) | (simp only [rg] at *; omega) | exact bz_rg _ | grind [rg]) ?_
      refine a_iload_n (pc := 23) ok dX4_cellsBelow_23 rfl ?_
      refine a_icmp_ge (pc := 24) (tgt := 30) ok dX4_cellsBelow_24 (by decide) (by first | omega | (unfold rg; omega) | (simp only [rg] at *; omega) | exact bz_rg _ | grind [rg]) (by first | omega | (unfold rg; omega) | (simp only [rg] at *; omega) | exact bz_rg _ | grind [rg]) (fun c24 => ?_) (fun c24 => ?_)
      · refine AW.cast (L2 := [some (.ref 0), some (iv v), some (iv (c * r)), some (iv (cntK (fun k => decide (G k < v)) (k + 1))), some (iv k)]) ?_ (by first | (rw [cntK_t (decide_eq_true (by omega))] <;> rfl) | (rw [cntK_f (decide_eq_false (by omega))] <;> rfl)) rfl rfl
        refine a_iinc (pc := 30) ok dX4_cellsBelow_30 rfl rfl (by rw [hN]; decide) ?_
        refine a_goto (pc := 33) (tgt := 10) ok dX4_cellsBelow_33 (by decide) ?_
        exact ih (k + 1) (by omega) (by omega)
      · refine a_iinc (pc := 27) ok dX4_cellsBelow_27 rfl rfl (by rw [hN]; decide) ?_
        refine AW.cast (L2 := [some (.ref 0), some (iv v), some (iv (c * r)), some (iv (cntK (fun k => decide (G k < v)) (k + 1))), some (iv k)]) ?_ (by first | (rw [cntK_t (decide_eq_true (by omega))] <;> rfl) | (rw [cntK_f (decide_eq_false (by omega))] <;> rfl)) rfl rfl
        refine a_iinc (pc := 30) ok dX4_cellsBelow_30 rfl rfl (by rw [hN]; decide) ?_
        refine a_goto (pc := 33) (tgt := 10) ok dX4_cellsBelow_33 (by decide) ?_
        exact ih (k + 1) (by omega) (by omega)
  refine a_aload_n (pc := 0) ok dX4_cellsBelow_0 rfl ?_
  refine a_callVp (pc := 1) ok [0, 1, 2, 3] dX4_cellsBelow_1 mv4_56 miX4_cellCount (c_cellCount) ⟨by decide, by decide, rfl, rfl, Nat.zero_le _, Nat.zero_le _⟩ rfl rfl (by decide) rfl (by decide) rfl rfl ?_
  refine a_istore_n (pc := 4) ok dX4_cellsBelow_4 rfl (by rw [hN]; decide) ?_
  refine a_iconst (pc := 5) ok dX4_cellsBelow_5 ?_
  refine a_istore_n (pc := 6) ok dX4_cellsBelow_6 rfl (by rw [hN]; decide) ?_
  refine a_iconst (pc := 7) ok dX4_cellsBelow_7 ?_
  refine a_istore (pc := 8) ok dX4_cellsBelow_8 rfl (by rw [hN]; decide) ?_
  exact loop 0 (by omega)
end ST3
