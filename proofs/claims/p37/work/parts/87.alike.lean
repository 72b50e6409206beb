/-! STATES alike but for thresholds that are none: every answer is the same. -/
section AL
variable {S S' : St}
theorem bS_E (h : StE S S') : bS S' = bS S := by
  unfold bS fb
  rw [← StE_bnd h, ← h.1, ← h.2.1, ← h.2.2.2.2.1]
theorem mS_E (h : StE S S') : mS S' = mS S := by unfold mS; rw [bS_E h, ← h.1, ← h.2.1]
theorem StE_symm (h : StE S S') : StE S' S := ⟨h.1.symm, h.2.1.symm, h.2.2.1.symm, h.2.2.2.1.symm, h.2.2.2.2.1.symm, h.2.2.2.2.2.1.symm, h.2.2.2.2.2.2.1.symm, fun j h1 h2 => (h.2.2.2.2.2.2.2 j h1 (by rw [h.2.2.2.1]; exact h2)).symm⟩
theorem StE_trans {S2 : St} (h : StE S S') (h2 : StE S' S2) : StE S S2 := ⟨h.1.trans h2.1, h.2.1.trans h2.2.1, h.2.2.1.trans h2.2.2.1, h.2.2.2.1.trans h2.2.2.2.1, h.2.2.2.2.1.trans h2.2.2.2.2.1, h.2.2.2.2.2.1.trans h2.2.2.2.2.2.1, h.2.2.2.2.2.2.1.trans h2.2.2.2.2.2.2.1, fun j h1 h3 => (h.2.2.2.2.2.2.2 j h1 h3).trans (h2.2.2.2.2.2.2.2 j h1 (by rw [← h.2.2.2.1]; exact h3))⟩
theorem TE_up {n : Nat} {T T' : Int → Int} (h : TE n T T') (k v : Int) : TE n (up T k v) (up T' k v) := fun j h1 h2 => by
  unfold up
  split
  · rfl
  · exact h j h1 h2
theorem TE_bnd {n : Nat} {T T' : Int → Int} (h : TE n T T') (G : Int → Int) : bnd T n G = bnd T' n G := by
  funext k; unfold bnd; exact TE_band h _
theorem kCell_E (h : StE S S') (x y w hi : Int) : kCell S' x y w hi = kCell S x y w hi := by unfold kCell; rw [← h.1, ← h.2.1]
theorem aCell_E (h : StE S S') (x y w : Int) : aCell S' x y w = aCell S x y w := by
  unfold aCell
  rw [bS_E h, ← h.1, ← h.2.1, ← h.2.2.1, ← h.2.2.2.1, ← TE_band (StE_TE h), ← TE_dst (StE_TE h) _ _ (Nat.le_refl _)]
theorem fS_E (h : StE S S') (i : Int) : fS S' i = fS S i := by unfold fS; rw [bS_E h, ← h.1, ← h.2.1]
theorem kIsle_E (h : StE S S') (i w hi : Int) : kIsle S' i w hi = kIsle S i w hi := by unfold kIsle; rw [mS_E h]
theorem aIsland_E (h : StE S S') (i w : Int) : aIsland S' i w = aIsland S i w := by
  unfold aIsland fS
  rw [bS_E h, mS_E h, ← h.1, ← h.2.1]
theorem kBor_E (h : StE S S') (i j : Int) : kBor S' i j = kBor S i j := by unfold kBor; rw [mS_E h]
theorem aBor_E (h : StE S S') (i j : Int) : brd (sC S') (sR S') (bS S') (fS S' i) (fS S' j) = brd (sC S) (sR S) (bS S) (fS S i) (fS S j) := by
  rw [fS_E h, fS_E h, bS_E h, ← h.1, ← h.2.1]
theorem aOutline_E (h : StE S S') (i w : Int) : aOutline S' i w = aOutline S i w := by
  unfold aOutline fS
  rw [bS_E h, ← h.1, ← h.2.1]
theorem kWay_E (h : StE S S') (i k : Int) : kWay S' i k = kWay S i k := by
  unfold kWay fS
  rw [bS_E h, mS_E h, ← h.1, ← h.2.1]
theorem aWay_E (h : StE S S') (i k : Int) : wS1 S' i k = wS1 S i k := by
  unfold wS1 fS
  rw [bS_E h, ← h.1, ← h.2.1]
theorem kBand_E (h : StE S S') (x w : Int) : kBand S' x w = kBand S x w := by unfold kBand; rw [← h.2.2.2.1]
theorem aBand_E (h : StE S S') (x w : Int) : aBand S' x w = aBand S x w := by
  unfold aBand
  rw [bS_E h, ← h.1, ← h.2.1, ← h.2.2.2.2.2.1]
theorem aInk_E (h : StE S S') : inkF (sC S') (sR S') (bS S') (sH S') (sI S') = inkF (sC S) (sR S) (bS S) (sH S) (sI S) := by
  rw [bS_E h, ← h.1, ← h.2.1, ← h.2.2.2.2.2.1, ← h.2.2.2.2.2.2.1]
theorem aAbout_E (h : StE S S') (w : Int) : aAbout S' w = aAbout S w := by
  unfold aAbout
  rw [← StE_bnd h, bS_E h, mS_E h, ← h.1, ← h.2.1, ← h.2.2.1, ← h.2.2.2.1, ← h.2.2.2.2.1, ← h.2.2.2.2.2.2.1]
theorem kThr_E (h : StE S S') (k : Int) : kIn k 0 (sN S' - 1) = kIn k 0 (sN S - 1) := by rw [← h.2.2.2.1]
theorem aThr_E (h : StE S S') {k : Int} (hk : kIn k 0 (sN S - 1) = 0) : sT S' k = sT S k := by
  unfold kIn at hk
  by_cases z : 0 ≤ k ∧ k ≤ (sN S : Int) - 1
  · exact (StE_TE h k z.1 (by omega)).symm
  · rw [if_neg z] at hk; cases hk
theorem aIfL_E (h : StE S S') (v w : Int) : aIfL S' v w = aIfL S v w := by
  unfold aIfL
  rw [← StE_bnd h, bS_E (StE_setE h v), mS_E (StE_setE h v), ← h.1, ← h.2.1, ← h.2.2.2.2.2.1, ← h.2.2.2.2.2.2.1]
theorem lfK_E (h : StE S S') (n : Int) : ∀ (f : Nat) (v : Int), lfK S' n f v = lfK S n f v
  | 0, _ => rfl
  | f + 1, v => by simp only [lfK]; rw [mS_E (StE_setE h v), lfK_E h n f (v + 1)]
theorem mSmv_E (h : StE S S') {k : Int} (hk : 0 ≤ k ∧ k < sN S) (v : Int) : mS (mvS S' (sT S' k) v) = mS (mvS S (sT S k) v) := by
  have e1 := bnd_mv (S := S) (u := sT S k) (v := v) hk rfl
  have e2 := bnd_mv (S := S') (u := sT S' k) (v := v) (by rw [← h.2.2.2.1]; exact hk) rfl
  have e3 := TE_bnd (TE_up (StE_TE h) k v) (sG S)
  have e4 : bS (mvS S' (sT S' k) v) = bS (mvS S (sT S k) v) := by
    show mrg (sC S') (sR S') (sE S') 144 (bnd (sT (mvS S' (sT S' k) v)) (sN (mvS S' (sT S' k) v)) (sG S')) = mrg (sC S) (sR S) (sE S) 144 (bnd (sT (mvS S (sT S k) v)) (sN (mvS S (sT S k) v)) (sG S))
    rw [e1, e2, e3, ← h.1, ← h.2.1, ← h.2.2.1, ← h.2.2.2.1, ← h.2.2.2.2.1]
  unfold mS
  rw [e4]
  show mny (sC S') (sR S') _ = mny (sC S) (sR S) _
  rw [← h.1, ← h.2.1]
theorem aBest_E (h : StE S S') {k : Int} (hk : kIn k 0 (sN S - 1) = 0) : aBest S' k = aBest S k := by
  have hk2 : 0 ≤ k ∧ k < sN S := by
    unfold kIn at hk
    by_cases z : 0 ≤ k ∧ k ≤ (sN S : Int) - 1
    · exact ⟨z.1, by omega⟩
    · rw [if_neg z] at hk; cases hk
  have e1 : (fun v => mS (mvS S' (sT S' k) v)) = fun v => mS (mvS S (sT S k) v) := by funext v; exact mSmv_E h hk2 v
  have e2 : bmO S' (sT S' k) = bmO S (sT S k) := by
    funext v
    unfold bmO
    rw [aThr_E h hk, ← h.2.2.2.1, ← TE_has (StE_TE h)]
  unfold aBest
  rw [e1, e2, aThr_E h hk]
theorem kIfC_E (h : StE S S') (x y g w : Int) : kIfC S' x y g w = kIfC S x y g w := by unfold kIfC; rw [← h.1, ← h.2.1]
theorem kPut_E (h : StE S S') (x y g : Int) : kPut S' x y g = kPut S x y g := by unfold kPut; rw [← h.1, ← h.2.1]
theorem kBox_E (h : StE S S') (x0 x1 y0 y1 g : Int) : kBox S' x0 x1 y0 y1 g = kBox S x0 x1 y0 y1 g := by unfold kBox; rw [← h.1, ← h.2.1]
theorem kPart_E (h : StE S S') (v b : Int) : kPart S' v b = kPart S v b := by unfold kPart; rw [← h.2.2.2.1, ← TE_can (StE_TE h)]
theorem StE_cmS (h : StE S S') (k a : Int) : StE (cmS S k a) (cmS S' k a) := by
  unfold cmS
  repeat' split
  all_goals first | exact StE_stP h _ _ _ | exact StE_stB h _ _ _ _ _ | exact StE_stT h _ _ | exact StE_stL h _ | exact StE_gU h | exact StE_gI h | exact h
theorem cmZ_E (h : StE S S') (k a : Int) : cmZ S' k a = cmZ S k a := by
  unfold cmZ fS
  simp only [← StE_kP h, ← StE_kB h, ← StE_kT h]
  rw [mS_E h, bS_E h, ← h.1, ← h.2.1]
theorem aRun_E (h : StE S S') (n x : Int) : aRun S' n x = aRun S n x := by
  unfold aRun
  rw [cmZ_E h, cmZ_E (StE_cmS h _ _)]
theorem StE_tnF (h : StE S S') (n : Int) : StE (tnF S n) (tnF S' n) := by
  unfold tnF
  repeat' split
  all_goals first | exact StE_stP h _ _ _ | exact StE_stB h _ _ _ _ _ | exact StE_stT h _ _ | exact StE_stL h _ | exact StE_stQ h _ | exact StE_gU h | exact StE_gI h | exact StE_gQ h _ | exact h
theorem StE_siK (h : StE S S') (x : Int) : ∀ k : Nat, StE (siK S x k) (siK S' x k)
  | 0 => h
  | k + 1 => StE_tnF (StE_siK h x k) _
theorem aSim_E (h : StE S S') : aSim S' = aSim S := by unfold aSim; rw [mS_E h, aInk_E h]
theorem StE_exW (h : StE S S') (t : Int → Int) (n p : Int) : StE (exW t n p S) (exW t n p S') := by
  unfold exW
  repeat' split
  all_goals first | exact StE_stP h _ _ _ | exact StE_stB h _ _ _ _ _ | exact StE_stT h _ _ | exact StE_stL h _ | exact StE_stQ h _ | exact StE_gU h | exact StE_gI h | exact h
theorem okZ_E (h : StE S S') (t : Int → Int) (n p : Int) : okZ t n p S' = okZ t n p S := by
  unfold okZ
  simp only [← StE_kP h, ← StE_kB h, ← StE_kT h]
theorem xF_E (t : Int → Int) (n : Int) : ∀ (f k : Nat) (s s' : St × Int), StE s.1 s'.1 → s.2 = s'.2 → StE (xF t n f k s).1 (xF t n f k s').1 ∧ (xF t n f k s).2 = (xF t n f k s').2
  | 0, _, _, _, h, e => ⟨h, e⟩
  | f + 1, k, s, s', h, e => by
    simp only [xF]
    split
    · exact ⟨h, e⟩
    · exact xF_E t n f (k + 1) _ _ (StE_exW h t n _) (by show s.2 + (1 - okZ t n _ s.1) = s'.2 + (1 - okZ t n _ s'.1); rw [e, okZ_E h])
theorem xT_E (t : Int → Int) (n : Int) (T T' : Int → Int) : StE (xT t n T).1 (xT t n T').1 ∧ (xT t n T).2 = (xT t n T').2 := xF_E t n 120 1 _ _ (StE_st0 T T' _ _) rfl
theorem aIfC_E (h : StE S S') (x y g w : Int) : aIfC S' (gP S' x y g) x y w = aIfC S (gP S x y g) x y w := by
  unfold aIfC
  rw [mS_E (StE_gP h x y g), bS_E (StE_gP h x y g), ← h.1, ← h.2.1]
  have e : dfK S' (gP S' x y g) = dfK S (gP S x y g) := by
    funext n
    unfold dfK
    rw [bS_E (StE_gP h x y g), bS_E h]
  rw [e]
theorem aBlur_E (h : StE S S') : cntK (fun j => decide (blF (sC S') (sR S') (sG S') j ≠ sG S' j)) (sC S' * sR S').toNat = cntK (fun j => decide (blF (sC S) (sR S) (sG S) j ≠ sG S j)) (sC S * sR S).toNat := by rw [← h.1, ← h.2.1, ← h.2.2.1]
/-- an answer, as an int holds it -/
def w32 (z : Int) : Int := (Int32.ofInt z).toInt
theorem iv_w (z : Int) : iv z = iv (w32 z) := by show Value.int _ = Value.int _; rw [w32, Int32.ofInt_toInt]
theorem rg_w (z : Int) : rg (w32 z) := ⟨Int32.le_toInt _, Int32.toInt_lt _⟩
end AL
