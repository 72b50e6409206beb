/-! THE LAW'S WRAPPERS with the class behind them. Printed by wip/p37/gen/mkwr.py. -/
section TT
variable {l : Launch} {A : Ob} {M : List va_E}
theorem WO_P {A : Ob} : ∀ M9, WO A M9 → M9.length = 103 ∧ kcM 103 M9 := fun _ h => ⟨WO_len h, WO_kc h⟩
theorem T_parts (hl : l.stackTraces = false) (hA : VA A) (hW : WO A M) {v b : Int} (h1 : rg v) (h2 : rg b) : CtW l yL_parts cL_parts 4 (some .int) hhL_parts rwL_parts [.ref 0, iv v, iv b] M (fun u9 M8 => u9 = some (iv (tw (kPart (jS A) v b) (-9999002) (-9999003) ((chN (sN (jS A)) b : Int)))) ∧ WO (if kPart (jS A) v b = 0 then jAct A (gT (jS A) v b) else A) M8) := by
  obtain ⟨fs, hob⟩ := WO_ob hW
  have hK : kPart (jS A) v b = 0 ∨ kPart (jS A) v b = 1 ∨ kPart (jS A) v b = 2 := by
    unfold kPart
    repeat' split
    all_goals first | exact Or.inl rfl | exact Or.inr rfl | exact Or.inr (Or.inl rfl) | exact Or.inr (Or.inr rfl)
  rcases hK with h | h | h
  · unfold tw
    rw [if_pos h, if_pos h]
    exact t_parts hl (WO_len hW) (WO_kc hW) hob (KN_threshold hA hW h1 h2 h) WO_P
  · unfold tw
    rw [if_neg (show ¬ (kPart (jS A) v b = 0) by rw [h]; decide), if_neg (show ¬ (kPart (jS A) v b = 0) by rw [h]; decide), if_pos h]
    exact tx_parts1 hl (WO_len hW) (WO_kc hW) hob (KX_threshold1 hl hA hW h1 h2 h) WO_P
  · unfold tw
    rw [if_neg (show ¬ (kPart (jS A) v b = 0) by rw [h]; decide), if_neg (show ¬ (kPart (jS A) v b = 0) by rw [h]; decide), if_neg (show ¬ (kPart (jS A) v b = 1) by rw [h]; decide)]
    exact tx_parts2 hl (WO_len hW) (WO_kc hW) hob (KX_threshold2 hl hA hW h1 h2 h) WO_P
theorem T_boxes (hl : l.stackTraces = false) (hA : VA A) (hW : WO A M) {x0 x1 y0 y1 g : Int} (h1 : rg x0) (h2 : rg x1) (h3 : rg y0) (h4 : rg y1) (h5 : rg g) : CtW l yL_boxes cL_boxes 7 (some .int) hhL_boxes rwL_boxes [.ref 0, iv x0, iv x1, iv y0, iv y1, iv g] M (fun u9 M8 => u9 = some (iv (tw (kBox (jS A) x0 x1 y0 y1 g) (-9999001) (-9999002) ((boxF (sC (jS A)) g x0 (x1 - x0 + 1).toNat y0 (y1 - y0 + 1).toNat (sG (jS A), 0)).2))) ∧ WO (if kBox (jS A) x0 x1 y0 y1 g = 0 then jAct A (gB (jS A) x0 x1 y0 y1 g) else A) M8) := by
  obtain ⟨fs, hob⟩ := WO_ob hW
  have hK : kBox (jS A) x0 x1 y0 y1 g = 0 ∨ kBox (jS A) x0 x1 y0 y1 g = 1 ∨ kBox (jS A) x0 x1 y0 y1 g = 2 := by
    unfold kBox
    repeat' split
    all_goals first | exact Or.inl rfl | exact Or.inr rfl | exact Or.inr (Or.inl rfl) | exact Or.inr (Or.inr rfl)
  rcases hK with h | h | h
  · unfold tw
    rw [if_pos h, if_pos h]
    exact t_boxes hl (WO_len hW) (WO_kc hW) hob (KN_box hA hW h1 h2 h3 h4 h5 h) WO_P
  · unfold tw
    rw [if_neg (show ¬ (kBox (jS A) x0 x1 y0 y1 g = 0) by rw [h]; decide), if_neg (show ¬ (kBox (jS A) x0 x1 y0 y1 g = 0) by rw [h]; decide), if_pos h]
    exact tx_boxes1 hl (WO_len hW) (WO_kc hW) hob (KX_box1 hl hA hW h1 h2 h3 h4 h5 h) WO_P
  · unfold tw
    rw [if_neg (show ¬ (kBox (jS A) x0 x1 y0 y1 g = 0) by rw [h]; decide), if_neg (show ¬ (kBox (jS A) x0 x1 y0 y1 g = 0) by rw [h]; decide), if_neg (show ¬ (kBox (jS A) x0 x1 y0 y1 g = 1) by rw [h]; decide)]
    exact tx_boxes2 hl (WO_len hW) (WO_kc hW) hob (KX_box2 hl hA hW h1 h2 h3 h4 h5 h) WO_P
theorem T_noises (hl : l.stackTraces = false) (hA : VA A) (hW : WO A M) {x v : Int} (h1 : rg v) : CtW l yL_noises cL_noises 5 (some .int) hhL_noises rwL_noises [.ref 0, jv x, iv v] M (fun u9 M8 => u9 = some (iv (tw (kIn v 1 50) (-9999002) (-9999002) (cntK (fun j => decide (noF (sG (jS A)) x v j ≠ sG (jS A) j)) (sC (jS A) * sR (jS A)).toNat))) ∧ WO (if kIn v 1 50 = 0 then jAct A (gO (jS A) x v) else A) M8) := by
  obtain ⟨fs, hob⟩ := WO_ob hW
  have hK : kIn v 1 50 = 0 ∨ kIn v 1 50 = 1 := by
    unfold kIn
    repeat' split
    all_goals first | exact Or.inl rfl | exact Or.inr rfl | exact Or.inr (Or.inl rfl) | exact Or.inr (Or.inr rfl)
  rcases hK with h | h
  · unfold tw
    rw [if_pos h, if_pos h]
    exact t_noises hl (WO_len hW) (WO_kc hW) hob (KN_noise hA hW h1 h) WO_P
  · unfold tw
    rw [if_neg (show ¬ (kIn v 1 50 = 0) by rw [h]; decide), if_neg (show ¬ (kIn v 1 50 = 0) by rw [h]; decide), if_pos h]
    exact tx_noises hl (WO_len hW) (WO_kc hW) hob (KX_noise hl hA hW h1 h) WO_P
theorem T_would (hl : l.stackTraces = false) (hA : VA A) (hW : WO A M) {x y g w : Int} (hx : rg x) (hy : rg y) (hg : rg g) (hw : rg w) : CtW l yL_would cL_would 6 (some .int) hhL_would rwL_would [.ref 0, iv x, iv y, iv g, iv w] M (fun u9 M8 => u9 = some (iv (tw (kIfC (jS A) x y g w) (-9999001) (-9999002) (aIfC (jS A) (gP (jS A) x y g) x y w))) ∧ WO (if kIfC (jS A) x y g w = 0 then A else A) M8) := by
  obtain ⟨fs, hob⟩ := WO_ob hW
  have hK : kIfC (jS A) x y g w = 0 ∨ kIfC (jS A) x y g w = 1 ∨ kIfC (jS A) x y g w = 2 := by
    unfold kIfC
    repeat' split
    all_goals first | exact Or.inl rfl | exact Or.inr rfl | exact Or.inr (Or.inl rfl) | exact Or.inr (Or.inr rfl)
  rcases hK with h | h | h
  · unfold tw
    rw [if_pos h, if_pos h]
    exact t_would hl (WO_len hW) (WO_kc hW) hob (KN_ifCell hA hW hx hy hg hw h) WO_P
  · unfold tw
    rw [if_neg (show ¬ (kIfC (jS A) x y g w = 0) by rw [h]; decide), if_neg (show ¬ (kIfC (jS A) x y g w = 0) by rw [h]; decide), if_pos h]
    exact tx_would1 hl (WO_len hW) (WO_kc hW) hob (KX_ifCell1 hl hA hW hx hy hg hw h) WO_P
  · unfold tw
    rw [if_neg (show ¬ (kIfC (jS A) x y g w = 0) by rw [h]; decide), if_neg (show ¬ (kIfC (jS A) x y g w = 0) by rw [h]; decide), if_neg (show ¬ (kIfC (jS A) x y g w = 1) by rw [h]; decide)]
    exact tx_would2 hl (WO_len hW) (WO_kc hW) hob (KX_ifCell2 hl hA hW hx hy hg hw h) WO_P
theorem T_doScript (hl : l.stackTraces = false) (hA : VA A) (hW : WO A M) {n x : Int} (hn : rg n) (hx : rgL x) : CtW l yL_doScript cL_doScript 5 (some .int) hhL_doScript rwL_doScript [.ref 0, iv n, jv x] M (fun u9 M8 => u9 = some (iv (tw (kRun n x) (-9999002) (-9999002) (aRun (jS A) n x))) ∧ WO (if kRun n x = 0 then A else A) M8) := by
  obtain ⟨fs, hob⟩ := WO_ob hW
  have hK : kRun n x = 0 ∨ kRun n x = 1 := by
    unfold kRun
    repeat' split
    all_goals first | exact Or.inl rfl | exact Or.inr rfl | exact Or.inr (Or.inl rfl) | exact Or.inr (Or.inr rfl)
  rcases hK with h | h
  · unfold tw
    rw [if_pos h, if_pos h]
    exact t_doScript hl (WO_len hW) (WO_kc hW) hob (KN_runScript hA hW hn hx h) WO_P
  · unfold tw
    rw [if_neg (show ¬ (kRun n x = 0) by rw [h]; decide), if_neg (show ¬ (kRun n x = 0) by rw [h]; decide), if_pos h]
    exact tx_doScript hl (WO_len hW) (WO_kc hW) hob (KX_runScript hl hA hW hn hx h) WO_P
theorem T_doSimulate (hl : l.stackTraces = false) (hA : VA A) (hW : WO A M) {x n : Int} (hn : rg n) : CtW l yL_doSimulate cL_doSimulate 5 (some .int) hhL_doSimulate rwL_doSimulate [.ref 0, jv x, iv n] M (fun u9 M8 => u9 = some (iv (tw (kIn n 1 60) (-9999002) (-9999002) (aSim (siK (jS A) x n.toNat)))) ∧ WO (if kIn n 1 60 = 0 then A else A) M8) := by
  obtain ⟨fs, hob⟩ := WO_ob hW
  have hK : kIn n 1 60 = 0 ∨ kIn n 1 60 = 1 := by
    unfold kIn
    repeat' split
    all_goals first | exact Or.inl rfl | exact Or.inr rfl | exact Or.inr (Or.inl rfl) | exact Or.inr (Or.inr rfl)
  rcases hK with h | h
  · unfold tw
    rw [if_pos h, if_pos h]
    exact t_doSimulate hl (WO_len hW) (WO_kc hW) hob (KN_simulate hA hW hn h) WO_P
  · unfold tw
    rw [if_neg (show ¬ (kIn n 1 60 = 0) by rw [h]; decide), if_neg (show ¬ (kIn n 1 60 = 0) by rw [h]; decide), if_pos h]
    exact tx_doSimulate hl (WO_len hW) (WO_kc hW) hob (KX_simulate hl hA hW hn h) WO_P
theorem T_tryAppend (hl : l.stackTraces = false) (hA : VA A) (hW : WO A M) {x : Int} (hx : rg x) (h : ¬ (0 ≤ x ∧ x ≤ 255)) : CtW l yL_tryAppend cL_tryAppend 3 (some .int) hhL_tryAppend rwL_tryAppend [.ref 0, iv x] M (fun u9 M8 => u9 = some (iv (-9999002)) ∧ WO A M8) := by
  obtain ⟨fs, hob⟩ := WO_ob hW
  exact tx_tryAppend hl (WO_len hW) (WO_kc hW) hob (KX_append hl hA hW hx h) WO_P
theorem T_tryAbout (hl : l.stackTraces = false) (hA : VA A) (hW : WO A M) {w : Int} (hw : rg w) : CtW l yL_tryAbout cL_tryAbout 3 (some .int) hhL_tryAbout rwL_tryAbout [.ref 0, iv w] M (fun u9 M8 => u9 = some (iv (tw (kIn w 0 10) (-9999002) (-9999002) (aAbout (jS A) w))) ∧ WO (if kIn w 0 10 = 0 then A else A) M8) := by
  obtain ⟨fs, hob⟩ := WO_ob hW
  have hK : kIn w 0 10 = 0 ∨ kIn w 0 10 = 1 := by
    unfold kIn
    repeat' split
    all_goals first | exact Or.inl rfl | exact Or.inr rfl | exact Or.inr (Or.inl rfl) | exact Or.inr (Or.inr rfl)
  rcases hK with h | h
  · unfold tw
    rw [if_pos h, if_pos h]
    exact t_tryAbout hl (WO_len hW) (WO_kc hW) hob (KN_about hA hW hw h) WO_P
  · unfold tw
    rw [if_neg (show ¬ (kIn w 0 10 = 0) by rw [h]; decide), if_neg (show ¬ (kIn w 0 10 = 0) by rw [h]; decide), if_pos h]
    exact tx_tryAbout hl (WO_len hW) (WO_kc hW) hob (KX_about hl hA hW hw h) WO_P
theorem T_tryCell (hl : l.stackTraces = false) (hA : VA A) (hW : WO A M) {x y w : Int} (hx : rg x) (hy : rg y) (hw : rg w) : CtW l yL_tryCell cL_tryCell 5 (some .int) hhL_tryCell rwL_tryCell [.ref 0, iv x, iv y, iv w] M (fun u9 M8 => u9 = some (iv (tw (kCell (jS A) x y w 5) (-9999001) (-9999002) (aCell (jS A) x y w))) ∧ WO (if kCell (jS A) x y w 5 = 0 then A else A) M8) := by
  obtain ⟨fs, hob⟩ := WO_ob hW
  have hK : kCell (jS A) x y w 5 = 0 ∨ kCell (jS A) x y w 5 = 1 ∨ kCell (jS A) x y w 5 = 2 := by
    unfold kCell
    repeat' split
    all_goals first | exact Or.inl rfl | exact Or.inr rfl | exact Or.inr (Or.inl rfl) | exact Or.inr (Or.inr rfl)
  rcases hK with h | h | h
  · unfold tw
    rw [if_pos h, if_pos h]
    exact t_tryCell hl (WO_len hW) (WO_kc hW) hob (KN_cellOf hA hW hx hy hw h) WO_P
  · unfold tw
    rw [if_neg (show ¬ (kCell (jS A) x y w 5 = 0) by rw [h]; decide), if_neg (show ¬ (kCell (jS A) x y w 5 = 0) by rw [h]; decide), if_pos h]
    exact tx_tryCell1 hl (WO_len hW) (WO_kc hW) hob (KX_cellOf1 hl hA hW hx hy hw h) WO_P
  · unfold tw
    rw [if_neg (show ¬ (kCell (jS A) x y w 5 = 0) by rw [h]; decide), if_neg (show ¬ (kCell (jS A) x y w 5 = 0) by rw [h]; decide), if_neg (show ¬ (kCell (jS A) x y w 5 = 1) by rw [h]; decide)]
    exact tx_tryCell2 hl (WO_len hW) (WO_kc hW) hob (KX_cellOf2 hl hA hW hx hy hw h) WO_P
theorem T_tryPart (hl : l.stackTraces = false) (hA : VA A) (hW : WO A M) {k : Int} (hk : rg k) : CtW l yL_tryPart cL_tryPart 3 (some .int) hhL_tryPart rwL_tryPart [.ref 0, iv k] M (fun u9 M8 => u9 = some (iv (tw (kIn k 0 (sN (jS A) - 1)) (-9999001) (-9999001) (sT (jS A) k))) ∧ WO (if kIn k 0 (sN (jS A) - 1) = 0 then A else A) M8) := by
  obtain ⟨fs, hob⟩ := WO_ob hW
  have hK : kIn k 0 (sN (jS A) - 1) = 0 ∨ kIn k 0 (sN (jS A) - 1) = 1 := by
    unfold kIn
    repeat' split
    all_goals first | exact Or.inl rfl | exact Or.inr rfl | exact Or.inr (Or.inl rfl) | exact Or.inr (Or.inr rfl)
  rcases hK with h | h
  · unfold tw
    rw [if_pos h, if_pos h]
    exact t_tryPart hl (WO_len hW) (WO_kc hW) hob (KN_thresholdAt hA hW hk h) WO_P
  · unfold tw
    rw [if_neg (show ¬ (kIn k 0 (sN (jS A) - 1) = 0) by rw [h]; decide), if_neg (show ¬ (kIn k 0 (sN (jS A) - 1) = 0) by rw [h]; decide), if_pos h]
    exact tx_tryPart hl (WO_len hW) (WO_kc hW) hob (KX_thresholdAt hl hA hW hk h) WO_P
theorem T_tryIsle (hl : l.stackTraces = false) (hA : VA A) (hW : WO A M) {i w : Int} (hi : rg i) (hw : rg w) : CtW l yL_tryIsle cL_tryIsle 4 (some .int) hhL_tryIsle rwL_tryIsle [.ref 0, iv i, iv w] M (fun u9 M8 => u9 = some (iv (tw (kIsle (jS A) i w 8) (-9999001) (-9999002) (aIsland (jS A) i w))) ∧ WO (if kIsle (jS A) i w 8 = 0 then A else A) M8) := by
  obtain ⟨fs, hob⟩ := WO_ob hW
  have hK : kIsle (jS A) i w 8 = 0 ∨ kIsle (jS A) i w 8 = 1 ∨ kIsle (jS A) i w 8 = 2 := by
    unfold kIsle
    repeat' split
    all_goals first | exact Or.inl rfl | exact Or.inr rfl | exact Or.inr (Or.inl rfl) | exact Or.inr (Or.inr rfl)
  rcases hK with h | h | h
  · unfold tw
    rw [if_pos h, if_pos h]
    exact t_tryIsle hl (WO_len hW) (WO_kc hW) hob (KN_island hA hW hi hw h) WO_P
  · unfold tw
    rw [if_neg (show ¬ (kIsle (jS A) i w 8 = 0) by rw [h]; decide), if_neg (show ¬ (kIsle (jS A) i w 8 = 0) by rw [h]; decide), if_pos h]
    exact tx_tryIsle1 hl (WO_len hW) (WO_kc hW) hob (KX_island1 hl hA hW hi hw h) WO_P
  · unfold tw
    rw [if_neg (show ¬ (kIsle (jS A) i w 8 = 0) by rw [h]; decide), if_neg (show ¬ (kIsle (jS A) i w 8 = 0) by rw [h]; decide), if_neg (show ¬ (kIsle (jS A) i w 8 = 1) by rw [h]; decide)]
    exact tx_tryIsle2 hl (WO_len hW) (WO_kc hW) hob (KX_island2 hl hA hW hi hw h) WO_P
theorem T_tryBorder (hl : l.stackTraces = false) (hA : VA A) (hW : WO A M) {i j : Int} (hi : rg i) (hj : rg j) : CtW l yL_tryBorder cL_tryBorder 4 (some .int) hhL_tryBorder rwL_tryBorder [.ref 0, iv i, iv j] M (fun u9 M8 => u9 = some (iv (tw (kBor (jS A) i j) (-9999001) (-9999001) (brd (sC (jS A)) (sR (jS A)) (bS (jS A)) (fS (jS A) i) (fS (jS A) j)))) ∧ WO (if kBor (jS A) i j = 0 then A else A) M8) := by
  obtain ⟨fs, hob⟩ := WO_ob hW
  have hK : kBor (jS A) i j = 0 ∨ kBor (jS A) i j = 1 := by
    unfold kBor
    repeat' split
    all_goals first | exact Or.inl rfl | exact Or.inr rfl | exact Or.inr (Or.inl rfl) | exact Or.inr (Or.inr rfl)
  rcases hK with h | h
  · unfold tw
    rw [if_pos h, if_pos h]
    exact t_tryBorder hl (WO_len hW) (WO_kc hW) hob (KN_border hA hW hi hj h) WO_P
  · unfold tw
    rw [if_neg (show ¬ (kBor (jS A) i j = 0) by rw [h]; decide), if_neg (show ¬ (kBor (jS A) i j = 0) by rw [h]; decide), if_pos h]
    exact tx_tryBorder hl (WO_len hW) (WO_kc hW) hob (KX_border hl hA hW hi hj h) WO_P
theorem T_tryOutline (hl : l.stackTraces = false) (hA : VA A) (hW : WO A M) {i w : Int} (hi : rg i) (hw : rg w) : CtW l yL_tryOutline cL_tryOutline 4 (some .int) hhL_tryOutline rwL_tryOutline [.ref 0, iv i, iv w] M (fun u9 M8 => u9 = some (iv (tw (kIsle (jS A) i w 2) (-9999001) (-9999002) (aOutline (jS A) i w))) ∧ WO (if kIsle (jS A) i w 2 = 0 then A else A) M8) := by
  obtain ⟨fs, hob⟩ := WO_ob hW
  have hK : kIsle (jS A) i w 2 = 0 ∨ kIsle (jS A) i w 2 = 1 ∨ kIsle (jS A) i w 2 = 2 := by
    unfold kIsle
    repeat' split
    all_goals first | exact Or.inl rfl | exact Or.inr rfl | exact Or.inr (Or.inl rfl) | exact Or.inr (Or.inr rfl)
  rcases hK with h | h | h
  · unfold tw
    rw [if_pos h, if_pos h]
    exact t_tryOutline hl (WO_len hW) (WO_kc hW) hob (KN_outline hA hW hi hw h) WO_P
  · unfold tw
    rw [if_neg (show ¬ (kIsle (jS A) i w 2 = 0) by rw [h]; decide), if_neg (show ¬ (kIsle (jS A) i w 2 = 0) by rw [h]; decide), if_pos h]
    exact tx_tryOutline1 hl (WO_len hW) (WO_kc hW) hob (KX_outline1 hl hA hW hi hw h) WO_P
  · unfold tw
    rw [if_neg (show ¬ (kIsle (jS A) i w 2 = 0) by rw [h]; decide), if_neg (show ¬ (kIsle (jS A) i w 2 = 0) by rw [h]; decide), if_neg (show ¬ (kIsle (jS A) i w 2 = 1) by rw [h]; decide)]
    exact tx_tryOutline2 hl (WO_len hW) (WO_kc hW) hob (KX_outline2 hl hA hW hi hw h) WO_P
theorem T_tryWay (hl : l.stackTraces = false) (hA : VA A) (hW : WO A M) {i k : Int} (hi : rg i) (hk : rg k) : CtW l yL_tryWay cL_tryWay 4 (some .int) hhL_tryWay rwL_tryWay [.ref 0, iv i, iv k] M (fun u9 M8 => u9 = some (iv (tw (kWay (jS A) i k) (-9999001) (-9999001) (wS1 (jS A) i k))) ∧ WO (if kWay (jS A) i k = 0 then A else A) M8) := by
  obtain ⟨fs, hob⟩ := WO_ob hW
  have hK : kWay (jS A) i k = 0 ∨ kWay (jS A) i k = 1 := by
    unfold kWay
    repeat' split
    all_goals first | exact Or.inl rfl | exact Or.inr rfl | exact Or.inr (Or.inl rfl) | exact Or.inr (Or.inr rfl)
  rcases hK with h | h
  · unfold tw
    rw [if_pos h, if_pos h]
    exact t_tryWay hl (WO_len hW) (WO_kc hW) hob (KN_outlineWay hA hW hi hk h) WO_P
  · unfold tw
    rw [if_neg (show ¬ (kWay (jS A) i k = 0) by rw [h]; decide), if_neg (show ¬ (kWay (jS A) i k = 0) by rw [h]; decide), if_pos h]
    exact tx_tryWay hl (WO_len hW) (WO_kc hW) hob (KX_outlineWay hl hA hW hi hk h) WO_P
theorem T_tryBand (hl : l.stackTraces = false) (hA : VA A) (hW : WO A M) {x w : Int} (hx : rg x) (hw : rg w) : CtW l yL_tryBand cL_tryBand 4 (some .int) hhL_tryBand rwL_tryBand [.ref 0, iv x, iv w] M (fun u9 M8 => u9 = some (iv (tw (kBand (jS A) x w) (-9999001) (-9999002) (aBand (jS A) x w))) ∧ WO (if kBand (jS A) x w = 0 then A else A) M8) := by
  obtain ⟨fs, hob⟩ := WO_ob hW
  have hK : kBand (jS A) x w = 0 ∨ kBand (jS A) x w = 1 ∨ kBand (jS A) x w = 2 := by
    unfold kBand
    repeat' split
    all_goals first | exact Or.inl rfl | exact Or.inr rfl | exact Or.inr (Or.inl rfl) | exact Or.inr (Or.inr rfl)
  rcases hK with h | h | h
  · unfold tw
    rw [if_pos h, if_pos h]
    exact t_tryBand hl (WO_len hW) (WO_kc hW) hob (KN_band hA hW hx hw h) WO_P
  · unfold tw
    rw [if_neg (show ¬ (kBand (jS A) x w = 0) by rw [h]; decide), if_neg (show ¬ (kBand (jS A) x w = 0) by rw [h]; decide), if_pos h]
    exact tx_tryBand1 hl (WO_len hW) (WO_kc hW) hob (KX_band1 hl hA hW hx hw h) WO_P
  · unfold tw
    rw [if_neg (show ¬ (kBand (jS A) x w = 0) by rw [h]; decide), if_neg (show ¬ (kBand (jS A) x w = 0) by rw [h]; decide), if_neg (show ¬ (kBand (jS A) x w = 1) by rw [h]; decide)]
    exact tx_tryBand2 hl (WO_len hW) (WO_kc hW) hob (KX_band2 hl hA hW hx hw h) WO_P
theorem T_tryPlate (hl : l.stackTraces = false) (hA : VA A) (hW : WO A M) {c r : Int} (h1 : rg c) (h2 : rg r) : CtW l yL_tryPlate cL_tryPlate 4 (some .int) hhL_tryPlate rwL_tryPlate [.ref 0, iv c, iv r] M (fun u9 M8 => u9 = some (iv (tw (kPlate c r) (-9999002) (-9999002) (c * r))) ∧ WO (if kPlate c r = 0 then jAct A (stN (jS A) c r) else A) M8) := by
  obtain ⟨fs, hob⟩ := WO_ob hW
  have hK : kPlate c r = 0 ∨ kPlate c r = 1 := by
    unfold kPlate
    repeat' split
    all_goals first | exact Or.inl rfl | exact Or.inr rfl | exact Or.inr (Or.inl rfl) | exact Or.inr (Or.inr rfl)
  rcases hK with h | h
  · unfold tw
    rw [if_pos h, if_pos h]
    exact t_tryPlate hl (WO_len hW) (WO_kc hW) hob (KN_plate hA hW h1 h2 h) WO_P
  · unfold tw
    rw [if_neg (show ¬ (kPlate c r = 0) by rw [h]; decide), if_neg (show ¬ (kPlate c r = 0) by rw [h]; decide), if_pos h]
    exact tx_tryPlate hl (WO_len hW) (WO_kc hW) hob (KX_plate hl hA hW h1 h2 h) WO_P
theorem T_tryPaint (hl : l.stackTraces = false) (hA : VA A) (hW : WO A M) {x y g : Int} (h1 : rg x) (h2 : rg y) (h3 : rg g) : CtW l yL_tryPaint cL_tryPaint 5 (some .int) hhL_tryPaint rwL_tryPaint [.ref 0, iv x, iv y, iv g] M (fun u9 M8 => u9 = some (iv (tw (kPut (jS A) x y g) (-9999001) (-9999002) (sG (jS A) (y * sC (jS A) + x)))) ∧ WO (if kPut (jS A) x y g = 0 then jAct A (gP (jS A) x y g) else A) M8) := by
  obtain ⟨fs, hob⟩ := WO_ob hW
  have hK : kPut (jS A) x y g = 0 ∨ kPut (jS A) x y g = 1 ∨ kPut (jS A) x y g = 2 := by
    unfold kPut
    repeat' split
    all_goals first | exact Or.inl rfl | exact Or.inr rfl | exact Or.inr (Or.inl rfl) | exact Or.inr (Or.inr rfl)
  rcases hK with h | h | h
  · unfold tw
    rw [if_pos h, if_pos h]
    exact t_tryPaint hl (WO_len hW) (WO_kc hW) hob (KN_cell hA hW h1 h2 h3 h) WO_P
  · unfold tw
    rw [if_neg (show ¬ (kPut (jS A) x y g = 0) by rw [h]; decide), if_neg (show ¬ (kPut (jS A) x y g = 0) by rw [h]; decide), if_pos h]
    exact tx_tryPaint1 hl (WO_len hW) (WO_kc hW) hob (KX_cell1 hl hA hW h1 h2 h3 h) WO_P
  · unfold tw
    rw [if_neg (show ¬ (kPut (jS A) x y g = 0) by rw [h]; decide), if_neg (show ¬ (kPut (jS A) x y g = 0) by rw [h]; decide), if_neg (show ¬ (kPut (jS A) x y g = 1) by rw [h]; decide)]
    exact tx_tryPaint2 hl (WO_len hW) (WO_kc hW) hob (KX_cell2 hl hA hW h1 h2 h3 h) WO_P
theorem T_tryShare (hl : l.stackTraces = false) (hA : VA A) (hW : WO A M) {v : Int} (h1 : rg v) : CtW l yL_tryShare cL_tryShare 3 (some .int) hhL_tryShare rwL_tryShare [.ref 0, iv v] M (fun u9 M8 => u9 = some (iv (tw (kIn v 0 5) (-9999002) (-9999002) (((shK (sG (jS A)) (sC (jS A) * sR (jS A)).toNat v (sT (jS A)) v.toNat).2 : Int)))) ∧ WO (if kIn v 0 5 = 0 then jAct A (gH (jS A) v) else A) M8) := by
  obtain ⟨fs, hob⟩ := WO_ob hW
  have hK : kIn v 0 5 = 0 ∨ kIn v 0 5 = 1 := by
    unfold kIn
    repeat' split
    all_goals first | exact Or.inl rfl | exact Or.inr rfl | exact Or.inr (Or.inl rfl) | exact Or.inr (Or.inr rfl)
  rcases hK with h | h
  · unfold tw
    rw [if_pos h, if_pos h]
    exact t_tryShare hl (WO_len hW) (WO_kc hW) hob (KN_share hA hW h1 h) WO_P
  · unfold tw
    rw [if_neg (show ¬ (kIn v 0 5 = 0) by rw [h]; decide), if_neg (show ¬ (kIn v 0 5 = 0) by rw [h]; decide), if_pos h]
    exact tx_tryShare hl (WO_len hW) (WO_kc hW) hob (KX_share hl hA hW h1 h) WO_P
theorem T_tryLeast (hl : l.stackTraces = false) (hA : VA A) (hW : WO A M) {v : Int} (h1 : rg v) : CtW l yL_tryLeast cL_tryLeast 3 (some .int) hhL_tryLeast rwL_tryLeast [.ref 0, iv v] M (fun u9 M8 => u9 = some (iv (tw (kIn v 1 30) (-9999002) (-9999002) (sE (jS A)))) ∧ WO (if kIn v 1 30 = 0 then jAct A (setE (jS A) v) else A) M8) := by
  obtain ⟨fs, hob⟩ := WO_ob hW
  have hK : kIn v 1 30 = 0 ∨ kIn v 1 30 = 1 := by
    unfold kIn
    repeat' split
    all_goals first | exact Or.inl rfl | exact Or.inr rfl | exact Or.inr (Or.inl rfl) | exact Or.inr (Or.inr rfl)
  rcases hK with h | h
  · unfold tw
    rw [if_pos h, if_pos h]
    exact t_tryLeast hl (WO_len hW) (WO_kc hW) hob (KN_least hA hW h1 h) WO_P
  · unfold tw
    rw [if_neg (show ¬ (kIn v 1 30 = 0) by rw [h]; decide), if_neg (show ¬ (kIn v 1 30 = 0) by rw [h]; decide), if_pos h]
    exact tx_tryLeast hl (WO_len hW) (WO_kc hW) hob (KX_least hl hA hW h1 h) WO_P
theorem T_tryHatch (hl : l.stackTraces = false) (hA : VA A) (hW : WO A M) {b v : Int} (h1 : rg b) (h2 : rg v) : CtW l yL_tryHatch cL_tryHatch 4 (some .int) hhL_tryHatch rwL_tryHatch [.ref 0, iv b, iv v] M (fun u9 M8 => u9 = some (iv (tw (kHatch b v) (-9999001) (-9999002) (sH (jS A) b))) ∧ WO (if kHatch b v = 0 then jAct A (setH (jS A) b v) else A) M8) := by
  obtain ⟨fs, hob⟩ := WO_ob hW
  have hK : kHatch b v = 0 ∨ kHatch b v = 1 ∨ kHatch b v = 2 := by
    unfold kHatch
    repeat' split
    all_goals first | exact Or.inl rfl | exact Or.inr rfl | exact Or.inr (Or.inl rfl) | exact Or.inr (Or.inr rfl)
  rcases hK with h | h | h
  · unfold tw
    rw [if_pos h, if_pos h]
    exact t_tryHatch hl (WO_len hW) (WO_kc hW) hob (KN_hatch hA hW h1 h2 h) WO_P
  · unfold tw
    rw [if_neg (show ¬ (kHatch b v = 0) by rw [h]; decide), if_neg (show ¬ (kHatch b v = 0) by rw [h]; decide), if_pos h]
    exact tx_tryHatch1 hl (WO_len hW) (WO_kc hW) hob (KX_hatch1 hl hA hW h1 h2 h) WO_P
  · unfold tw
    rw [if_neg (show ¬ (kHatch b v = 0) by rw [h]; decide), if_neg (show ¬ (kHatch b v = 0) by rw [h]; decide), if_neg (show ¬ (kHatch b v = 1) by rw [h]; decide)]
    exact tx_tryHatch2 hl (WO_len hW) (WO_kc hW) hob (KX_hatch2 hl hA hW h1 h2 h) WO_P
theorem T_tryLine (hl : l.stackTraces = false) (hA : VA A) (hW : WO A M) {v : Int} (h1 : rg v) : CtW l yL_tryLine cL_tryLine 3 (some .int) hhL_tryLine rwL_tryLine [.ref 0, iv v] M (fun u9 M8 => u9 = some (iv (tw (kIn v 0 9) (-9999002) (-9999002) (sI (jS A)))) ∧ WO (if kIn v 0 9 = 0 then jAct A (setI (jS A) v) else A) M8) := by
  obtain ⟨fs, hob⟩ := WO_ob hW
  have hK : kIn v 0 9 = 0 ∨ kIn v 0 9 = 1 := by
    unfold kIn
    repeat' split
    all_goals first | exact Or.inl rfl | exact Or.inr rfl | exact Or.inr (Or.inl rfl) | exact Or.inr (Or.inr rfl)
  rcases hK with h | h
  · unfold tw
    rw [if_pos h, if_pos h]
    exact t_tryLine hl (WO_len hW) (WO_kc hW) hob (KN_line hA hW h1 h) WO_P
  · unfold tw
    rw [if_neg (show ¬ (kIn v 0 9 = 0) by rw [h]; decide), if_neg (show ¬ (kIn v 0 9 = 0) by rw [h]; decide), if_pos h]
    exact tx_tryLine hl (WO_len hW) (WO_kc hW) hob (KX_line hl hA hW h1 h) WO_P
theorem T_trySpread (hl : l.stackTraces = false) (hA : VA A) (hW : WO A M) {v : Int} (h1 : rg v) : CtW l yL_trySpread cL_trySpread 3 (some .int) hhL_trySpread rwL_trySpread [.ref 0, iv v] M (fun u9 M8 => u9 = some (iv (tw (kIn v 1 49) (-9999002) (-9999002) (cntK (fun j => decide (spF v (sG (jS A) j) ≠ sG (jS A) j)) (sC (jS A) * sR (jS A)).toNat))) ∧ WO (if kIn v 1 49 = 0 then jAct A (gQ (jS A) v) else A) M8) := by
  obtain ⟨fs, hob⟩ := WO_ob hW
  have hK : kIn v 1 49 = 0 ∨ kIn v 1 49 = 1 := by
    unfold kIn
    repeat' split
    all_goals first | exact Or.inl rfl | exact Or.inr rfl | exact Or.inr (Or.inl rfl) | exact Or.inr (Or.inr rfl)
  rcases hK with h | h
  · unfold tw
    rw [if_pos h, if_pos h]
    exact t_trySpread hl (WO_len hW) (WO_kc hW) hob (KN_spread hA hW h1 h) WO_P
  · unfold tw
    rw [if_neg (show ¬ (kIn v 1 49 = 0) by rw [h]; decide), if_neg (show ¬ (kIn v 1 49 = 0) by rw [h]; decide), if_pos h]
    exact tx_trySpread hl (WO_len hW) (WO_kc hW) hob (KX_spread hl hA hW h1 h) WO_P
theorem T_tryUndo (hl : l.stackTraces = false) (hA : VA A) (hW : WO A M)  : CtW l yL_tryUndo cL_tryUndo 2 (some .int) hhL_tryUndo rwL_tryUndo [.ref 0] M (fun u9 M8 => u9 = some (iv (tw (kUndo (jC A)) (-9999003) (-9999003) ((jC A) - 1))) ∧ WO (if kUndo (jC A) = 0 then jUndo A else A) M8) := by
  obtain ⟨fs, hob⟩ := WO_ob hW
  have hK : kUndo (jC A) = 0 ∨ kUndo (jC A) = 1 := by
    unfold kUndo
    repeat' split
    all_goals first | exact Or.inl rfl | exact Or.inr rfl | exact Or.inr (Or.inl rfl) | exact Or.inr (Or.inr rfl)
  rcases hK with h | h
  · unfold tw
    rw [if_pos h, if_pos h]
    exact t_tryUndo hl (WO_len hW) (WO_kc hW) hob (KN_undo hA hW  h) WO_P
  · unfold tw
    rw [if_neg (show ¬ (kUndo (jC A) = 0) by rw [h]; decide), if_neg (show ¬ (kUndo (jC A) = 0) by rw [h]; decide), if_pos h]
    exact tx_tryUndo hl (WO_len hW) (WO_kc hW) hob (KX_undo hl hA hW  h) WO_P
theorem T_tryIf (hl : l.stackTraces = false) (hA : VA A) (hW : WO A M) {v w : Int} (hv : rg v) (hw : rg w) : CtW l yL_tryIf cL_tryIf 4 (some .int) hhL_tryIf rwL_tryIf [.ref 0, iv v, iv w] M (fun u9 M8 => u9 = some (iv (tw (kIfL v w) (-9999002) (-9999002) (aIfL (jS A) v w))) ∧ WO (if kIfL v w = 0 then A else A) M8) := by
  obtain ⟨fs, hob⟩ := WO_ob hW
  have hK : kIfL v w = 0 ∨ kIfL v w = 1 := by
    unfold kIfL
    repeat' split
    all_goals first | exact Or.inl rfl | exact Or.inr rfl | exact Or.inr (Or.inl rfl) | exact Or.inr (Or.inr rfl)
  rcases hK with h | h
  · unfold tw
    rw [if_pos h, if_pos h]
    exact t_tryIf hl (WO_len hW) (WO_kc hW) hob (KN_ifLeast hA hW hv hw h) WO_P
  · unfold tw
    rw [if_neg (show ¬ (kIfL v w = 0) by rw [h]; decide), if_neg (show ¬ (kIfL v w = 0) by rw [h]; decide), if_pos h]
    exact tx_tryIf hl (WO_len hW) (WO_kc hW) hob (KX_ifLeast hl hA hW hv hw h) WO_P
theorem T_tryFor (hl : l.stackTraces = false) (hA : VA A) (hW : WO A M) {n : Int} (hn : rg n) : CtW l yL_tryFor cL_tryFor 3 (some .int) hhL_tryFor rwL_tryFor [.ref 0, iv n] M (fun u9 M8 => u9 = some (iv (tw (kIn n 1 144) (-9999002) (-9999002) (lfK (jS A) n 30 1))) ∧ WO (if kIn n 1 144 = 0 then A else A) M8) := by
  obtain ⟨fs, hob⟩ := WO_ob hW
  have hK : kIn n 1 144 = 0 ∨ kIn n 1 144 = 1 := by
    unfold kIn
    repeat' split
    all_goals first | exact Or.inl rfl | exact Or.inr rfl | exact Or.inr (Or.inl rfl) | exact Or.inr (Or.inr rfl)
  rcases hK with h | h
  · unfold tw
    rw [if_pos h, if_pos h]
    exact t_tryFor hl (WO_len hW) (WO_kc hW) hob (KN_leastFor hA hW hn h) WO_P
  · unfold tw
    rw [if_neg (show ¬ (kIn n 1 144 = 0) by rw [h]; decide), if_neg (show ¬ (kIn n 1 144 = 0) by rw [h]; decide), if_pos h]
    exact tx_tryFor hl (WO_len hW) (WO_kc hW) hob (KX_leastFor hl hA hW hn h) WO_P
theorem T_tryBest (hl : l.stackTraces = false) (hA : VA A) (hW : WO A M) {k : Int} (hk : rg k) : CtW l yL_tryBest cL_tryBest 3 (some .int) hhL_tryBest rwL_tryBest [.ref 0, iv k] M (fun u9 M8 => u9 = some (iv (tw (kIn k 0 (sN (jS A) - 1)) (-9999001) (-9999001) (aBest (jS A) k))) ∧ WO (if kIn k 0 (sN (jS A) - 1) = 0 then A else A) M8) := by
  obtain ⟨fs, hob⟩ := WO_ob hW
  have hK : kIn k 0 (sN (jS A) - 1) = 0 ∨ kIn k 0 (sN (jS A) - 1) = 1 := by
    unfold kIn
    repeat' split
    all_goals first | exact Or.inl rfl | exact Or.inr rfl | exact Or.inr (Or.inl rfl) | exact Or.inr (Or.inr rfl)
  rcases hK with h | h
  · unfold tw
    rw [if_pos h, if_pos h]
    exact t_tryBest hl (WO_len hW) (WO_kc hW) hob (KN_bestMove hA hW hk h) WO_P
  · unfold tw
    rw [if_neg (show ¬ (kIn k 0 (sN (jS A) - 1) = 0) by rw [h]; decide), if_neg (show ¬ (kIn k 0 (sN (jS A) - 1) = 0) by rw [h]; decide), if_pos h]
    exact tx_tryBest hl (WO_len hW) (WO_kc hW) hob (KX_bestMove hl hA hW hk h) WO_P
theorem T_tryKeep (hl : l.stackTraces = false) (hA : VA A) (hW : WO A M) {v : Int} (h1 : rg v) : CtW l yL_tryKeep cL_tryKeep 3 (some .int) hhL_tryKeep rwL_tryKeep [.ref 0, iv v] M (fun u9 M8 => u9 = some (iv (tw (kIn v 0 1) (-9999001) (-9999001) (sumK (sG (jS A)) (sC (jS A) * sR (jS A)).toNat))) ∧ WO (if kIn v 0 1 = 0 then jSave A v else A) M8) := by
  obtain ⟨fs, hob⟩ := WO_ob hW
  have hK : kIn v 0 1 = 0 ∨ kIn v 0 1 = 1 := by
    unfold kIn
    repeat' split
    all_goals first | exact Or.inl rfl | exact Or.inr rfl | exact Or.inr (Or.inl rfl) | exact Or.inr (Or.inr rfl)
  rcases hK with h | h
  · unfold tw
    rw [if_pos h, if_pos h]
    exact t_tryKeep hl (WO_len hW) (WO_kc hW) hob (KN_save hA hW h1 h) WO_P
  · unfold tw
    rw [if_neg (show ¬ (kIn v 0 1 = 0) by rw [h]; decide), if_neg (show ¬ (kIn v 0 1 = 0) by rw [h]; decide), if_pos h]
    exact tx_tryKeep hl (WO_len hW) (WO_kc hW) hob (KX_save hl hA hW h1 h) WO_P
theorem T_tryBack (hl : l.stackTraces = false) (hA : VA A) (hW : WO A M) {v : Int} (h1 : rg v) : CtW l yL_tryBack cL_tryBack 3 (some .int) hhL_tryBack rwL_tryBack [.ref 0, iv v] M (fun u9 M8 => u9 = some (iv (tw (kRes (jV A) v) (-9999001) (-9999003) (sumK (sG (if v = 0 then (j0 A) else (j1 A))) (sC (if v = 0 then (j0 A) else (j1 A)) * sR (if v = 0 then (j0 A) else (j1 A))).toNat))) ∧ WO (if kRes (jV A) v = 0 then jRest A v else A) M8) := by
  obtain ⟨fs, hob⟩ := WO_ob hW
  have hK : kRes (jV A) v = 0 ∨ kRes (jV A) v = 1 ∨ kRes (jV A) v = 2 := by
    unfold kRes
    repeat' split
    all_goals first | exact Or.inl rfl | exact Or.inr rfl | exact Or.inr (Or.inl rfl) | exact Or.inr (Or.inr rfl)
  rcases hK with h | h | h
  · unfold tw
    rw [if_pos h, if_pos h]
    exact t_tryBack hl (WO_len hW) (WO_kc hW) hob (KN_restore hA hW h1 h) WO_P
  · unfold tw
    rw [if_neg (show ¬ (kRes (jV A) v = 0) by rw [h]; decide), if_neg (show ¬ (kRes (jV A) v = 0) by rw [h]; decide), if_pos h]
    exact tx_tryBack1 hl (WO_len hW) (WO_kc hW) hob (KX_restore1 hl hA hW h1 h) WO_P
  · unfold tw
    rw [if_neg (show ¬ (kRes (jV A) v = 0) by rw [h]; decide), if_neg (show ¬ (kRes (jV A) v = 0) by rw [h]; decide), if_neg (show ¬ (kRes (jV A) v = 1) by rw [h]; decide)]
    exact tx_tryBack2 hl (WO_len hW) (WO_kc hW) hob (KX_restore2 hl hA hW h1 h) WO_P
end TT
