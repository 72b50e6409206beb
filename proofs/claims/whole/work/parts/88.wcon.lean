/-! THE LAW: its wrappers with the class behind them, answers and throws together. Printed by wip/whole/gen/mk88.py. -/
theorem CtW.mono {l : Launch} {y : MethodName} {cc : ByteArray} {nL : Nat} {ret : Option FieldType} {hh : List (Nat × Nat × Nat × Nat)} {rm : Room} {av : List Value} {M : List va_E} {post post2 : Option Value → List va_E → Prop} (h : CtW l y cc nL ret hh rm av M post) (hp : ∀ v M', post v M' → post2 v M') : CtW l y cc nL ret hh rm av M post2 := by
  intro D cT ad sz p e ha hc hk s m args below hf hap hP hT
  obtain ⟨k, o, h1, h2, h3, ⟨⟨⟨v, M', q1, q2, q3⟩, q4⟩, q5⟩⟩ := h D cT ad sz p e ha hc hk s m args below hf hap hP hT
  exact ⟨k, o, h1, h2, h3, ⟨⟨⟨v, M', q1, hp _ _ q2, q3⟩, q4⟩, q5⟩⟩
noncomputable def kLoad (tx : Int → Int) (sz : Int) : Int := if eP tx sz = -1 then 0 else 1
theorem kLoad_0 {tx : Int → Int} {sz : Int} (h : kLoad tx sz = 0) : eP tx sz = -1 := by unfold kLoad at h; split at h; assumption; cases h
theorem kLoad_1 {tx : Int → Int} {sz : Int} (h : kLoad tx sz = 1) : eP tx sz ≠ -1 := by unfold kLoad at h; split at h; cases h; assumption
def kUndo (cnt : Int) : Int := if cnt ≠ 0 then 0 else 1
theorem kUndo_0 {cnt : Int} (h : kUndo cnt = 0) : cnt ≠ 0 := by unfold kUndo at h; split at h; assumption; cases h
theorem kUndo_1 {cnt : Int} (h : kUndo cnt = 1) : cnt = 0 := by unfold kUndo at h; split at h; cases h; omega
theorem wEr_rg {t : Int → Int} {n p h : Int} (hp : 0 ≤ p) : -1 ≤ wEr t n p h ∧ wEr t n p h ≤ p + 100 := by
  by_cases z : wOk t n p h
  · rw [wEr_ok z]
    have h1 := fstK_rg (fun j => tr (¬ dOk t n (sg t n p) p j)) (2 * (nuO (sg t n p)).toNat)
    have hu := nuO_rg (sg t n p)
    have e : dBad t n (sg t n p) p (nuO (sg t n p)).toNat = fstK (fun j => tr (¬ dOk t n (sg t n p) p j)) (2 * (nuO (sg t n p)).toNat) := rfl
    split <;> omega
  · rw [wEr_no z]; omega
theorem wS_up (t : Int → Int) (n : Int) : ∀ k : Nat, wS t n k ≤ 11 * k
  | 0 => by simp only [wS]; omega
  | k + 1 => by have := (wS_rg t n k).2; have := wS_up t n k; omega
theorem eF_rg (t : Int → Int) (n : Int) : ∀ (f k : Nat), f + k ≤ 1000 → -1 ≤ eF t n f k ∧ eF t n f k ≤ 100000
  | 0, _, _ => ⟨Int.le_refl _, by simp only [eF]; omega⟩
  | f + 1, k, h => by
    simp only [eF]
    have h1 := wS_up t n k
    have h0 := (wS_rg t n k).1
    have h2 := wEr_rg (t := t) (n := n) (p := wS t n k) (h := if k = 0 then 1 else 0) (by omega)
    have h3 := eF_rg t n f (k + 1) (by omega)
    generalize wEr t n (wS t n k) (if k = 0 then 1 else 0) = z at h2 ⊢
    split
    · omega
    · split
      · omega
      · exact h3
theorem eP_rg (t : Int → Int) (n : Int) : rg (eP t n) := by have := eF_rg t n 121 0 (by omega); unfold eP rg; omega
theorem cm_t {K : Int} (h : K = 0) {kn nk cnt nx kn' nk' cnt' nx' : Int} {S S' : St} {gb : Int → Int} {σ σ' : Nat → St} : clM (ringP 6) kn nk S gb cnt nx σ = clM (ringP 6) (if K = 0 then kn else kn') (if K = 0 then nk else nk') (if K = 0 then S else S') gb (if K = 0 then cnt else cnt') (if K = 0 then nx else nx') (if K = 0 then σ else σ') := by rw [if_pos h, if_pos h, if_pos h, if_pos h, if_pos h, if_pos h]
theorem cu_t {K : Int} (h : K = 0) {kn nk cnt nx kn' nk' cnt' nx' : Int} {S S' : St} {gb : Int → Int} {σ : Nat → St} : clM (ringP 6) kn nk S gb cnt nx σ = clM (ringP 6) (if K = 0 then kn else kn') (if K = 0 then nk else nk') (if K = 0 then S else S') gb (if K = 0 then cnt else cnt') (if K = 0 then nx else nx') σ := by rw [if_pos h, if_pos h, if_pos h, if_pos h, if_pos h]
theorem cm_f {K : Int} (h : ¬ (K = 0)) {kn nk cnt nx kn' nk' cnt' nx' : Int} {S S' : St} {gb : Int → Int} {σ σ' : Nat → St} : clM (ringP 6) kn' nk' S' gb cnt' nx' σ' = clM (ringP 6) (if K = 0 then kn else kn') (if K = 0 then nk else nk') (if K = 0 then S else S') gb (if K = 0 then cnt else cnt') (if K = 0 then nx else nx') (if K = 0 then σ else σ') := by rw [if_neg h, if_neg h, if_neg h, if_neg h, if_neg h, if_neg h]
theorem cu_f {K : Int} (h : ¬ (K = 0)) {kn nk cnt nx kn' nk' cnt' nx' : Int} {S S' : St} {gb : Int → Int} {σ : Nat → St} : clM (ringP 6) kn' nk' S' gb cnt' nx' σ = clM (ringP 6) (if K = 0 then kn else kn') (if K = 0 then nk else nk') (if K = 0 then S else S') gb (if K = 0 then cnt else cnt') (if K = 0 then nx else nx') σ := by rw [if_neg h, if_neg h, if_neg h, if_neg h, if_neg h]
section WC
variable {l : Launch} {S : St} {kn nk c0 r0 m0 ct : Int} {B F Z Br Q Fo No Ho Mo In Sn Qn : Int → Int} {sd rt lf wy : Int} {S2 : St} {c1 r1 m1 ct1 : Int} {B1 F1 Z1 Br1 Q1 Fo1 No1 gb : Int → Int} {sz : Int} {tx : Int → Int} {cnt nx : Int} {σ : Nat → St} {P0 P1 : St} {sv fo : Int → Int}
theorem W_append (hl : l.stackTraces = false) {x : Int} (hn : 0 ≤ sz ∧ sz ≤ 120) (hx : rg x) : CtW l yL_append cL_append 4 (some .int) hhL_append rwL_append [.ref 0, iv x, .ref 3] (wr 3 13 (clX kn nk sz tx) fo) (fun u8 M8 => u8 = some (iv (kAppend sz x)) ∧ ∃ fo' : Int → Int, (kAppend sz x = 0 → fo' 0 = w32 (sz + 1)) ∧ ∃ M9, (M9 = clX kn nk (if kAppend sz x = 0 then sz + 1 else sz) (if kAppend sz x = 0 then up tx sz x else tx)) ∧ M8 = wr 3 13 M9 fo') := by
  have hK : kAppend sz x = 0 ∨ kAppend sz x = 1 ∨ kAppend sz x = 2 := by
    unfold kAppend
    repeat' split
    all_goals first | exact Or.inl rfl | exact Or.inr rfl | exact Or.inr (Or.inl rfl) | exact Or.inr (Or.inr rfl)
  rcases hK with h | h | h
  · refine CtW.mono (w_append (P := fun M9 => M9 = clX kn nk (if kAppend sz x = 0 then sz + 1 else sz) (if kAppend sz x = 0 then up tx sz x else tx)) (z := w32 (sz + 1)) hl rfl rfl (Ct.mono (c_append hn h hx) (fun v M9 h2 => ⟨h2.1.trans (congrArg some (iv_w _)), by rw [h2.2]; simp only [if_pos h]⟩)) (fun _ h => by rw [h]; rfl) (rg_w _)) ?_
    rintro v M8 ⟨rfl, M9, hp, rfl⟩
    exact ⟨by rw [h], _, fun _ => up_at, M9, hp, rfl⟩
  · have hne : ¬ (kAppend sz x = 0) := by rw [h]; decide
    refine CtW.mono (wx_append1 (P := fun M9 => M9 = clX kn nk (if kAppend sz x = 0 then sz + 1 else sz) (if kAppend sz x = 0 then up tx sz x else tx)) hl rfl rfl (CtX.mono (cx_append1 hl h hx) (fun M9 h2 => by rw [h2]; simp only [if_neg hne])) (fun _ h => by rw [h]; rfl)) ?_
    rintro v M8 ⟨rfl, M9, hp, rfl⟩
    exact ⟨by rw [h], fo, fun z => absurd z hne, M9, hp, rfl⟩
  · have hne : ¬ (kAppend sz x = 0) := by rw [h]; decide
    refine CtW.mono (wx_append2 (P := fun M9 => M9 = clX kn nk (if kAppend sz x = 0 then sz + 1 else sz) (if kAppend sz x = 0 then up tx sz x else tx)) hl rfl rfl (CtX.mono (cx_append2 hl hn h hx) (fun M9 h2 => by rw [h2]; simp only [if_neg hne])) (fun _ h => by rw [h]; rfl)) ?_
    rintro v M8 ⟨rfl, M9, hp, rfl⟩
    exact ⟨by rw [h], fo, fun z => absurd z hne, M9, hp, rfl⟩
theorem W_load (hl : l.stackTraces = false) (hS : SV S) (hn : 0 ≤ sz ∧ sz ≤ 120) (ht : ∀ j, 0 ≤ tx j ∧ tx j ≤ 255) : CtW l yL_load cL_load 3 (some .int) hhL_load rwL_load [.ref 0, .ref 10] (wr 10 17 (clL kn nk S gb sz tx sv cnt nx) fo) (fun u8 M8 => u8 = some (iv (kLoad tx sz)) ∧ ∃ fo' : Int → Int, (kLoad tx sz = 0 → fo' 0 = w32 ((xT tx sz (sT S)).2)) ∧ ∃ M9, (∃ gb' : Int → Int, M9 = clL (if kLoad tx sz = 0 then 0 else kn) (if kLoad tx sz = 0 then 0 else nk) (if kLoad tx sz = 0 then (xT tx sz (sT S)).1 else S) gb' sz tx (if kLoad tx sz = 0 then up (up sv 0 0) 1 0 else sv) (if kLoad tx sz = 0 then 0 else cnt) nx) ∧ M8 = wr 10 17 M9 fo') := by
  have hK : kLoad tx sz = 0 ∨ kLoad tx sz = 1 := by
    unfold kLoad
    repeat' split
    all_goals first | exact Or.inl rfl | exact Or.inr rfl | exact Or.inr (Or.inl rfl) | exact Or.inr (Or.inr rfl)
  rcases hK with h | h
  · refine CtW.mono (w_load (P := fun M9 => ∃ gb' : Int → Int, M9 = clL (if kLoad tx sz = 0 then 0 else kn) (if kLoad tx sz = 0 then 0 else nk) (if kLoad tx sz = 0 then (xT tx sz (sT S)).1 else S) gb' sz tx (if kLoad tx sz = 0 then up (up sv 0 0) 1 0 else sv) (if kLoad tx sz = 0 then 0 else cnt) nx) (z := w32 ((xT tx sz (sT S)).2)) hl rfl rfl (Ct.mono (c_load hS hn ht (kLoad_0 h)) (fun v M9 h2 => ⟨h2.1.trans (congrArg some (iv_w _)), by obtain ⟨gb', e⟩ := h2.2; exact ⟨gb', by rw [e]; simp only [if_pos h]⟩⟩)) (fun _ h => by obtain ⟨_, rfl⟩ := h; rfl) (rg_w _)) ?_
    rintro v M8 ⟨rfl, M9, hp, rfl⟩
    exact ⟨by rw [h], _, fun _ => up_at, M9, hp, rfl⟩
  · have hne : ¬ (kLoad tx sz = 0) := by rw [h]; decide
    refine CtW.mono (wx_load (P := fun M9 => ∃ gb' : Int → Int, M9 = clL (if kLoad tx sz = 0 then 0 else kn) (if kLoad tx sz = 0 then 0 else nk) (if kLoad tx sz = 0 then (xT tx sz (sT S)).1 else S) gb' sz tx (if kLoad tx sz = 0 then up (up sv 0 0) 1 0 else sv) (if kLoad tx sz = 0 then 0 else cnt) nx) hl rfl rfl (CtX.mono (cx_load hl hn ht (kLoad_1 h) (eP_rg _ _)) (fun M9 h2 => ⟨gb, by rw [h2]; simp only [if_neg hne]⟩)) (fun _ h => by obtain ⟨_, rfl⟩ := h; rfl)) ?_
    rintro v M8 ⟨rfl, M9, hp, rfl⟩
    exact ⟨by rw [h], fo, fun z => absurd z hne, M9, hp, rfl⟩
theorem W_about (hl : l.stackTraces = false) {w : Int} (hS : SV S) (h9 : CN S kn nk c0 r0 m0 ct B F Z Fo No Ho Mo In) (hr : rwI B1 F1 Z1) (hw : rg w) : CtW l yL_about cL_about 4 (some .int) hhL_about rwL_about [.ref 0, iv w, .ref 33] (wr 33 46 (clD S kn nk c0 r0 m0 ct B F Z Br Q Fo No Ho Mo In Sn Qn sd rt lf wy S2 c1 r1 m1 ct1 B1 F1 Z1 Br1 Q1 Fo1 No1 gb) fo) (fun u8 M8 => u8 = some (iv (kIn w 0 10)) ∧ ∃ fo' : Int → Int, (kIn w 0 10 = 0 → fo' 0 = w32 (aAbout S w)) ∧ ∃ M9, (RD S M9) ∧ M8 = wr 33 46 M9 fo') := by
  have hK : kIn w 0 10 = 0 ∨ kIn w 0 10 = 1 := by
    unfold kIn
    repeat' split
    all_goals first | exact Or.inl rfl | exact Or.inr rfl | exact Or.inr (Or.inl rfl) | exact Or.inr (Or.inr rfl)
  rcases hK with h | h
  · refine CtW.mono (w_about (P := fun M9 => RD S M9) (z := w32 (aAbout S w)) hl rfl rfl (Ct.mono (c_about hS h9 hr h hw) (fun v M9 h2 => ⟨h2.1.trans (congrArg some (iv_w _)), h2.2⟩)) (fun _ h => RD_len h) (rg_w _)) ?_
    rintro v M8 ⟨rfl, M9, hp, rfl⟩
    exact ⟨by rw [h], _, fun _ => up_at, M9, hp, rfl⟩
  · have hne : ¬ (kIn w 0 10 = 0) := by rw [h]; decide
    refine CtW.mono (wx_about (P := fun M9 => RD S M9) hl rfl rfl (CtX.mono (cx_about hl (by rw [h]; decide) hw) (fun M9 h2 => by rw [h2]; exact RD_mk h9 hr)) (fun _ h => RD_len h)) ?_
    rintro v M8 ⟨rfl, M9, hp, rfl⟩
    exact ⟨by rw [h], fo, fun z => absurd z hne, M9, hp, rfl⟩
theorem W_cellOf (hl : l.stackTraces = false) {x y w : Int} (hS : SV S) (h9 : CN S kn nk c0 r0 m0 ct B F Z Fo No Ho Mo In) (hx : rg x) (hy : rg y) (hw : rg w) : CtW l yL_cellOf cL_cellOf 6 (some .int) hhL_cellOf rwL_cellOf [.ref 0, iv x, iv y, iv w, .ref 19] (wr 19 46 (clB S kn nk c0 r0 m0 ct B F Z Br Q Fo No Ho Mo In Sn Qn) fo) (fun u8 M8 => u8 = some (iv (kCell S x y w 5)) ∧ ∃ fo' : Int → Int, (kCell S x y w 5 = 0 → fo' 0 = w32 (aCell S x y w)) ∧ ∃ M9, (RB S M9) ∧ M8 = wr 19 46 M9 fo') := by
  have hK : kCell S x y w 5 = 0 ∨ kCell S x y w 5 = 1 ∨ kCell S x y w 5 = 2 := by
    unfold kCell
    repeat' split
    all_goals first | exact Or.inl rfl | exact Or.inr rfl | exact Or.inr (Or.inl rfl) | exact Or.inr (Or.inr rfl)
  rcases hK with h | h | h
  · refine CtW.mono (w_cellOf (P := fun M9 => RB S M9) (z := w32 (aCell S x y w)) hl rfl rfl (Ct.mono (c_cellOf hS h9 h hx hy hw) (fun v M9 h2 => ⟨h2.1.trans (congrArg some (iv_w _)), h2.2⟩)) (fun _ h => RB_len h) (rg_w _)) ?_
    rintro v M8 ⟨rfl, M9, hp, rfl⟩
    exact ⟨by rw [h], _, fun _ => up_at, M9, hp, rfl⟩
  · have hne : ¬ (kCell S x y w 5 = 0) := by rw [h]; decide
    refine CtW.mono (wx_cellOf1 (P := fun M9 => RB S M9) hl rfl rfl (CtX.mono (cx_cellOf1 hl hS h hx hy) (fun M9 h2 => by rw [h2]; exact RB_mk h9)) (fun _ h => RB_len h)) ?_
    rintro v M8 ⟨rfl, M9, hp, rfl⟩
    exact ⟨by rw [h], fo, fun z => absurd z hne, M9, hp, rfl⟩
  · have hne : ¬ (kCell S x y w 5 = 0) := by rw [h]; decide
    refine CtW.mono (wx_cellOf2 (P := fun M9 => RB S M9) hl rfl rfl (CtX.mono (cx_cellOf2 hl hS h hx hy hw) (fun M9 h2 => by rw [h2]; exact RB_mk h9)) (fun _ h => RB_len h)) ?_
    rintro v M8 ⟨rfl, M9, hp, rfl⟩
    exact ⟨by rw [h], fo, fun z => absurd z hne, M9, hp, rfl⟩
theorem W_thresholdAt (hl : l.stackTraces = false) {k : Int} (hS : SV S) (hk : rg k) : CtW l yL_thresholdAt cL_thresholdAt 4 (some .int) hhL_thresholdAt rwL_thresholdAt [.ref 0, iv k, .ref 5] (wr 5 46 (obC kn nk :: stS 1 S) fo) (fun u8 M8 => u8 = some (iv (kIn k 0 (sN S - 1))) ∧ ∃ fo' : Int → Int, (kIn k 0 (sN S - 1) = 0 → fo' 0 = w32 (sT S k)) ∧ ∃ M9, (M9 = (obC kn nk :: stS 1 S)) ∧ M8 = wr 5 46 M9 fo') := by
  have hK : kIn k 0 (sN S - 1) = 0 ∨ kIn k 0 (sN S - 1) = 1 := by
    unfold kIn
    repeat' split
    all_goals first | exact Or.inl rfl | exact Or.inr rfl | exact Or.inr (Or.inl rfl) | exact Or.inr (Or.inr rfl)
  rcases hK with h | h
  · refine CtW.mono (w_thresholdAt (P := fun M9 => M9 = (obC kn nk :: stS 1 S)) (z := w32 (sT S k)) hl rfl rfl (Ct.mono (c_thresholdAt hS h hk) (fun v M9 h2 => ⟨h2.1.trans (congrArg some (iv_w _)), h2.2⟩)) (fun _ h => by rw [h]; rfl) (rg_w _)) ?_
    rintro v M8 ⟨rfl, M9, hp, rfl⟩
    exact ⟨by rw [h], _, fun _ => up_at, M9, hp, rfl⟩
  · have hne : ¬ (kIn k 0 (sN S - 1) = 0) := by rw [h]; decide
    refine CtW.mono (wx_thresholdAt (P := fun M9 => M9 = (obC kn nk :: stS 1 S)) hl rfl rfl (CtX.mono (cx_thresholdAt hl hS (by rw [h]; decide) hk) (fun M9 h2 => h2)) (fun _ h => by rw [h]; rfl)) ?_
    rintro v M8 ⟨rfl, M9, hp, rfl⟩
    exact ⟨by rw [h], fo, fun z => absurd z hne, M9, hp, rfl⟩
theorem W_island (hl : l.stackTraces = false) {i w : Int} (hS : SV S) (h9 : CN S kn nk c0 r0 m0 ct B F Z Fo No Ho Mo In) (hi : rg i) (hw : rg w) : CtW l yL_island cL_island 5 (some .int) hhL_island rwL_island [.ref 0, iv i, iv w, .ref 19] (wr 19 46 (clB S kn nk c0 r0 m0 ct B F Z Br Q Fo No Ho Mo In Sn Qn) fo) (fun u8 M8 => u8 = some (iv (kIsle S i w 8)) ∧ ∃ fo' : Int → Int, (kIsle S i w 8 = 0 → fo' 0 = w32 (aIsland S i w)) ∧ ∃ M9, (RB S M9) ∧ M8 = wr 19 46 M9 fo') := by
  have hK : kIsle S i w 8 = 0 ∨ kIsle S i w 8 = 1 ∨ kIsle S i w 8 = 2 := by
    unfold kIsle
    repeat' split
    all_goals first | exact Or.inl rfl | exact Or.inr rfl | exact Or.inr (Or.inl rfl) | exact Or.inr (Or.inr rfl)
  rcases hK with h | h | h
  · refine CtW.mono (w_island (P := fun M9 => RB S M9) (z := w32 (aIsland S i w)) hl rfl rfl (Ct.mono (c_island hS h9 h hi hw) (fun v M9 h2 => ⟨h2.1.trans (congrArg some (iv_w _)), h2.2⟩)) (fun _ h => RB_len h) (rg_w _)) ?_
    rintro v M8 ⟨rfl, M9, hp, rfl⟩
    exact ⟨by rw [h], _, fun _ => up_at, M9, hp, rfl⟩
  · have hne : ¬ (kIsle S i w 8 = 0) := by rw [h]; decide
    refine CtW.mono (wx_island1 (P := fun M9 => RB S M9) hl rfl rfl (CtX.mono (cx_island1 hl hS h9 h hi) (fun M9 h2 => h2)) (fun _ h => RB_len h)) ?_
    rintro v M8 ⟨rfl, M9, hp, rfl⟩
    exact ⟨by rw [h], fo, fun z => absurd z hne, M9, hp, rfl⟩
  · have hne : ¬ (kIsle S i w 8 = 0) := by rw [h]; decide
    refine CtW.mono (wx_island2 (P := fun M9 => RB S M9) hl rfl rfl (CtX.mono (cx_island2 hl hS h9 h hi hw) (fun M9 h2 => h2)) (fun _ h => RB_len h)) ?_
    rintro v M8 ⟨rfl, M9, hp, rfl⟩
    exact ⟨by rw [h], fo, fun z => absurd z hne, M9, hp, rfl⟩
theorem W_border (hl : l.stackTraces = false) {i j : Int} (hS : SV S) (h9 : CN S kn nk c0 r0 m0 ct B F Z Fo No Ho Mo In) (hi : rg i) (hj : rg j) : CtW l yL_border cL_border 5 (some .int) hhL_border rwL_border [.ref 0, iv i, iv j, .ref 19] (wr 19 46 (clB S kn nk c0 r0 m0 ct B F Z Br Q Fo No Ho Mo In Sn Qn) fo) (fun u8 M8 => u8 = some (iv (kBor S i j)) ∧ ∃ fo' : Int → Int, (kBor S i j = 0 → fo' 0 = w32 (brd (sC S) (sR S) (bS S) (fS S i) (fS S j))) ∧ ∃ M9, (RB S M9) ∧ M8 = wr 19 46 M9 fo') := by
  have hK : kBor S i j = 0 ∨ kBor S i j = 1 := by
    unfold kBor
    repeat' split
    all_goals first | exact Or.inl rfl | exact Or.inr rfl | exact Or.inr (Or.inl rfl) | exact Or.inr (Or.inr rfl)
  rcases hK with h | h
  · refine CtW.mono (w_border (P := fun M9 => RB S M9) (z := w32 (brd (sC S) (sR S) (bS S) (fS S i) (fS S j))) hl rfl rfl (Ct.mono (c_border hS h9 h hi hj) (fun v M9 h2 => ⟨h2.1.trans (congrArg some (iv_w _)), h2.2⟩)) (fun _ h => RB_len h) (rg_w _)) ?_
    rintro v M8 ⟨rfl, M9, hp, rfl⟩
    exact ⟨by rw [h], _, fun _ => up_at, M9, hp, rfl⟩
  · have hne : ¬ (kBor S i j = 0) := by rw [h]; decide
    refine CtW.mono (wx_border (P := fun M9 => RB S M9) hl rfl rfl (CtX.mono (cx_border hl hS h9 (by rw [h]; decide) hi hj) (fun M9 h2 => h2)) (fun _ h => RB_len h)) ?_
    rintro v M8 ⟨rfl, M9, hp, rfl⟩
    exact ⟨by rw [h], fo, fun z => absurd z hne, M9, hp, rfl⟩
theorem W_outline (hl : l.stackTraces = false) {i w : Int} (hS : SV S) (h9 : CN S kn nk c0 r0 m0 ct B F Z Fo No Ho Mo In) (hi : rg i) (hw : rg w) : CtW l yL_outline cL_outline 5 (some .int) hhL_outline rwL_outline [.ref 0, iv i, iv w, .ref 20] (wr 20 46 (clC S kn nk c0 r0 m0 ct B F Z Br Q Fo No Ho Mo In Sn Qn sd rt lf wy) fo) (fun u8 M8 => u8 = some (iv (kIsle S i w 2)) ∧ ∃ fo' : Int → Int, (kIsle S i w 2 = 0 → fo' 0 = w32 (aOutline S i w)) ∧ ∃ M9, (RC S M9) ∧ M8 = wr 20 46 M9 fo') := by
  have hK : kIsle S i w 2 = 0 ∨ kIsle S i w 2 = 1 ∨ kIsle S i w 2 = 2 := by
    unfold kIsle
    repeat' split
    all_goals first | exact Or.inl rfl | exact Or.inr rfl | exact Or.inr (Or.inl rfl) | exact Or.inr (Or.inr rfl)
  rcases hK with h | h | h
  · refine CtW.mono (w_outline (P := fun M9 => RC S M9) (z := w32 (aOutline S i w)) hl rfl rfl (Ct.mono (c_outline hS h9 h hi hw) (fun v M9 h2 => ⟨h2.1.trans (congrArg some (iv_w _)), h2.2⟩)) (fun _ h => RC_len h) (rg_w _)) ?_
    rintro v M8 ⟨rfl, M9, hp, rfl⟩
    exact ⟨by rw [h], _, fun _ => up_at, M9, hp, rfl⟩
  · have hne : ¬ (kIsle S i w 2 = 0) := by rw [h]; decide
    refine CtW.mono (wx_outline1 (P := fun M9 => RC S M9) hl rfl rfl (CtX.mono (cx_outline1 hl hS h9 h hi) (fun M9 h2 => h2)) (fun _ h => RC_len h)) ?_
    rintro v M8 ⟨rfl, M9, hp, rfl⟩
    exact ⟨by rw [h], fo, fun z => absurd z hne, M9, hp, rfl⟩
  · have hne : ¬ (kIsle S i w 2 = 0) := by rw [h]; decide
    refine CtW.mono (wx_outline2 (P := fun M9 => RC S M9) hl rfl rfl (CtX.mono (cx_outline2 hl hS h9 h hi hw) (fun M9 h2 => h2)) (fun _ h => RC_len h)) ?_
    rintro v M8 ⟨rfl, M9, hp, rfl⟩
    exact ⟨by rw [h], fo, fun z => absurd z hne, M9, hp, rfl⟩
theorem W_outlineWay (hl : l.stackTraces = false) {i k : Int} (hS : SV S) (h9 : CN S kn nk c0 r0 m0 ct B F Z Fo No Ho Mo In) (hi : rg i) (hk : rg k) : CtW l yL_outlineWay cL_outlineWay 5 (some .int) hhL_outlineWay rwL_outlineWay [.ref 0, iv i, iv k, .ref 20] (wr 20 46 (clC S kn nk c0 r0 m0 ct B F Z Br Q Fo No Ho Mo In Sn Qn sd rt lf wy) fo) (fun u8 M8 => u8 = some (iv (kWay S i k)) ∧ ∃ fo' : Int → Int, (kWay S i k = 0 → fo' 0 = w32 (wS1 S i k)) ∧ ∃ M9, (RC S M9) ∧ M8 = wr 20 46 M9 fo') := by
  have hK : kWay S i k = 0 ∨ kWay S i k = 1 := by
    unfold kWay
    repeat' split
    all_goals first | exact Or.inl rfl | exact Or.inr rfl | exact Or.inr (Or.inl rfl) | exact Or.inr (Or.inr rfl)
  rcases hK with h | h
  · refine CtW.mono (w_outlineWay (P := fun M9 => RC S M9) (z := w32 (wS1 S i k)) hl rfl rfl (Ct.mono (c_outlineWay hS h9 h hi hk) (fun v M9 h2 => ⟨h2.1.trans (congrArg some (iv_w _)), h2.2⟩)) (fun _ h => RC_len h) (rg_w _)) ?_
    rintro v M8 ⟨rfl, M9, hp, rfl⟩
    exact ⟨by rw [h], _, fun _ => up_at, M9, hp, rfl⟩
  · have hne : ¬ (kWay S i k = 0) := by rw [h]; decide
    refine CtW.mono (wx_outlineWay (P := fun M9 => RC S M9) hl rfl rfl (CtX.mono (cx_outlineWay hl hS h9 (by rw [h]; decide) hi hk) (fun M9 h2 => h2)) (fun _ h => RC_len h)) ?_
    rintro v M8 ⟨rfl, M9, hp, rfl⟩
    exact ⟨by rw [h], fo, fun z => absurd z hne, M9, hp, rfl⟩
theorem W_band (hl : l.stackTraces = false) {x w : Int} (hS : SV S) (h9 : CN S kn nk c0 r0 m0 ct B F Z Fo No Ho Mo In) (hx : rg x) (hw : rg w) : CtW l yL_band cL_band 5 (some .int) hhL_band rwL_band [.ref 0, iv x, iv w, .ref 19] (wr 19 46 (clB S kn nk c0 r0 m0 ct B F Z Br Q Fo No Ho Mo In Sn Qn) fo) (fun u8 M8 => u8 = some (iv (kBand S x w)) ∧ ∃ fo' : Int → Int, (kBand S x w = 0 → fo' 0 = w32 (aBand S x w)) ∧ ∃ M9, (RB S M9) ∧ M8 = wr 19 46 M9 fo') := by
  have hK : kBand S x w = 0 ∨ kBand S x w = 1 ∨ kBand S x w = 2 := by
    unfold kBand
    repeat' split
    all_goals first | exact Or.inl rfl | exact Or.inr rfl | exact Or.inr (Or.inl rfl) | exact Or.inr (Or.inr rfl)
  rcases hK with h | h | h
  · refine CtW.mono (w_band (P := fun M9 => RB S M9) (z := w32 (aBand S x w)) hl rfl rfl (Ct.mono (c_band hS h9 h hx hw) (fun v M9 h2 => ⟨h2.1.trans (congrArg some (iv_w _)), h2.2⟩)) (fun _ h => RB_len h) (rg_w _)) ?_
    rintro v M8 ⟨rfl, M9, hp, rfl⟩
    exact ⟨by rw [h], _, fun _ => up_at, M9, hp, rfl⟩
  · have hne : ¬ (kBand S x w = 0) := by rw [h]; decide
    refine CtW.mono (wx_band1 (P := fun M9 => RB S M9) hl rfl rfl (CtX.mono (cx_band1 hl hS h hx) (fun M9 h2 => by rw [h2]; exact RB_mk h9)) (fun _ h => RB_len h)) ?_
    rintro v M8 ⟨rfl, M9, hp, rfl⟩
    exact ⟨by rw [h], fo, fun z => absurd z hne, M9, hp, rfl⟩
  · have hne : ¬ (kBand S x w = 0) := by rw [h]; decide
    refine CtW.mono (wx_band2 (P := fun M9 => RB S M9) hl rfl rfl (CtX.mono (cx_band2 hl hS h hx hw) (fun M9 h2 => by rw [h2]; exact RB_mk h9)) (fun _ h => RB_len h)) ?_
    rintro v M8 ⟨rfl, M9, hp, rfl⟩
    exact ⟨by rw [h], fo, fun z => absurd z hne, M9, hp, rfl⟩
theorem W_plate (hl : l.stackTraces = false) {c r : Int} (hS : SV S) (hc : 0 ≤ cnt ∧ cnt ≤ 14) (hx9 : 0 ≤ nx ∧ nx < 14) (h1 : rg c) (h2 : rg r) : CtW l yL_plate cL_plate 5 (some .int) hhL_plate rwL_plate [.ref 0, iv c, iv r, .ref 64] (wr 64 72 (clM (ringP 6) kn nk S gb cnt nx σ) fo) (fun u8 M8 => u8 = some (iv (kPlate c r)) ∧ ∃ fo' : Int → Int, (kPlate c r = 0 → fo' 0 = w32 (c * r)) ∧ ∃ M9, (M9 = clM (ringP 6) (if kPlate c r = 0 then 0 else kn) (if kPlate c r = 0 then 0 else nk) (if kPlate c r = 0 then stN S c r else S) gb (if kPlate c r = 0 then min (cnt + 1) 14 else cnt) (if kPlate c r = 0 then (nx + 1) % 14 else nx) (if kPlate c r = 0 then σP S nx σ else σ)) ∧ M8 = wr 64 72 M9 fo') := by
  have hK : kPlate c r = 0 ∨ kPlate c r = 1 := by
    unfold kPlate
    repeat' split
    all_goals first | exact Or.inl rfl | exact Or.inr rfl | exact Or.inr (Or.inl rfl) | exact Or.inr (Or.inr rfl)
  rcases hK with h | h
  · refine CtW.mono (w_plate (P := fun M9 => M9 = clM (ringP 6) (if kPlate c r = 0 then 0 else kn) (if kPlate c r = 0 then 0 else nk) (if kPlate c r = 0 then stN S c r else S) gb (if kPlate c r = 0 then min (cnt + 1) 14 else cnt) (if kPlate c r = 0 then (nx + 1) % 14 else nx) (if kPlate c r = 0 then σP S nx σ else σ)) (z := w32 (c * r)) hl rfl rfl (Ct.mono (c_aplate hS hc hx9 h h1 h2) (fun v M9 h2 => ⟨h2.1.trans (congrArg some (iv_w _)), h2.2.trans (cm_t h)⟩)) (fun _ h => by rw [h]; rfl) (rg_w _)) ?_
    rintro v M8 ⟨rfl, M9, hp, rfl⟩
    exact ⟨by rw [h], _, fun _ => up_at, M9, hp, rfl⟩
  · have hne : ¬ (kPlate c r = 0) := by rw [h]; decide
    refine CtW.mono (wx_plate (P := fun M9 => M9 = clM (ringP 6) (if kPlate c r = 0 then 0 else kn) (if kPlate c r = 0 then 0 else nk) (if kPlate c r = 0 then stN S c r else S) gb (if kPlate c r = 0 then min (cnt + 1) 14 else cnt) (if kPlate c r = 0 then (nx + 1) % 14 else nx) (if kPlate c r = 0 then σP S nx σ else σ)) hl rfl rfl (CtX.mono (cx_plate hl (by rw [h]; decide) h1 h2) (fun M9 h2 => h2.trans (cm_f hne))) (fun _ h => by rw [h]; rfl)) ?_
    rintro v M8 ⟨rfl, M9, hp, rfl⟩
    exact ⟨by rw [h], fo, fun z => absurd z hne, M9, hp, rfl⟩
theorem W_cell (hl : l.stackTraces = false) {x y g : Int} (hS : SV S) (hc : 0 ≤ cnt ∧ cnt ≤ 14) (hx9 : 0 ≤ nx ∧ nx < 14) (h1 : rg x) (h2 : rg y) (h3 : rg g) : CtW l yL_cell cL_cell 6 (some .int) hhL_cell rwL_cell [.ref 0, iv x, iv y, iv g, .ref 64] (wr 64 72 (clM (ringP 6) kn nk S gb cnt nx σ) fo) (fun u8 M8 => u8 = some (iv (kPut S x y g)) ∧ ∃ fo' : Int → Int, (kPut S x y g = 0 → fo' 0 = w32 (sG S (y * sC S + x))) ∧ ∃ M9, (M9 = clM (ringP 6) (if kPut S x y g = 0 then 0 else kn) (if kPut S x y g = 0 then 0 else nk) (if kPut S x y g = 0 then gP S x y g else S) gb (if kPut S x y g = 0 then min (cnt + 1) 14 else cnt) (if kPut S x y g = 0 then (nx + 1) % 14 else nx) (if kPut S x y g = 0 then σP S nx σ else σ)) ∧ M8 = wr 64 72 M9 fo') := by
  have hK : kPut S x y g = 0 ∨ kPut S x y g = 1 ∨ kPut S x y g = 2 := by
    unfold kPut
    repeat' split
    all_goals first | exact Or.inl rfl | exact Or.inr rfl | exact Or.inr (Or.inl rfl) | exact Or.inr (Or.inr rfl)
  rcases hK with h | h | h
  · refine CtW.mono (w_cell (P := fun M9 => M9 = clM (ringP 6) (if kPut S x y g = 0 then 0 else kn) (if kPut S x y g = 0 then 0 else nk) (if kPut S x y g = 0 then gP S x y g else S) gb (if kPut S x y g = 0 then min (cnt + 1) 14 else cnt) (if kPut S x y g = 0 then (nx + 1) % 14 else nx) (if kPut S x y g = 0 then σP S nx σ else σ)) (z := w32 (sG S (y * sC S + x))) hl rfl rfl (Ct.mono (c_acell hS hc hx9 h h1 h2 h3) (fun v M9 h2 => ⟨h2.1.trans (congrArg some (iv_w _)), h2.2.trans (cm_t h)⟩)) (fun _ h => by rw [h]; rfl) (rg_w _)) ?_
    rintro v M8 ⟨rfl, M9, hp, rfl⟩
    exact ⟨by rw [h], _, fun _ => up_at, M9, hp, rfl⟩
  · have hne : ¬ (kPut S x y g = 0) := by rw [h]; decide
    refine CtW.mono (wx_cell1 (P := fun M9 => M9 = clM (ringP 6) (if kPut S x y g = 0 then 0 else kn) (if kPut S x y g = 0 then 0 else nk) (if kPut S x y g = 0 then gP S x y g else S) gb (if kPut S x y g = 0 then min (cnt + 1) 14 else cnt) (if kPut S x y g = 0 then (nx + 1) % 14 else nx) (if kPut S x y g = 0 then σP S nx σ else σ)) hl rfl rfl (CtX.mono (cx_cell1 hl hS h h1 h2) (fun M9 h2 => h2.trans (cm_f hne))) (fun _ h => by rw [h]; rfl)) ?_
    rintro v M8 ⟨rfl, M9, hp, rfl⟩
    exact ⟨by rw [h], fo, fun z => absurd z hne, M9, hp, rfl⟩
  · have hne : ¬ (kPut S x y g = 0) := by rw [h]; decide
    refine CtW.mono (wx_cell2 (P := fun M9 => M9 = clM (ringP 6) (if kPut S x y g = 0 then 0 else kn) (if kPut S x y g = 0 then 0 else nk) (if kPut S x y g = 0 then gP S x y g else S) gb (if kPut S x y g = 0 then min (cnt + 1) 14 else cnt) (if kPut S x y g = 0 then (nx + 1) % 14 else nx) (if kPut S x y g = 0 then σP S nx σ else σ)) hl rfl rfl (CtX.mono (cx_cell2 hl hS h h1 h2 h3) (fun M9 h2 => h2.trans (cm_f hne))) (fun _ h => by rw [h]; rfl)) ?_
    rintro v M8 ⟨rfl, M9, hp, rfl⟩
    exact ⟨by rw [h], fo, fun z => absurd z hne, M9, hp, rfl⟩
theorem W_box (hl : l.stackTraces = false) {x0 x1 y0 y1 g : Int} (hS : SV S) (hc : 0 ≤ cnt ∧ cnt ≤ 14) (hx9 : 0 ≤ nx ∧ nx < 14) (h1 : rg x0) (h2 : rg x1) (h3 : rg y0) (h4 : rg y1) (h5 : rg g) : CtW l yL_box cL_box 8 (some .int) hhL_box rwL_box [.ref 0, iv x0, iv x1, iv y0, iv y1, iv g, .ref 64] (wr 64 72 (clM (ringP 6) kn nk S gb cnt nx σ) fo) (fun u8 M8 => u8 = some (iv (kBox S x0 x1 y0 y1 g)) ∧ ∃ fo' : Int → Int, (kBox S x0 x1 y0 y1 g = 0 → fo' 0 = w32 ((boxF (sC S) g x0 (x1 - x0 + 1).toNat y0 (y1 - y0 + 1).toNat (sG S, 0)).2)) ∧ ∃ M9, (M9 = clM (ringP 6) (if kBox S x0 x1 y0 y1 g = 0 then 0 else kn) (if kBox S x0 x1 y0 y1 g = 0 then 0 else nk) (if kBox S x0 x1 y0 y1 g = 0 then gB S x0 x1 y0 y1 g else S) gb (if kBox S x0 x1 y0 y1 g = 0 then min (cnt + 1) 14 else cnt) (if kBox S x0 x1 y0 y1 g = 0 then (nx + 1) % 14 else nx) (if kBox S x0 x1 y0 y1 g = 0 then σP S nx σ else σ)) ∧ M8 = wr 64 72 M9 fo') := by
  have hK : kBox S x0 x1 y0 y1 g = 0 ∨ kBox S x0 x1 y0 y1 g = 1 ∨ kBox S x0 x1 y0 y1 g = 2 := by
    unfold kBox
    repeat' split
    all_goals first | exact Or.inl rfl | exact Or.inr rfl | exact Or.inr (Or.inl rfl) | exact Or.inr (Or.inr rfl)
  rcases hK with h | h | h
  · refine CtW.mono (w_box (P := fun M9 => M9 = clM (ringP 6) (if kBox S x0 x1 y0 y1 g = 0 then 0 else kn) (if kBox S x0 x1 y0 y1 g = 0 then 0 else nk) (if kBox S x0 x1 y0 y1 g = 0 then gB S x0 x1 y0 y1 g else S) gb (if kBox S x0 x1 y0 y1 g = 0 then min (cnt + 1) 14 else cnt) (if kBox S x0 x1 y0 y1 g = 0 then (nx + 1) % 14 else nx) (if kBox S x0 x1 y0 y1 g = 0 then σP S nx σ else σ)) (z := w32 ((boxF (sC S) g x0 (x1 - x0 + 1).toNat y0 (y1 - y0 + 1).toNat (sG S, 0)).2)) hl rfl rfl (Ct.mono (c_abox hS hc hx9 h h1 h2 h3 h4 h5) (fun v M9 h2 => ⟨h2.1.trans (congrArg some (iv_w _)), h2.2.trans (cm_t h)⟩)) (fun _ h => by rw [h]; rfl) (rg_w _)) ?_
    rintro v M8 ⟨rfl, M9, hp, rfl⟩
    exact ⟨by rw [h], _, fun _ => up_at, M9, hp, rfl⟩
  · have hne : ¬ (kBox S x0 x1 y0 y1 g = 0) := by rw [h]; decide
    refine CtW.mono (wx_box1 (P := fun M9 => M9 = clM (ringP 6) (if kBox S x0 x1 y0 y1 g = 0 then 0 else kn) (if kBox S x0 x1 y0 y1 g = 0 then 0 else nk) (if kBox S x0 x1 y0 y1 g = 0 then gB S x0 x1 y0 y1 g else S) gb (if kBox S x0 x1 y0 y1 g = 0 then min (cnt + 1) 14 else cnt) (if kBox S x0 x1 y0 y1 g = 0 then (nx + 1) % 14 else nx) (if kBox S x0 x1 y0 y1 g = 0 then σP S nx σ else σ)) hl rfl rfl (CtX.mono (cx_box1 hl hS h h1 h2 h3 h4) (fun M9 h2 => h2.trans (cm_f hne))) (fun _ h => by rw [h]; rfl)) ?_
    rintro v M8 ⟨rfl, M9, hp, rfl⟩
    exact ⟨by rw [h], fo, fun z => absurd z hne, M9, hp, rfl⟩
  · have hne : ¬ (kBox S x0 x1 y0 y1 g = 0) := by rw [h]; decide
    refine CtW.mono (wx_box2 (P := fun M9 => M9 = clM (ringP 6) (if kBox S x0 x1 y0 y1 g = 0 then 0 else kn) (if kBox S x0 x1 y0 y1 g = 0 then 0 else nk) (if kBox S x0 x1 y0 y1 g = 0 then gB S x0 x1 y0 y1 g else S) gb (if kBox S x0 x1 y0 y1 g = 0 then min (cnt + 1) 14 else cnt) (if kBox S x0 x1 y0 y1 g = 0 then (nx + 1) % 14 else nx) (if kBox S x0 x1 y0 y1 g = 0 then σP S nx σ else σ)) hl rfl rfl (CtX.mono (cx_box2 hl hS h h1 h2 h3 h4 h5) (fun M9 h2 => h2.trans (cm_f hne))) (fun _ h => by rw [h]; rfl)) ?_
    rintro v M8 ⟨rfl, M9, hp, rfl⟩
    exact ⟨by rw [h], fo, fun z => absurd z hne, M9, hp, rfl⟩
theorem W_threshold (hl : l.stackTraces = false) {v b : Int} (hS : SV S) (hc : 0 ≤ cnt ∧ cnt ≤ 14) (hx9 : 0 ≤ nx ∧ nx < 14) (h1 : rg v) (h2 : rg b) : CtW l yL_threshold cL_threshold 5 (some .int) hhL_threshold rwL_threshold [.ref 0, iv v, iv b, .ref 64] (wr 64 72 (clM (ringP 6) kn nk S gb cnt nx σ) fo) (fun u8 M8 => u8 = some (iv (kPart S v b)) ∧ ∃ fo' : Int → Int, (kPart S v b = 0 → fo' 0 = w32 ((chN (sN S) b : Int))) ∧ ∃ M9, (M9 = clM (ringP 6) (if kPart S v b = 0 then 0 else kn) (if kPart S v b = 0 then 0 else nk) (if kPart S v b = 0 then gT S v b else S) gb (if kPart S v b = 0 then min (cnt + 1) 14 else cnt) (if kPart S v b = 0 then (nx + 1) % 14 else nx) (if kPart S v b = 0 then σP S nx σ else σ)) ∧ M8 = wr 64 72 M9 fo') := by
  have hK : kPart S v b = 0 ∨ kPart S v b = 1 ∨ kPart S v b = 2 := by
    unfold kPart
    repeat' split
    all_goals first | exact Or.inl rfl | exact Or.inr rfl | exact Or.inr (Or.inl rfl) | exact Or.inr (Or.inr rfl)
  rcases hK with h | h | h
  · refine CtW.mono (w_threshold (P := fun M9 => M9 = clM (ringP 6) (if kPart S v b = 0 then 0 else kn) (if kPart S v b = 0 then 0 else nk) (if kPart S v b = 0 then gT S v b else S) gb (if kPart S v b = 0 then min (cnt + 1) 14 else cnt) (if kPart S v b = 0 then (nx + 1) % 14 else nx) (if kPart S v b = 0 then σP S nx σ else σ)) (z := w32 ((chN (sN S) b : Int))) hl rfl rfl (Ct.mono (c_athreshold hS hc hx9 h h1 h2) (fun v M9 h2 => ⟨h2.1.trans (congrArg some (iv_w _)), h2.2.trans (cm_t h)⟩)) (fun _ h => by rw [h]; rfl) (rg_w _)) ?_
    rintro v M8 ⟨rfl, M9, hp, rfl⟩
    exact ⟨by rw [h], _, fun _ => up_at, M9, hp, rfl⟩
  · have hne : ¬ (kPart S v b = 0) := by rw [h]; decide
    refine CtW.mono (wx_threshold1 (P := fun M9 => M9 = clM (ringP 6) (if kPart S v b = 0 then 0 else kn) (if kPart S v b = 0 then 0 else nk) (if kPart S v b = 0 then gT S v b else S) gb (if kPart S v b = 0 then min (cnt + 1) 14 else cnt) (if kPart S v b = 0 then (nx + 1) % 14 else nx) (if kPart S v b = 0 then σP S nx σ else σ)) hl rfl rfl (CtX.mono (cx_threshold1 hl h h1) (fun M9 h2 => h2.trans (cm_f hne))) (fun _ h => by rw [h]; rfl)) ?_
    rintro v M8 ⟨rfl, M9, hp, rfl⟩
    exact ⟨by rw [h], fo, fun z => absurd z hne, M9, hp, rfl⟩
  · have hne : ¬ (kPart S v b = 0) := by rw [h]; decide
    refine CtW.mono (wx_threshold2 (P := fun M9 => M9 = clM (ringP 6) (if kPart S v b = 0 then 0 else kn) (if kPart S v b = 0 then 0 else nk) (if kPart S v b = 0 then gT S v b else S) gb (if kPart S v b = 0 then min (cnt + 1) 14 else cnt) (if kPart S v b = 0 then (nx + 1) % 14 else nx) (if kPart S v b = 0 then σP S nx σ else σ)) hl rfl rfl (CtX.mono (cx_threshold2 hl hS h h1 h2) (fun M9 h2 => h2.trans (cm_f hne))) (fun _ h => by rw [h]; rfl)) ?_
    rintro v M8 ⟨rfl, M9, hp, rfl⟩
    exact ⟨by rw [h], fo, fun z => absurd z hne, M9, hp, rfl⟩
theorem W_share (hl : l.stackTraces = false) {v : Int} (hS : SV S) (hc : 0 ≤ cnt ∧ cnt ≤ 14) (hx9 : 0 ≤ nx ∧ nx < 14) (h1 : rg v) : CtW l yL_share cL_share 4 (some .int) hhL_share rwL_share [.ref 0, iv v, .ref 64] (wr 64 72 (clM (ringP 6) kn nk S gb cnt nx σ) fo) (fun u8 M8 => u8 = some (iv (kIn v 0 5)) ∧ ∃ fo' : Int → Int, (kIn v 0 5 = 0 → fo' 0 = w32 (((shK (sG S) (sC S * sR S).toNat v (sT S) v.toNat).2 : Int))) ∧ ∃ M9, (M9 = clM (ringP 6) (if kIn v 0 5 = 0 then 0 else kn) (if kIn v 0 5 = 0 then 0 else nk) (if kIn v 0 5 = 0 then gH S v else S) gb (if kIn v 0 5 = 0 then min (cnt + 1) 14 else cnt) (if kIn v 0 5 = 0 then (nx + 1) % 14 else nx) (if kIn v 0 5 = 0 then σP S nx σ else σ)) ∧ M8 = wr 64 72 M9 fo') := by
  have hK : kIn v 0 5 = 0 ∨ kIn v 0 5 = 1 := by
    unfold kIn
    repeat' split
    all_goals first | exact Or.inl rfl | exact Or.inr rfl | exact Or.inr (Or.inl rfl) | exact Or.inr (Or.inr rfl)
  rcases hK with h | h
  · refine CtW.mono (w_share (P := fun M9 => M9 = clM (ringP 6) (if kIn v 0 5 = 0 then 0 else kn) (if kIn v 0 5 = 0 then 0 else nk) (if kIn v 0 5 = 0 then gH S v else S) gb (if kIn v 0 5 = 0 then min (cnt + 1) 14 else cnt) (if kIn v 0 5 = 0 then (nx + 1) % 14 else nx) (if kIn v 0 5 = 0 then σP S nx σ else σ)) (z := w32 (((shK (sG S) (sC S * sR S).toNat v (sT S) v.toNat).2 : Int))) hl rfl rfl (Ct.mono (c_ashare hS hc hx9 h h1) (fun v M9 h2 => ⟨h2.1.trans (congrArg some (iv_w _)), h2.2.trans (cm_t h)⟩)) (fun _ h => by rw [h]; rfl) (rg_w _)) ?_
    rintro v M8 ⟨rfl, M9, hp, rfl⟩
    exact ⟨by rw [h], _, fun _ => up_at, M9, hp, rfl⟩
  · have hne : ¬ (kIn v 0 5 = 0) := by rw [h]; decide
    refine CtW.mono (wx_share (P := fun M9 => M9 = clM (ringP 6) (if kIn v 0 5 = 0 then 0 else kn) (if kIn v 0 5 = 0 then 0 else nk) (if kIn v 0 5 = 0 then gH S v else S) gb (if kIn v 0 5 = 0 then min (cnt + 1) 14 else cnt) (if kIn v 0 5 = 0 then (nx + 1) % 14 else nx) (if kIn v 0 5 = 0 then σP S nx σ else σ)) hl rfl rfl (CtX.mono (cx_share hl (by rw [h]; decide) h1) (fun M9 h2 => h2.trans (cm_f hne))) (fun _ h => by rw [h]; rfl)) ?_
    rintro v M8 ⟨rfl, M9, hp, rfl⟩
    exact ⟨by rw [h], fo, fun z => absurd z hne, M9, hp, rfl⟩
theorem W_least (hl : l.stackTraces = false) {v : Int} (hS : SV S) (hc : 0 ≤ cnt ∧ cnt ≤ 14) (hx9 : 0 ≤ nx ∧ nx < 14) (h1 : rg v) : CtW l yL_least cL_least 4 (some .int) hhL_least rwL_least [.ref 0, iv v, .ref 64] (wr 64 72 (clM (ringP 6) kn nk S gb cnt nx σ) fo) (fun u8 M8 => u8 = some (iv (kIn v 1 30)) ∧ ∃ fo' : Int → Int, (kIn v 1 30 = 0 → fo' 0 = w32 (sE S)) ∧ ∃ M9, (M9 = clM (ringP 6) (if kIn v 1 30 = 0 then 0 else kn) (if kIn v 1 30 = 0 then 0 else nk) (if kIn v 1 30 = 0 then setE S v else S) gb (if kIn v 1 30 = 0 then min (cnt + 1) 14 else cnt) (if kIn v 1 30 = 0 then (nx + 1) % 14 else nx) (if kIn v 1 30 = 0 then σP S nx σ else σ)) ∧ M8 = wr 64 72 M9 fo') := by
  have hK : kIn v 1 30 = 0 ∨ kIn v 1 30 = 1 := by
    unfold kIn
    repeat' split
    all_goals first | exact Or.inl rfl | exact Or.inr rfl | exact Or.inr (Or.inl rfl) | exact Or.inr (Or.inr rfl)
  rcases hK with h | h
  · refine CtW.mono (w_least (P := fun M9 => M9 = clM (ringP 6) (if kIn v 1 30 = 0 then 0 else kn) (if kIn v 1 30 = 0 then 0 else nk) (if kIn v 1 30 = 0 then setE S v else S) gb (if kIn v 1 30 = 0 then min (cnt + 1) 14 else cnt) (if kIn v 1 30 = 0 then (nx + 1) % 14 else nx) (if kIn v 1 30 = 0 then σP S nx σ else σ)) (z := w32 (sE S)) hl rfl rfl (Ct.mono (c_aleast hS hc hx9 h h1) (fun v M9 h2 => ⟨h2.1.trans (congrArg some (iv_w _)), h2.2.trans (cm_t h)⟩)) (fun _ h => by rw [h]; rfl) (rg_w _)) ?_
    rintro v M8 ⟨rfl, M9, hp, rfl⟩
    exact ⟨by rw [h], _, fun _ => up_at, M9, hp, rfl⟩
  · have hne : ¬ (kIn v 1 30 = 0) := by rw [h]; decide
    refine CtW.mono (wx_least (P := fun M9 => M9 = clM (ringP 6) (if kIn v 1 30 = 0 then 0 else kn) (if kIn v 1 30 = 0 then 0 else nk) (if kIn v 1 30 = 0 then setE S v else S) gb (if kIn v 1 30 = 0 then min (cnt + 1) 14 else cnt) (if kIn v 1 30 = 0 then (nx + 1) % 14 else nx) (if kIn v 1 30 = 0 then σP S nx σ else σ)) hl rfl rfl (CtX.mono (cx_least hl (by rw [h]; decide) h1) (fun M9 h2 => h2.trans (cm_f hne))) (fun _ h => by rw [h]; rfl)) ?_
    rintro v M8 ⟨rfl, M9, hp, rfl⟩
    exact ⟨by rw [h], fo, fun z => absurd z hne, M9, hp, rfl⟩
theorem W_hatch (hl : l.stackTraces = false) {b v : Int} (hS : SV S) (hc : 0 ≤ cnt ∧ cnt ≤ 14) (hx9 : 0 ≤ nx ∧ nx < 14) (h1 : rg b) (h2 : rg v) : CtW l yL_hatch cL_hatch 5 (some .int) hhL_hatch rwL_hatch [.ref 0, iv b, iv v, .ref 64] (wr 64 72 (clM (ringP 6) kn nk S gb cnt nx σ) fo) (fun u8 M8 => u8 = some (iv (kHatch b v)) ∧ ∃ fo' : Int → Int, (kHatch b v = 0 → fo' 0 = w32 (sH S b)) ∧ ∃ M9, (M9 = clM (ringP 6) (if kHatch b v = 0 then 0 else kn) (if kHatch b v = 0 then 0 else nk) (if kHatch b v = 0 then setH S b v else S) gb (if kHatch b v = 0 then min (cnt + 1) 14 else cnt) (if kHatch b v = 0 then (nx + 1) % 14 else nx) (if kHatch b v = 0 then σP S nx σ else σ)) ∧ M8 = wr 64 72 M9 fo') := by
  have hK : kHatch b v = 0 ∨ kHatch b v = 1 ∨ kHatch b v = 2 := by
    unfold kHatch
    repeat' split
    all_goals first | exact Or.inl rfl | exact Or.inr rfl | exact Or.inr (Or.inl rfl) | exact Or.inr (Or.inr rfl)
  rcases hK with h | h | h
  · refine CtW.mono (w_hatch (P := fun M9 => M9 = clM (ringP 6) (if kHatch b v = 0 then 0 else kn) (if kHatch b v = 0 then 0 else nk) (if kHatch b v = 0 then setH S b v else S) gb (if kHatch b v = 0 then min (cnt + 1) 14 else cnt) (if kHatch b v = 0 then (nx + 1) % 14 else nx) (if kHatch b v = 0 then σP S nx σ else σ)) (z := w32 (sH S b)) hl rfl rfl (Ct.mono (c_ahatch hS hc hx9 h h1 h2) (fun v M9 h2 => ⟨h2.1.trans (congrArg some (iv_w _)), h2.2.trans (cm_t h)⟩)) (fun _ h => by rw [h]; rfl) (rg_w _)) ?_
    rintro v M8 ⟨rfl, M9, hp, rfl⟩
    exact ⟨by rw [h], _, fun _ => up_at, M9, hp, rfl⟩
  · have hne : ¬ (kHatch b v = 0) := by rw [h]; decide
    refine CtW.mono (wx_hatch1 (P := fun M9 => M9 = clM (ringP 6) (if kHatch b v = 0 then 0 else kn) (if kHatch b v = 0 then 0 else nk) (if kHatch b v = 0 then setH S b v else S) gb (if kHatch b v = 0 then min (cnt + 1) 14 else cnt) (if kHatch b v = 0 then (nx + 1) % 14 else nx) (if kHatch b v = 0 then σP S nx σ else σ)) hl rfl rfl (CtX.mono (cx_hatch1 hl h h1) (fun M9 h2 => h2.trans (cm_f hne))) (fun _ h => by rw [h]; rfl)) ?_
    rintro v M8 ⟨rfl, M9, hp, rfl⟩
    exact ⟨by rw [h], fo, fun z => absurd z hne, M9, hp, rfl⟩
  · have hne : ¬ (kHatch b v = 0) := by rw [h]; decide
    refine CtW.mono (wx_hatch2 (P := fun M9 => M9 = clM (ringP 6) (if kHatch b v = 0 then 0 else kn) (if kHatch b v = 0 then 0 else nk) (if kHatch b v = 0 then setH S b v else S) gb (if kHatch b v = 0 then min (cnt + 1) 14 else cnt) (if kHatch b v = 0 then (nx + 1) % 14 else nx) (if kHatch b v = 0 then σP S nx σ else σ)) hl rfl rfl (CtX.mono (cx_hatch2 hl h h1 h2) (fun M9 h2 => h2.trans (cm_f hne))) (fun _ h => by rw [h]; rfl)) ?_
    rintro v M8 ⟨rfl, M9, hp, rfl⟩
    exact ⟨by rw [h], fo, fun z => absurd z hne, M9, hp, rfl⟩
theorem W_line (hl : l.stackTraces = false) {v : Int} (hS : SV S) (hc : 0 ≤ cnt ∧ cnt ≤ 14) (hx9 : 0 ≤ nx ∧ nx < 14) (h1 : rg v) : CtW l yL_line cL_line 4 (some .int) hhL_line rwL_line [.ref 0, iv v, .ref 64] (wr 64 72 (clM (ringP 6) kn nk S gb cnt nx σ) fo) (fun u8 M8 => u8 = some (iv (kIn v 0 9)) ∧ ∃ fo' : Int → Int, (kIn v 0 9 = 0 → fo' 0 = w32 (sI S)) ∧ ∃ M9, (M9 = clM (ringP 6) (if kIn v 0 9 = 0 then 0 else kn) (if kIn v 0 9 = 0 then 0 else nk) (if kIn v 0 9 = 0 then setI S v else S) gb (if kIn v 0 9 = 0 then min (cnt + 1) 14 else cnt) (if kIn v 0 9 = 0 then (nx + 1) % 14 else nx) (if kIn v 0 9 = 0 then σP S nx σ else σ)) ∧ M8 = wr 64 72 M9 fo') := by
  have hK : kIn v 0 9 = 0 ∨ kIn v 0 9 = 1 := by
    unfold kIn
    repeat' split
    all_goals first | exact Or.inl rfl | exact Or.inr rfl | exact Or.inr (Or.inl rfl) | exact Or.inr (Or.inr rfl)
  rcases hK with h | h
  · refine CtW.mono (w_line (P := fun M9 => M9 = clM (ringP 6) (if kIn v 0 9 = 0 then 0 else kn) (if kIn v 0 9 = 0 then 0 else nk) (if kIn v 0 9 = 0 then setI S v else S) gb (if kIn v 0 9 = 0 then min (cnt + 1) 14 else cnt) (if kIn v 0 9 = 0 then (nx + 1) % 14 else nx) (if kIn v 0 9 = 0 then σP S nx σ else σ)) (z := w32 (sI S)) hl rfl rfl (Ct.mono (c_aline hS hc hx9 h h1) (fun v M9 h2 => ⟨h2.1.trans (congrArg some (iv_w _)), h2.2.trans (cm_t h)⟩)) (fun _ h => by rw [h]; rfl) (rg_w _)) ?_
    rintro v M8 ⟨rfl, M9, hp, rfl⟩
    exact ⟨by rw [h], _, fun _ => up_at, M9, hp, rfl⟩
  · have hne : ¬ (kIn v 0 9 = 0) := by rw [h]; decide
    refine CtW.mono (wx_line (P := fun M9 => M9 = clM (ringP 6) (if kIn v 0 9 = 0 then 0 else kn) (if kIn v 0 9 = 0 then 0 else nk) (if kIn v 0 9 = 0 then setI S v else S) gb (if kIn v 0 9 = 0 then min (cnt + 1) 14 else cnt) (if kIn v 0 9 = 0 then (nx + 1) % 14 else nx) (if kIn v 0 9 = 0 then σP S nx σ else σ)) hl rfl rfl (CtX.mono (cx_line hl (by rw [h]; decide) h1) (fun M9 h2 => h2.trans (cm_f hne))) (fun _ h => by rw [h]; rfl)) ?_
    rintro v M8 ⟨rfl, M9, hp, rfl⟩
    exact ⟨by rw [h], fo, fun z => absurd z hne, M9, hp, rfl⟩
theorem W_spread (hl : l.stackTraces = false) {v : Int} (hS : SV S) (hc : 0 ≤ cnt ∧ cnt ≤ 14) (hx9 : 0 ≤ nx ∧ nx < 14) (h1 : rg v) : CtW l yL_spread cL_spread 4 (some .int) hhL_spread rwL_spread [.ref 0, iv v, .ref 64] (wr 64 72 (clM (ringP 6) kn nk S gb cnt nx σ) fo) (fun u8 M8 => u8 = some (iv (kIn v 1 49)) ∧ ∃ fo' : Int → Int, (kIn v 1 49 = 0 → fo' 0 = w32 (cntK (fun j => decide (spF v (sG S j) ≠ sG S j)) (sC S * sR S).toNat)) ∧ ∃ M9, (M9 = clM (ringP 6) (if kIn v 1 49 = 0 then 0 else kn) (if kIn v 1 49 = 0 then 0 else nk) (if kIn v 1 49 = 0 then gQ S v else S) gb (if kIn v 1 49 = 0 then min (cnt + 1) 14 else cnt) (if kIn v 1 49 = 0 then (nx + 1) % 14 else nx) (if kIn v 1 49 = 0 then σP S nx σ else σ)) ∧ M8 = wr 64 72 M9 fo') := by
  have hK : kIn v 1 49 = 0 ∨ kIn v 1 49 = 1 := by
    unfold kIn
    repeat' split
    all_goals first | exact Or.inl rfl | exact Or.inr rfl | exact Or.inr (Or.inl rfl) | exact Or.inr (Or.inr rfl)
  rcases hK with h | h
  · refine CtW.mono (w_spread (P := fun M9 => M9 = clM (ringP 6) (if kIn v 1 49 = 0 then 0 else kn) (if kIn v 1 49 = 0 then 0 else nk) (if kIn v 1 49 = 0 then gQ S v else S) gb (if kIn v 1 49 = 0 then min (cnt + 1) 14 else cnt) (if kIn v 1 49 = 0 then (nx + 1) % 14 else nx) (if kIn v 1 49 = 0 then σP S nx σ else σ)) (z := w32 (cntK (fun j => decide (spF v (sG S j) ≠ sG S j)) (sC S * sR S).toNat)) hl rfl rfl (Ct.mono (c_aspread hS hc hx9 h h1) (fun v M9 h2 => ⟨h2.1.trans (congrArg some (iv_w _)), h2.2.trans (cm_t h)⟩)) (fun _ h => by rw [h]; rfl) (rg_w _)) ?_
    rintro v M8 ⟨rfl, M9, hp, rfl⟩
    exact ⟨by rw [h], _, fun _ => up_at, M9, hp, rfl⟩
  · have hne : ¬ (kIn v 1 49 = 0) := by rw [h]; decide
    refine CtW.mono (wx_spread (P := fun M9 => M9 = clM (ringP 6) (if kIn v 1 49 = 0 then 0 else kn) (if kIn v 1 49 = 0 then 0 else nk) (if kIn v 1 49 = 0 then gQ S v else S) gb (if kIn v 1 49 = 0 then min (cnt + 1) 14 else cnt) (if kIn v 1 49 = 0 then (nx + 1) % 14 else nx) (if kIn v 1 49 = 0 then σP S nx σ else σ)) hl rfl rfl (CtX.mono (cx_spread hl (by rw [h]; decide) h1) (fun M9 h2 => h2.trans (cm_f hne))) (fun _ h => by rw [h]; rfl)) ?_
    rintro v M8 ⟨rfl, M9, hp, rfl⟩
    exact ⟨by rw [h], fo, fun z => absurd z hne, M9, hp, rfl⟩
theorem W_noise (hl : l.stackTraces = false) {x v : Int} (hS : SV S) (hc : 0 ≤ cnt ∧ cnt ≤ 14) (hx9 : 0 ≤ nx ∧ nx < 14) (h1 : rg v) : CtW l yL_noise cL_noise 6 (some .int) hhL_noise rwL_noise [.ref 0, jv x, iv v, .ref 64] (wr 64 72 (clM (ringP 6) kn nk S gb cnt nx σ) fo) (fun u8 M8 => u8 = some (iv (kIn v 1 50)) ∧ ∃ fo' : Int → Int, (kIn v 1 50 = 0 → fo' 0 = w32 (cntK (fun j => decide (noF (sG S) x v j ≠ sG S j)) (sC S * sR S).toNat)) ∧ ∃ M9, (M9 = clM (ringP 6) (if kIn v 1 50 = 0 then 0 else kn) (if kIn v 1 50 = 0 then 0 else nk) (if kIn v 1 50 = 0 then gO S x v else S) gb (if kIn v 1 50 = 0 then min (cnt + 1) 14 else cnt) (if kIn v 1 50 = 0 then (nx + 1) % 14 else nx) (if kIn v 1 50 = 0 then σP S nx σ else σ)) ∧ M8 = wr 64 72 M9 fo') := by
  have hK : kIn v 1 50 = 0 ∨ kIn v 1 50 = 1 := by
    unfold kIn
    repeat' split
    all_goals first | exact Or.inl rfl | exact Or.inr rfl | exact Or.inr (Or.inl rfl) | exact Or.inr (Or.inr rfl)
  rcases hK with h | h
  · refine CtW.mono (w_noise (P := fun M9 => M9 = clM (ringP 6) (if kIn v 1 50 = 0 then 0 else kn) (if kIn v 1 50 = 0 then 0 else nk) (if kIn v 1 50 = 0 then gO S x v else S) gb (if kIn v 1 50 = 0 then min (cnt + 1) 14 else cnt) (if kIn v 1 50 = 0 then (nx + 1) % 14 else nx) (if kIn v 1 50 = 0 then σP S nx σ else σ)) (z := w32 (cntK (fun j => decide (noF (sG S) x v j ≠ sG S j)) (sC S * sR S).toNat)) hl rfl rfl (Ct.mono (c_anoise hS hc hx9 h h1) (fun v M9 h2 => ⟨h2.1.trans (congrArg some (iv_w _)), h2.2.trans (cm_t h)⟩)) (fun _ h => by rw [h]; rfl) (rg_w _)) ?_
    rintro v M8 ⟨rfl, M9, hp, rfl⟩
    exact ⟨by rw [h], _, fun _ => up_at, M9, hp, rfl⟩
  · have hne : ¬ (kIn v 1 50 = 0) := by rw [h]; decide
    refine CtW.mono (wx_noise (P := fun M9 => M9 = clM (ringP 6) (if kIn v 1 50 = 0 then 0 else kn) (if kIn v 1 50 = 0 then 0 else nk) (if kIn v 1 50 = 0 then gO S x v else S) gb (if kIn v 1 50 = 0 then min (cnt + 1) 14 else cnt) (if kIn v 1 50 = 0 then (nx + 1) % 14 else nx) (if kIn v 1 50 = 0 then σP S nx σ else σ)) hl rfl rfl (CtX.mono (cx_noise hl (by rw [h]; decide) h1) (fun M9 h2 => h2.trans (cm_f hne))) (fun _ h => by rw [h]; rfl)) ?_
    rintro v M8 ⟨rfl, M9, hp, rfl⟩
    exact ⟨by rw [h], fo, fun z => absurd z hne, M9, hp, rfl⟩
theorem W_undo (hl : l.stackTraces = false) (hc : 0 ≤ cnt ∧ cnt ≤ 14) (hx9 : 0 ≤ nx ∧ nx < 14) : CtW l yL_undo cL_undo 3 (some .int) hhL_undo rwL_undo [.ref 0, .ref 64] (wr 64 72 (clM (ringP 6) kn nk S gb cnt nx σ) fo) (fun u8 M8 => u8 = some (iv (kUndo cnt)) ∧ ∃ fo' : Int → Int, (kUndo cnt = 0 → fo' 0 = w32 (cnt - 1)) ∧ ∃ M9, (M9 = clM (ringP 6) (if kUndo cnt = 0 then 0 else kn) (if kUndo cnt = 0 then 0 else nk) (if kUndo cnt = 0 then σ ((nx + 13) % 14).toNat else S) gb (if kUndo cnt = 0 then cnt - 1 else cnt) (if kUndo cnt = 0 then (nx + 13) % 14 else nx) σ) ∧ M8 = wr 64 72 M9 fo') := by
  have hK : kUndo cnt = 0 ∨ kUndo cnt = 1 := by
    unfold kUndo
    repeat' split
    all_goals first | exact Or.inl rfl | exact Or.inr rfl | exact Or.inr (Or.inl rfl) | exact Or.inr (Or.inr rfl)
  rcases hK with h | h
  · refine CtW.mono (w_undo (P := fun M9 => M9 = clM (ringP 6) (if kUndo cnt = 0 then 0 else kn) (if kUndo cnt = 0 then 0 else nk) (if kUndo cnt = 0 then σ ((nx + 13) % 14).toNat else S) gb (if kUndo cnt = 0 then cnt - 1 else cnt) (if kUndo cnt = 0 then (nx + 13) % 14 else nx) σ) (z := w32 (cnt - 1)) hl rfl rfl (Ct.mono (c_undo ⟨by have := kUndo_0 h; omega, hc.2⟩ hx9) (fun v M9 h2 => ⟨h2.1.trans (congrArg some (iv_w _)), h2.2.trans (cu_t h)⟩)) (fun _ h => by rw [h]; rfl) (rg_w _)) ?_
    rintro v M8 ⟨rfl, M9, hp, rfl⟩
    exact ⟨by rw [h], _, fun _ => up_at, M9, hp, rfl⟩
  · have hne : ¬ (kUndo cnt = 0) := by rw [h]; decide
    refine CtW.mono (wx_undo (P := fun M9 => M9 = clM (ringP 6) (if kUndo cnt = 0 then 0 else kn) (if kUndo cnt = 0 then 0 else nk) (if kUndo cnt = 0 then σ ((nx + 13) % 14).toNat else S) gb (if kUndo cnt = 0 then cnt - 1 else cnt) (if kUndo cnt = 0 then (nx + 13) % 14 else nx) σ) hl rfl rfl (CtX.mono (cx_undo hl (kUndo_1 h)) (fun M9 h2 => h2.trans (cu_f hne))) (fun _ h => by rw [h]; rfl)) ?_
    rintro v M8 ⟨rfl, M9, hp, rfl⟩
    exact ⟨by rw [h], fo, fun z => absurd z hne, M9, hp, rfl⟩
theorem W_ifLeast (hl : l.stackTraces = false) {v w : Int} (hS : SV S) (hr : rwI B1 F1 Z1) (hv : rg v) (hw : rg w) : CtW l yL_ifLeast cL_ifLeast 5 (some .int) hhL_ifLeast rwL_ifLeast [.ref 0, iv v, iv w, .ref 18] (wr 18 25 (clU kn nk S2 c1 r1 m1 ct1 B1 F1 Z1 Br1 Q1 Fo1 No1 gb S) fo) (fun u8 M8 => u8 = some (iv (kIfL v w)) ∧ ∃ fo' : Int → Int, (kIfL v w = 0 → fo' 0 = w32 (aIfL S v w)) ∧ ∃ M9, (RU kn nk S M9) ∧ M8 = wr 18 25 M9 fo') := by
  have hK : kIfL v w = 0 ∨ kIfL v w = 1 := by
    unfold kIfL
    repeat' split
    all_goals first | exact Or.inl rfl | exact Or.inr rfl | exact Or.inr (Or.inl rfl) | exact Or.inr (Or.inr rfl)
  rcases hK with h | h
  · refine CtW.mono (w_ifLeast (P := fun M9 => RU kn nk S M9) (z := w32 (aIfL S v w)) hl rfl rfl (Ct.mono (c_ifLeast hS hr h hv hw) (fun v M9 h2 => ⟨h2.1.trans (congrArg some (iv_w _)), h2.2⟩)) (fun _ h => RU_len h) (rg_w _)) ?_
    rintro v M8 ⟨rfl, M9, hp, rfl⟩
    exact ⟨by rw [h], _, fun _ => up_at, M9, hp, rfl⟩
  · have hne : ¬ (kIfL v w = 0) := by rw [h]; decide
    refine CtW.mono (wx_ifLeast (P := fun M9 => RU kn nk S M9) hl rfl rfl (CtX.mono (cx_ifLeast hl (by rw [h]; decide) hv hw) (fun M9 h2 => by rw [h2]; exact RU_mk hr)) (fun _ h => RU_len h)) ?_
    rintro v M8 ⟨rfl, M9, hp, rfl⟩
    exact ⟨by rw [h], fo, fun z => absurd z hne, M9, hp, rfl⟩
theorem W_leastFor (hl : l.stackTraces = false) {n : Int} (hS : SV S) (hr : rwI B1 F1 Z1) (hn : rg n) : CtW l yL_leastFor cL_leastFor 4 (some .int) hhL_leastFor rwL_leastFor [.ref 0, iv n, .ref 18] (wr 18 25 (clU kn nk S2 c1 r1 m1 ct1 B1 F1 Z1 Br1 Q1 Fo1 No1 gb S) fo) (fun u8 M8 => u8 = some (iv (kIn n 1 144)) ∧ ∃ fo' : Int → Int, (kIn n 1 144 = 0 → fo' 0 = w32 (lfK S n 30 1)) ∧ ∃ M9, (RU kn nk S M9) ∧ M8 = wr 18 25 M9 fo') := by
  have hK : kIn n 1 144 = 0 ∨ kIn n 1 144 = 1 := by
    unfold kIn
    repeat' split
    all_goals first | exact Or.inl rfl | exact Or.inr rfl | exact Or.inr (Or.inl rfl) | exact Or.inr (Or.inr rfl)
  rcases hK with h | h
  · refine CtW.mono (w_leastFor (P := fun M9 => RU kn nk S M9) (z := w32 (lfK S n 30 1)) hl rfl rfl (Ct.mono (c_leastFor hS hr h hn) (fun v M9 h2 => ⟨h2.1.trans (congrArg some (iv_w _)), h2.2⟩)) (fun _ h => RU_len h) (rg_w _)) ?_
    rintro v M8 ⟨rfl, M9, hp, rfl⟩
    exact ⟨by rw [h], _, fun _ => up_at, M9, hp, rfl⟩
  · have hne : ¬ (kIn n 1 144 = 0) := by rw [h]; decide
    refine CtW.mono (wx_leastFor (P := fun M9 => RU kn nk S M9) hl rfl rfl (CtX.mono (cx_leastFor hl (by rw [h]; decide) hn) (fun M9 h2 => by rw [h2]; exact RU_mk hr)) (fun _ h => RU_len h)) ?_
    rintro v M8 ⟨rfl, M9, hp, rfl⟩
    exact ⟨by rw [h], fo, fun z => absurd z hne, M9, hp, rfl⟩
theorem W_bestMove (hl : l.stackTraces = false) {k : Int} (hS : SV S) (hr : rwI B1 F1 Z1) (hk : rg k) : CtW l yL_bestMove cL_bestMove 4 (some .int) hhL_bestMove rwL_bestMove [.ref 0, iv k, .ref 18] (wr 18 25 (clU kn nk S2 c1 r1 m1 ct1 B1 F1 Z1 Br1 Q1 Fo1 No1 gb S) fo) (fun u8 M8 => u8 = some (iv (kIn k 0 (sN S - 1))) ∧ ∃ fo' : Int → Int, (kIn k 0 (sN S - 1) = 0 → fo' 0 = w32 (aBest S k)) ∧ ∃ M9, (RU kn nk S M9) ∧ M8 = wr 18 25 M9 fo') := by
  have hK : kIn k 0 (sN S - 1) = 0 ∨ kIn k 0 (sN S - 1) = 1 := by
    unfold kIn
    repeat' split
    all_goals first | exact Or.inl rfl | exact Or.inr rfl | exact Or.inr (Or.inl rfl) | exact Or.inr (Or.inr rfl)
  rcases hK with h | h
  · refine CtW.mono (w_bestMove (P := fun M9 => RU kn nk S M9) (z := w32 (aBest S k)) hl rfl rfl (Ct.mono (c_bestMove hS hr h hk) (fun v M9 h2 => ⟨h2.1.trans (congrArg some (iv_w _)), h2.2⟩)) (fun _ h => RU_len h) (rg_w _)) ?_
    rintro v M8 ⟨rfl, M9, hp, rfl⟩
    exact ⟨by rw [h], _, fun _ => up_at, M9, hp, rfl⟩
  · have hne : ¬ (kIn k 0 (sN S - 1) = 0) := by rw [h]; decide
    refine CtW.mono (wx_bestMove (P := fun M9 => RU kn nk S M9) hl rfl rfl (CtX.mono (cx_bestMove hl hS (by rw [h]; decide) hk) (fun M9 h2 => by rw [h2]; exact RU_mk hr)) (fun _ h => RU_len h)) ?_
    rintro v M8 ⟨rfl, M9, hp, rfl⟩
    exact ⟨by rw [h], fo, fun z => absurd z hne, M9, hp, rfl⟩
theorem W_ifCell (hl : l.stackTraces = false) {x y g w : Int} (hS : SV S) (h9 : CN S kn nk c0 r0 m0 ct B F Z Fo No Ho Mo In) (hr : rwI B1 F1 Z1) (hx : rg x) (hy : rg y) (hg : rg g) (hw : rg w) : CtW l yL_ifCell cL_ifCell 7 (some .int) hhL_ifCell rwL_ifCell [.ref 0, iv x, iv y, iv g, iv w, .ref 33] (wr 33 46 (clD S kn nk c0 r0 m0 ct B F Z Br Q Fo No Ho Mo In Sn Qn sd rt lf wy S2 c1 r1 m1 ct1 B1 F1 Z1 Br1 Q1 Fo1 No1 gb) fo) (fun u8 M8 => u8 = some (iv (kIfC S x y g w)) ∧ ∃ fo' : Int → Int, (kIfC S x y g w = 0 → fo' 0 = w32 (aIfC S (gP S x y g) x y w)) ∧ ∃ M9, (RD S M9) ∧ M8 = wr 33 46 M9 fo') := by
  have hK : kIfC S x y g w = 0 ∨ kIfC S x y g w = 1 ∨ kIfC S x y g w = 2 := by
    unfold kIfC
    repeat' split
    all_goals first | exact Or.inl rfl | exact Or.inr rfl | exact Or.inr (Or.inl rfl) | exact Or.inr (Or.inr rfl)
  rcases hK with h | h | h
  · refine CtW.mono (w_ifCell (P := fun M9 => RD S M9) (z := w32 (aIfC S (gP S x y g) x y w)) hl rfl rfl (Ct.mono (c_ifCell hS h9 hr h hx hy hg hw) (fun v M9 h2 => ⟨h2.1.trans (congrArg some (iv_w _)), h2.2⟩)) (fun _ h => RD_len h) (rg_w _)) ?_
    rintro v M8 ⟨rfl, M9, hp, rfl⟩
    exact ⟨by rw [h], _, fun _ => up_at, M9, hp, rfl⟩
  · have hne : ¬ (kIfC S x y g w = 0) := by rw [h]; decide
    refine CtW.mono (wx_ifCell1 (P := fun M9 => RD S M9) hl rfl rfl (CtX.mono (cx_ifCell1 hl hS h hx hy) (fun M9 h2 => by rw [h2]; exact RD_mk h9 hr)) (fun _ h => RD_len h)) ?_
    rintro v M8 ⟨rfl, M9, hp, rfl⟩
    exact ⟨by rw [h], fo, fun z => absurd z hne, M9, hp, rfl⟩
  · have hne : ¬ (kIfC S x y g w = 0) := by rw [h]; decide
    refine CtW.mono (wx_ifCell2 (P := fun M9 => RD S M9) hl rfl rfl (CtX.mono (cx_ifCell2 hl hS h hx hy hg hw) (fun M9 h2 => by rw [h2]; exact RD_mk h9 hr)) (fun _ h => RD_len h)) ?_
    rintro v M8 ⟨rfl, M9, hp, rfl⟩
    exact ⟨by rw [h], fo, fun z => absurd z hne, M9, hp, rfl⟩
theorem W_runScript (hl : l.stackTraces = false) {n x : Int} (hS : SV S) (hr : rwI B1 F1 Z1) (hn : rg n) (hx : rgL x) : CtW l yL_runScript cL_runScript 6 (some .int) hhL_runScript rwL_runScript [.ref 0, iv n, jv x, .ref 18] (wr 18 25 (clU kn nk S2 c1 r1 m1 ct1 B1 F1 Z1 Br1 Q1 Fo1 No1 gb S) fo) (fun u8 M8 => u8 = some (iv (kRun n x)) ∧ ∃ fo' : Int → Int, (kRun n x = 0 → fo' 0 = w32 (aRun S n x)) ∧ ∃ M9, (RU kn nk S M9) ∧ M8 = wr 18 25 M9 fo') := by
  have hK : kRun n x = 0 ∨ kRun n x = 1 := by
    unfold kRun
    repeat' split
    all_goals first | exact Or.inl rfl | exact Or.inr rfl | exact Or.inr (Or.inl rfl) | exact Or.inr (Or.inr rfl)
  rcases hK with h | h
  · refine CtW.mono (w_runScript (P := fun M9 => RU kn nk S M9) (z := w32 (aRun S n x)) hl rfl rfl (Ct.mono (c_runScript hS hr h hn hx) (fun v M9 h2 => ⟨h2.1.trans (congrArg some (iv_w _)), h2.2⟩)) (fun _ h => RU_len h) (rg_w _)) ?_
    rintro v M8 ⟨rfl, M9, hp, rfl⟩
    exact ⟨by rw [h], _, fun _ => up_at, M9, hp, rfl⟩
  · have hne : ¬ (kRun n x = 0) := by rw [h]; decide
    refine CtW.mono (wx_runScript (P := fun M9 => RU kn nk S M9) hl rfl rfl (CtX.mono (cx_runScript hl (by rw [h]; decide) hn hx) (fun M9 h2 => by rw [h2]; exact RU_mk hr)) (fun _ h => RU_len h)) ?_
    rintro v M8 ⟨rfl, M9, hp, rfl⟩
    exact ⟨by rw [h], fo, fun z => absurd z hne, M9, hp, rfl⟩
theorem W_simulate (hl : l.stackTraces = false) {x n : Int} (hS : SV S) (hr : rwI B1 F1 Z1) (hn : rg n) : CtW l yL_simulate cL_simulate 6 (some .int) hhL_simulate rwL_simulate [.ref 0, jv x, iv n, .ref 18] (wr 18 25 (clU kn nk S2 c1 r1 m1 ct1 B1 F1 Z1 Br1 Q1 Fo1 No1 gb S) fo) (fun u8 M8 => u8 = some (iv (kIn n 1 60)) ∧ ∃ fo' : Int → Int, (kIn n 1 60 = 0 → fo' 0 = w32 (aSim (siK S x n.toNat))) ∧ ∃ M9, (RU kn nk S M9) ∧ M8 = wr 18 25 M9 fo') := by
  have hK : kIn n 1 60 = 0 ∨ kIn n 1 60 = 1 := by
    unfold kIn
    repeat' split
    all_goals first | exact Or.inl rfl | exact Or.inr rfl | exact Or.inr (Or.inl rfl) | exact Or.inr (Or.inr rfl)
  rcases hK with h | h
  · refine CtW.mono (w_simulate (P := fun M9 => RU kn nk S M9) (z := w32 (aSim (siK S x n.toNat))) hl rfl rfl (Ct.mono (c_simulate hS hr h hn) (fun v M9 h2 => ⟨h2.1.trans (congrArg some (iv_w _)), h2.2⟩)) (fun _ h => RU_len h) (rg_w _)) ?_
    rintro v M8 ⟨rfl, M9, hp, rfl⟩
    exact ⟨by rw [h], _, fun _ => up_at, M9, hp, rfl⟩
  · have hne : ¬ (kIn n 1 60 = 0) := by rw [h]; decide
    refine CtW.mono (wx_simulate (P := fun M9 => RU kn nk S M9) hl rfl rfl (CtX.mono (cx_simulate hl (by rw [h]; decide) hn) (fun M9 h2 => by rw [h2]; exact RU_mk hr)) (fun _ h => RU_len h)) ?_
    rintro v M8 ⟨rfl, M9, hp, rfl⟩
    exact ⟨by rw [h], fo, fun z => absurd z hne, M9, hp, rfl⟩
theorem W_save (hl : l.stackTraces = false) {v : Int} (hS : SV S) (h1 : rg v) : CtW l yL_save cL_save 4 (some .int) hhL_save rwL_save [.ref 0, iv v, .ref 16] (wr 16 24 (clS (slotP 6) kn nk S P0 P1 sv cnt nx) fo) (fun u8 M8 => u8 = some (iv (kIn v 0 1)) ∧ ∃ fo' : Int → Int, (kIn v 0 1 = 0 → fo' 0 = w32 (sumK (sG S) (sC S * sR S).toNat)) ∧ ∃ M9, (M9 = clS (slotP 6) kn nk S (if kIn v 0 1 = 0 then (if v = 0 then S else P0) else P0) (if kIn v 0 1 = 0 then (if v = 0 then P1 else S) else P1) (if kIn v 0 1 = 0 then up sv v 1 else sv) cnt nx) ∧ M8 = wr 16 24 M9 fo') := by
  have hK : kIn v 0 1 = 0 ∨ kIn v 0 1 = 1 := by
    unfold kIn
    repeat' split
    all_goals first | exact Or.inl rfl | exact Or.inr rfl | exact Or.inr (Or.inl rfl) | exact Or.inr (Or.inr rfl)
  rcases hK with h | h
  · refine CtW.mono (w_save (P := fun M9 => M9 = clS (slotP 6) kn nk S (if kIn v 0 1 = 0 then (if v = 0 then S else P0) else P0) (if kIn v 0 1 = 0 then (if v = 0 then P1 else S) else P1) (if kIn v 0 1 = 0 then up sv v 1 else sv) cnt nx) (z := w32 (sumK (sG S) (sC S * sR S).toNat)) hl rfl rfl (Ct.mono (c_save hS h h1) (fun v M9 h2 => ⟨h2.1.trans (congrArg some (iv_w _)), by rw [h2.2]; simp only [if_pos h]⟩)) (fun _ h => by rw [h]; rfl) (rg_w _)) ?_
    rintro v M8 ⟨rfl, M9, hp, rfl⟩
    exact ⟨by rw [h], _, fun _ => up_at, M9, hp, rfl⟩
  · have hne : ¬ (kIn v 0 1 = 0) := by rw [h]; decide
    refine CtW.mono (wx_save (P := fun M9 => M9 = clS (slotP 6) kn nk S (if kIn v 0 1 = 0 then (if v = 0 then S else P0) else P0) (if kIn v 0 1 = 0 then (if v = 0 then P1 else S) else P1) (if kIn v 0 1 = 0 then up sv v 1 else sv) cnt nx) hl rfl rfl (CtX.mono (cx_save hl (by rw [h]; decide) h1) (fun M9 h2 => by rw [h2]; simp only [if_neg hne])) (fun _ h => by rw [h]; rfl)) ?_
    rintro v M8 ⟨rfl, M9, hp, rfl⟩
    exact ⟨by rw [h], fo, fun z => absurd z hne, M9, hp, rfl⟩
theorem W_restore (hl : l.stackTraces = false) {v : Int} (hP : kRes sv v = 0 → SV (if v = 0 then P0 else P1)) (h1 : rg v) (hsv : ∀ i, 0 ≤ sv i ∧ sv i ≤ 1) : CtW l yL_restore cL_restore 4 (some .int) hhL_restore rwL_restore [.ref 0, iv v, .ref 16] (wr 16 24 (clS (slotP 6) kn nk S P0 P1 sv cnt nx) fo) (fun u8 M8 => u8 = some (iv (kRes sv v)) ∧ ∃ fo' : Int → Int, (kRes sv v = 0 → fo' 0 = w32 (sumK (sG (if v = 0 then P0 else P1)) (sC (if v = 0 then P0 else P1) * sR (if v = 0 then P0 else P1)).toNat)) ∧ ∃ M9, (M9 = clS (slotP 6) (if kRes sv v = 0 then 0 else kn) (if kRes sv v = 0 then 0 else nk) (if kRes sv v = 0 then (if v = 0 then P0 else P1) else S) P0 P1 sv (if kRes sv v = 0 then 0 else cnt) nx) ∧ M8 = wr 16 24 M9 fo') := by
  have hK : kRes sv v = 0 ∨ kRes sv v = 1 ∨ kRes sv v = 2 := by
    unfold kRes
    repeat' split
    all_goals first | exact Or.inl rfl | exact Or.inr rfl | exact Or.inr (Or.inl rfl) | exact Or.inr (Or.inr rfl)
  rcases hK with h | h | h
  · refine CtW.mono (w_restore (P := fun M9 => M9 = clS (slotP 6) (if kRes sv v = 0 then 0 else kn) (if kRes sv v = 0 then 0 else nk) (if kRes sv v = 0 then (if v = 0 then P0 else P1) else S) P0 P1 sv (if kRes sv v = 0 then 0 else cnt) nx) (z := w32 (sumK (sG (if v = 0 then P0 else P1)) (sC (if v = 0 then P0 else P1) * sR (if v = 0 then P0 else P1)).toNat)) hl rfl rfl (Ct.mono (c_restore (hP h) h h1 hsv) (fun v M9 h2 => ⟨h2.1.trans (congrArg some (iv_w _)), by rw [h2.2]; simp only [if_pos h]⟩)) (fun _ h => by rw [h]; rfl) (rg_w _)) ?_
    rintro v M8 ⟨rfl, M9, hp, rfl⟩
    exact ⟨by rw [h], _, fun _ => up_at, M9, hp, rfl⟩
  · have hne : ¬ (kRes sv v = 0) := by rw [h]; decide
    refine CtW.mono (wx_restore1 (P := fun M9 => M9 = clS (slotP 6) (if kRes sv v = 0 then 0 else kn) (if kRes sv v = 0 then 0 else nk) (if kRes sv v = 0 then (if v = 0 then P0 else P1) else S) P0 P1 sv (if kRes sv v = 0 then 0 else cnt) nx) hl rfl rfl (CtX.mono (cx_restore1 hl h h1) (fun M9 h2 => by rw [h2]; simp only [if_neg hne])) (fun _ h => by rw [h]; rfl)) ?_
    rintro v M8 ⟨rfl, M9, hp, rfl⟩
    exact ⟨by rw [h], fo, fun z => absurd z hne, M9, hp, rfl⟩
  · have hne : ¬ (kRes sv v = 0) := by rw [h]; decide
    refine CtW.mono (wx_restore2 (P := fun M9 => M9 = clS (slotP 6) (if kRes sv v = 0 then 0 else kn) (if kRes sv v = 0 then 0 else nk) (if kRes sv v = 0 then (if v = 0 then P0 else P1) else S) P0 P1 sv (if kRes sv v = 0 then 0 else cnt) nx) hl rfl rfl (CtX.mono (cx_restore2 hl h h1) (fun M9 h2 => by rw [h2]; simp only [if_neg hne])) (fun _ h => by rw [h]; rfl)) ?_
    rintro v M8 ⟨rfl, M9, hp, rfl⟩
    exact ⟨by rw [h], fo, fun z => absurd z hne, M9, hp, rfl⟩
end WC
