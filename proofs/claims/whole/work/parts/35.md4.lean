/-! MODEL: islands found. -/
section MD6
variable {l : Launch} {rf sz c r : Int} {G T : Int → Int} {le : Int} {Hh : Int → Int} {li ac : Int} {B I : Int → Int} {m : Int} {Fi Co Br Wt mk gy : Int → Int} {sd rt lf wy sp ou : Int} {b : Int → Int}
theorem c_bandOfIsleN {n i : Int} (hd : dim c r) (hi : 0 ≤ i ∧ i < mny c r b) (hJ : JW c r b B I m Fi Co) : Cd l yX7_bandOfIsle cX7_bandOfIsle 2 (some .int) rmX7_bandOfIsle [.ref 0, iv i] (mdM rf sz c r G T n le Hh li ac B I m Fi Co Br Wt mk gy sd rt lf wy sp ou) (some (iv (b (fo c r b i)))) (mdM rf sz c r G T n le Hh li ac B I m Fi Co Br Wt mk gy sd rt lf wy sp ou) := by
  have f := fo_ok (b := b) hd hi.1 hi.2
  have := c_bandOfIsle (l := l) (rf := rf) (sz := sz) (G := G) (T := T) (le := le) (Hh := Hh) (li := li) (ac := ac) (Br := Br) (Wt := Wt) (mk := mk) (gy := gy) (sd := sd) (rt := rt) (lf := lf) (wy := wy) (sp := sp) (ou := ou) (n := n) hd f.1 f.2.1 hJ
  rw [f.2.2] at this
  exact this
theorem c_isBetterN {n L j k : Int} (hd : dim c r) (hL : cel c r L) (hl : lw c r b L = L) (hj : 0 ≤ j ∧ j < mny c r b) (hk : 0 ≤ k ∧ k < mny c r b) (hJ : JW c r b B I m Fi Co) (hBr : ∀ L', cel c r L' → lw c r b L' = L' → Br (rk c r b L') = brd c r b L L') :
    Cd l yX7_isBetter cX7_isBetter 7 (some .boolean) rmX7_isBetter [.ref 0, iv (rk c r b L), iv j, iv k] (mdM rf sz c r G T n le Hh li ac B I m Fi Co Br Wt mk gy sd rt lf wy sp ou) (some (iv (bz (bet b (brd c r b L) L (fo c r b j) (fo c r b k))))) (mdM rf sz c r G T n le Hh li ac B I m Fi Co Br Wt mk gy sd rt lf wy sp ou) := by
  have f := fo_ok (b := b) hd hj.1 hj.2
  have g := fo_ok (b := b) hd hk.1 hk.2
  have := c_isBetter (l := l) (rf := rf) (sz := sz) (G := G) (T := T) (le := le) (Hh := Hh) (li := li) (ac := ac) (Br := Br) (Wt := Wt) (mk := mk) (gy := gy) (sd := sd) (rt := rt) (lf := lf) (wy := wy) (sp := sp) (ou := ou) (n := n) hd hL hl f.1 f.2.1 g.1 g.2.1 hJ hBr
  rw [f.2.2, g.2.2] at this
  exact this
noncomputable def tkN (c r : Int) (b : Int → Int) (s : Int) : Nat → Int
  | 0 => -1
  | i + 1 => if 0 < brd c r b s (fo c r b i) ∧ (tkN c r b s i = -1 ∨ bet b (brd c r b s) s (fo c r b i) (fo c r b (tkN c r b s i))) then i else tkN c r b s i
theorem tkN_rg (s : Int) : ∀ i : Nat, tkN c r b s i = -1 ∨ (0 ≤ tkN c r b s i ∧ tkN c r b s i < i)
  | 0 => Or.inl rfl
  | i + 1 => by have := tkN_rg s i; simp only [tkN]; split <;> omega
theorem brd_first (hd : dim c r) {s L : Int} (h : 0 < brd c r b s L) : lw c r b L = L := by
  obtain ⟨k, w, h1, h2, h3, h4, h5, h6⟩ := (brd_pos hd).2.mp h
  rw [← h6]; exact lw_lw hd (nb_back hd h1 h3 h4).1
theorem tkN_K (hd : dim c r) (s : Int) : ∀ k : Nat, (k : Int) ≤ c * r → tkN c r b s (rk c r b k).toNat = nrk c r b (tkK c r b s k)
  | 0, _ => by
    have : rk c r b ((0 : Nat) : Int) = 0 := rfl
    rw [this]; rfl
  | k + 1, h => by
    have ih := tkN_K hd s k (by omega)
    have hk : cel c r k := ⟨by omega, by omega⟩
    have hr := rk_rg (c := c) (r := r) (B := b) k
    by_cases z : lw c r b k = k
    · have hf := fo_rk hd hk z
      have er : (((rk c r b k).toNat : Nat) : Int) = rk c r b k := Int.toNat_of_nonneg hr.1
      rw [rk_s z]
      simp only [tkN, tkK]
      rw [ih, er, hf]
      have hn : nrk c r b (tkK c r b s k) = -1 ↔ tkK c r b s k = -1 := nrk_n
      rcases (tkK_ok (c := c) (r := r) (B := b) (s := s) k).2 with y | y
      · have y2 := hn.mpr y
        by_cases w : 0 < brd c r b s k
        · rw [if_pos ⟨w, Or.inl y2⟩, if_pos ⟨w, Or.inl y⟩]; unfold nrk; rw [if_neg (by omega)]
        · rw [if_neg (fun q => w q.1), if_neg (fun q => w q.1)]
      · have hc2 : cel c r (tkK c r b s k) := ⟨y.1, by omega⟩
        have e2 := fo_nrk hd (by omega) hc2 (brd_first hd y.2.2)
        have y2 : nrk c r b (tkK c r b s k) ≠ -1 := fun q => by have := hn.mp q; omega
        rw [e2]
        by_cases w : 0 < brd c r b s k ∧ bet b (brd c r b s) s k (tkK c r b s k)
        · rw [if_pos ⟨w.1, Or.inr w.2⟩, if_pos ⟨w.1, Or.inr w.2⟩]; unfold nrk; rw [if_neg (by omega)]
        · rw [if_neg (fun q => w ⟨q.1, q.2.elim (fun e => absurd e y2) id⟩), if_neg (fun q => w ⟨q.1, q.2.elim (fun e => by omega) id⟩)]
    · rw [rk_n z, ih]
      simp only [tkK]
      rw [if_neg (fun q => z (brd_first hd q.1))]
theorem tkN_L (hd : dim c r) (s : Int) : tkN c r b s (mny c r b).toNat = nrk c r b (tkL c r b s) := by
  have hc := dim_cells hd
  have := tkN_K (b := b) hd s (c * r).toNat (by omega)
  rw [show (((c * r).toNat : Nat) : Int) = c * r by omega] at this
  exact this
/-- the bands of a plate with a least size -/
noncomputable def fb (c r : Int) (T : Int → Int) (n : Nat) (G : Int → Int) (le : Int) : Int → Int := mrg c r le 144 (bnd T n G)
theorem bnd_rg {n : Nat} (hn : n ≤ 5) (k : Int) : 0 ≤ bnd T n G k ∧ bnd T n G k ≤ 5 := by
  have := cntK_rg (fun j => decide (T j ≤ G k)) n
  unfold bnd bandN; omega
theorem dX7_find_0 : decode cX7_find 0 = .ok (.aload_n 0, 1) := by decide +kernel
theorem dX7_find_1 : decode cX7_find 1 = .ok (.aload_n 1, 1) := by decide +kernel
theorem dX7_find_2 : decode cX7_find 2 = .ok (.invokevirtual 100, 3) := by decide +kernel
theorem dX7_find_5 : decode cX7_find 5 = .ok (.aload_n 0, 1) := by decide +kernel
theorem dX7_find_6 : decode cX7_find 6 = .ok (.iload_n 2, 1) := by decide +kernel
theorem dX7_find_7 : decode cX7_find 7 = .ok (.invokevirtual 103, 3) := by decide +kernel
theorem dX7_find_10 : decode cX7_find 10 = .ok (.istore_n 3, 1) := by decide +kernel
theorem dX7_find_11 : decode cX7_find 11 = .ok (.iload_n 3, 1) := by decide +kernel
theorem dX7_find_12 : decode cX7_find 12 = .ok (.iconst (-1), 1) := by decide +kernel
theorem dX7_find_13 : decode cX7_find 13 = .ok (.if_icmp .eq 137, 3) := by decide +kernel
theorem dX7_find_16 : decode cX7_find 16 = .ok (.aload_n 0, 1) := by decide +kernel
theorem dX7_find_17 : decode cX7_find 17 = .ok (.aload_n 1, 1) := by decide +kernel
theorem dX7_find_18 : decode cX7_find 18 = .ok (.iload_n 3, 1) := by decide +kernel
theorem dX7_find_19 : decode cX7_find 19 = .ok (.invokevirtual 106, 3) := by decide +kernel
theorem dX7_find_22 : decode cX7_find 22 = .ok (.iconst (-1), 1) := by decide +kernel
theorem dX7_find_23 : decode cX7_find 23 = .ok (.istore 4, 2) := by decide +kernel
theorem dX7_find_25 : decode cX7_find 25 = .ok (.iconst 0, 1) := by decide +kernel
theorem dX7_find_26 : decode cX7_find 26 = .ok (.istore 5, 2) := by decide +kernel
theorem dX7_find_28 : decode cX7_find 28 = .ok (.iload 5, 2) := by decide +kernel
theorem dX7_find_30 : decode cX7_find 30 = .ok (.aload_n 0, 1) := by decide +kernel
theorem dX7_find_31 : decode cX7_find 31 = .ok (.getfield 78, 3) := by decide +kernel
theorem dX7_find_34 : decode cX7_find 34 = .ok (.if_icmp .ge 46, 3) := by decide +kernel
theorem dX7_find_37 : decode cX7_find 37 = .ok (.aload_n 0, 1) := by decide +kernel
theorem dX7_find_38 : decode cX7_find 38 = .ok (.getfield 41, 3) := by decide +kernel
theorem dX7_find_41 : decode cX7_find 41 = .ok (.iload 5, 2) := by decide +kernel
theorem dX7_find_43 : decode cX7_find 43 = .ok (.iaload, 1) := by decide +kernel
theorem dX7_find_44 : decode cX7_find 44 = .ok (.ifCond .le 26, 3) := by decide +kernel
theorem dX7_find_47 : decode cX7_find 47 = .ok (.iload 4, 2) := by decide +kernel
theorem dX7_find_49 : decode cX7_find 49 = .ok (.iconst (-1), 1) := by decide +kernel
theorem dX7_find_50 : decode cX7_find 50 = .ok (.if_icmp .eq 15, 3) := by decide +kernel
theorem dX7_find_53 : decode cX7_find 53 = .ok (.aload_n 0, 1) := by decide +kernel
theorem dX7_find_54 : decode cX7_find 54 = .ok (.iload_n 3, 1) := by decide +kernel
theorem dX7_find_55 : decode cX7_find 55 = .ok (.iload 5, 2) := by decide +kernel
theorem dX7_find_57 : decode cX7_find 57 = .ok (.iload 4, 2) := by decide +kernel
theorem dX7_find_59 : decode cX7_find 59 = .ok (.invokevirtual 109, 3) := by decide +kernel
theorem dX7_find_62 : decode cX7_find 62 = .ok (.ifCond .eq 8, 3) := by decide +kernel
theorem dX7_find_65 : decode cX7_find 65 = .ok (.iload 5, 2) := by decide +kernel
theorem dX7_find_67 : decode cX7_find 67 = .ok (.goto 5, 3) := by decide +kernel
theorem dX7_find_70 : decode cX7_find 70 = .ok (.iload 4, 2) := by decide +kernel
theorem dX7_find_72 : decode cX7_find 72 = .ok (.istore 4, 2) := by decide +kernel
theorem dX7_find_74 : decode cX7_find 74 = .ok (.iinc 5 1, 3) := by decide +kernel
theorem dX7_find_77 : decode cX7_find 77 = .ok (.goto (-49), 3) := by decide +kernel
theorem dX7_find_80 : decode cX7_find 80 = .ok (.aload_n 0, 1) := by decide +kernel
theorem dX7_find_81 : decode cX7_find 81 = .ok (.iload 4, 2) := by decide +kernel
theorem dX7_find_83 : decode cX7_find 83 = .ok (.invokevirtual 96, 3) := by decide +kernel
theorem dX7_find_86 : decode cX7_find 86 = .ok (.istore 5, 2) := by decide +kernel
theorem dX7_find_88 : decode cX7_find 88 = .ok (.iconst 0, 1) := by decide +kernel
theorem dX7_find_89 : decode cX7_find 89 = .ok (.istore 6, 2) := by decide +kernel
theorem dX7_find_91 : decode cX7_find 91 = .ok (.iload 6, 2) := by decide +kernel
theorem dX7_find_93 : decode cX7_find 93 = .ok (.aload_n 1, 1) := by decide +kernel
theorem dX7_find_94 : decode cX7_find 94 = .ok (.invokestatic 74, 3) := by decide +kernel
theorem dX7_find_97 : decode cX7_find 97 = .ok (.if_icmp .ge 39, 3) := by decide +kernel
theorem dX7_find_100 : decode cX7_find 100 = .ok (.aload_n 0, 1) := by decide +kernel
theorem dX7_find_101 : decode cX7_find 101 = .ok (.getfield 29, 3) := by decide +kernel
theorem dX7_find_104 : decode cX7_find 104 = .ok (.iload 6, 2) := by decide +kernel
theorem dX7_find_106 : decode cX7_find 106 = .ok (.aload_n 0, 1) := by decide +kernel
theorem dX7_find_107 : decode cX7_find 107 = .ok (.getfield 32, 3) := by decide +kernel
theorem dX7_find_110 : decode cX7_find 110 = .ok (.iload 6, 2) := by decide +kernel
theorem dX7_find_112 : decode cX7_find 112 = .ok (.iaload, 1) := by decide +kernel
theorem dX7_find_113 : decode cX7_find 113 = .ok (.iload_n 3, 1) := by decide +kernel
theorem dX7_find_114 : decode cX7_find 114 = .ok (.if_icmp .ne 8, 3) := by decide +kernel
theorem dX7_find_117 : decode cX7_find 117 = .ok (.iload 5, 2) := by decide +kernel
theorem dX7_find_119 : decode cX7_find 119 = .ok (.goto 10, 3) := by decide +kernel
theorem dX7_find_122 : decode cX7_find 122 = .ok (.aload_n 0, 1) := by decide +kernel
theorem dX7_find_123 : decode cX7_find 123 = .ok (.getfield 29, 3) := by decide +kernel
theorem dX7_find_126 : decode cX7_find 126 = .ok (.iload 6, 2) := by decide +kernel
theorem dX7_find_128 : decode cX7_find 128 = .ok (.iaload, 1) := by decide +kernel
theorem dX7_find_129 : decode cX7_find 129 = .ok (.iastore, 1) := by decide +kernel
theorem dX7_find_130 : decode cX7_find 130 = .ok (.iinc 6 1, 3) := by decide +kernel
theorem dX7_find_133 : decode cX7_find 133 = .ok (.goto (-42), 3) := by decide +kernel
theorem dX7_find_136 : decode cX7_find 136 = .ok (.aload_n 0, 1) := by decide +kernel
theorem dX7_find_137 : decode cX7_find 137 = .ok (.aload_n 1, 1) := by decide +kernel
theorem dX7_find_138 : decode cX7_find 138 = .ok (.invokevirtual 93, 3) := by decide +kernel
theorem dX7_find_141 : decode cX7_find 141 = .ok (.aload_n 0, 1) := by decide +kernel
theorem dX7_find_142 : decode cX7_find 142 = .ok (.iload_n 2, 1) := by decide +kernel
theorem dX7_find_143 : decode cX7_find 143 = .ok (.invokevirtual 103, 3) := by decide +kernel
theorem dX7_find_146 : decode cX7_find 146 = .ok (.istore_n 3, 1) := by decide +kernel
theorem dX7_find_147 : decode cX7_find 147 = .ok (.goto (-136), 3) := by decide +kernel
theorem dX7_find_150 : decode cX7_find 150 = .ok (.return_, 1) := by decide +kernel
theorem c_find {n : Nat} {le2 : Int} (hd : dim c r) (hn : n ≤ 5) (hT : ∀ i, 0 ≤ T i ∧ T i ≤ 99) (hs : srt T n) (hG : ∀ i, rg (G i)) (hle : rg le2) (hB : ∀ i, 0 ≤ B i ∧ B i ≤ 5) (hI : ∀ i, rg (I i)) : Ct l yX7_find cX7_find 7 none rmX7_find [.ref 0, .ref 1, iv le2] (mdM rf sz c r G T n le Hh li ac B I m Fi Co Br Wt mk gy sd rt lf wy sp ou)
    (fun z M => z = none ∧ ∃ B' I' Fi' Co' Br' Q' : Int → Int, M = (mdM rf sz c r G T n le Hh li ac (B') (I') (mny c r (fb c r T n G le2)) (Fi') (Co') (Br') (Q') mk gy sd rt lf wy sp ou) ∧ JW c r (fb c r T n G le2) B' I' (mny c r (fb c r T n G le2)) Fi' Co') := by
  refine Ct.of miX7_find (Nat.le_of_ble_eq_true rfl) ?_
  intro X hXl hN ok
  refine AW.cast (L2 := [some (.ref 0), some (.ref 1), some (iv le2), none, none, none, none]) ?_ rfl rfl rfl
  have hc := dim_cells hd
  have loop : ∀ q : Nat × (Int → Int) × (Int → Int) × (Int → Int) × (Int → Int) × (Int → Int) × (Int → Int), (q.1 + mny c r q.2.1 ≤ 144 ∧ JW c r q.2.1 q.2.1 q.2.2.1 (mny c r q.2.1) q.2.2.2.1 q.2.2.2.2.1 ∧ ∀ k, cel c r k → mrg c r le2 (144 - q.1) q.2.1 k = fb c r T n G le2 k) →
      ∀ u1 u2 u3 : Option Value, AW X 0 0 11 [some (.ref 0), some (.ref 1), some (iv le2), some (iv (smM c r q.2.1 le2)), u1, u2, u3] [] (mdM rf sz c r G T n le Hh li ac (q.2.1) (q.2.2.1) (mny c r q.2.1) (q.2.2.2.1) (q.2.2.2.2.1) (q.2.2.2.2.2.1) (q.2.2.2.2.2.2) mk gy sd rt lf wy sp ou) := by
    refine wfl (fun q : Nat × (Int → Int) × (Int → Int) × (Int → Int) × (Int → Int) × (Int → Int) × (Int → Int) => 145 - q.1) _ _ ?_
    rintro ⟨N, B, I, Fi, Co, Br, Wt⟩ ⟨h1, h2, h3⟩ ih u1 u2 u3
    dsimp only at h1 h2 h3 ih ⊢
    have hm := mny_1 (B := B) hd
    by_cases hgo : 1 < mny c r B ∧ smL c r B le2 ≠ -1
    · obtain ⟨hm1, hs1⟩ := hgo
      obtain ⟨s, es⟩ : ∃ s, s = smL c r B le2 := ⟨_, rfl⟩
      have hsc := sm_cel hd hs1
      rw [← es] at hsc
      obtain ⟨hsc, hsl⟩ := hsc
      have ht := tk_ex hd hsc hsl hm1
      obtain ⟨t, et⟩ : ∃ t, t = tkL c r B s := ⟨_, rfl⟩
      rw [← et] at ht
      obtain ⟨htc, htb⟩ := ht
      have htl := brd_first hd htb
      have hrs := rk_mny hd hsc hsl
      have hrt := rk_mny hd htc htl
      have esm : smM c r B le2 = rk c r B s := by unfold smM nrk; rw [if_pos hm1, if_neg hs1, es]
      have etk : tkN c r B s (mny c r B).toNat = rk c r B t := by rw [tkN_L hd, ← et]; unfold nrk; rw [if_neg (by have := htc.1; omega)]
      have hst : mstp c r B s = fun k => if lw c r B k = s then B t else B k := by rw [et]; rfl
      have hless := mg_less hd hsc hsl htc htb
      rw [esm]
      obtain ⟨j1, j2, j3, j4, j5, j6⟩ := id h2
      have jt := j1 t
      have lst : ∀ Br : Int → Int, ∀ k : Nat, ((k : Int) ≤ c * r) → AW X 0 0 91 [some (.ref 0), some (.ref 1), some (iv le2), some (iv (rk c r B s)), some (iv (rk c r B t)), some (iv (B t)), some (iv k)] [] (mdM rf sz c r G T n le Hh li ac (fun i => if lw c r B i = s ∧ i < k then B t else B i) (I) (mny c r B) (Fi) (Co) (Br) (Wt) mk gy sd rt lf wy sp ou) := by
        intro Br
        refine wfl (fun k : Nat => 145 - k) _ _ ?_
        intro k hk ih2
        have rIk := j2 k
        have jk := j1 k
        have hIk : (k : Int) < c * r → (I k = rk c r B s ↔ lw c r B k = s) := fun h => by
          have hck : cel c r k := ⟨by omega, h⟩
          have hlk := lw_ok (B := B) hd hck
          rw [j4 k hck]
          exact ⟨fun e => rk_inj hlk.1 (lw_lw hd hck) hsc hsl e, fun e => by rw [e]⟩
        have exA : lw c r B k = s → up (fun i => if lw c r B i = s ∧ i < (k : Int) then B t else B i) k (B t) = (fun i => if lw c r B i = s ∧ i < ((k + 1 : Nat) : Int) then B t else B i) := by
          intro e0
          funext i
          unfold up
          dsimp only
          by_cases e : i = k
          · rw [if_pos e, if_pos ⟨by rw [e]; exact e0, by omega⟩]
          · rw [if_neg e]
            by_cases z : lw c r B i = s ∧ i < k
            · rw [if_pos z, if_pos ⟨z.1, by omega⟩]
            · rw [if_neg z, if_neg (fun y => z ⟨y.1, by have := y.2; omega⟩)]
        have exB : lw c r B k ≠ s → up (fun i => if lw c r B i = s ∧ i < (k : Int) then B t else B i) k ((fun i => if lw c r B i = s ∧ i < (k : Int) then B t else B i) k) = (fun i => if lw c r B i = s ∧ i < ((k + 1 : Nat) : Int) then B t else B i) := by
          intro e0
          rw [up_self]
          funext i
          by_cases z : lw c r B i = s ∧ i < k
          · rw [if_pos z, if_pos ⟨z.1, by omega⟩]
          · rw [if_neg z, if_neg (fun y => z ⟨y.1, by have a : i ≠ k := (fun e => e0 (by rw [← e]; exact y.1)); have d := y.2; omega⟩)]
        have em : (k : Int) = c * r → (fun i => if lw c r B i = s ∧ i < (k : Int) then B t else B i) = (fun k => if lw c r B k = s then B t else B k) := by
          intro hk3
          funext i
          by_cases z : lw c r B i = s
          · have hs0 := hsc.1
            have : cel c r i := Classical.byContradiction fun y => by rw [lw_out y] at z; omega
            rw [if_pos ⟨z, by have := this.2; omega⟩, if_pos z]
          · rw [if_neg z, if_neg (fun y => z y.1)]
        have hB2 : ∀ i, 0 ≤ (if lw c r B i = s then B t else B i) ∧ (if lw c r B i = s then B t else B i) ≤ 5 := fun i => by have := j1 i; split <;> omega
        refine a_iload (pc := 91) ok dX7_find_91 rfl ?_
        refine a_aload_n (pc := 93) ok dX7_find_93 rfl ?_
        refine a_callSp (pc := 94) ok [1] dX7_find_94 mv7_74 miX7_cells (c_cells) ⟨by decide, by decide, rfl, rfl, Nat.zero_le _, Nat.zero_le _⟩ rfl rfl (Nat.le_of_ble_eq_true rfl) rfl (by decide) ?_
        refine a_icmp_ge (pc := 97) (tgt := 136) ok dX7_find_97 (by decide) (by first | omega | (unfold rg; omega) | (simp only [rg] at *; omega) | exact bz_rg _ | grind [rg]) (by first | omega | (unfold rg; omega) | (simp only [rg] at *; omega) | exact bz_rg _ | grind [rg]) (fun c97 => ?_) (fun c97 => ?_)
        · rw [em (by omega)]
          refine a_aload_n (pc := 136) ok dX7_find_136 rfl ?_
          refine a_aload_n (pc := 137) ok dX7_find_137 rfl ?_
          refine x_callV (pc := 138) ok [0, 1, 2, 3, 4, 5, 6, 7, 8, 9, 10, 11, 12, 13, 14, 15, 16] 10 dX7_find_138 mv7_93 miX7_mark (c_mark hd hB2 j2) ⟨by decide, by decide, rfl, rfl, Nat.zero_le _, Nat.zero_le _⟩ rfl rfl (Nat.le_of_ble_eq_true rfl) rfl rfl (by decide) rfl rfl (fun v M' h => by obtain ⟨_, _, _, _, _, h, _⟩ := h; rw [h]; rfl) ?_
          rintro _ M' ⟨rfl, I', Fi', Co', Q', rfl, hJ⟩
          refine AW.cast (st2 := []) (M2 := (mdM rf sz c r G T n le Hh li ac (fun k => if lw c r B k = s then B t else B k) (I') (mny c r (fun k => if lw c r B k = s then B t else B k)) (Fi') (Co') (Br) (Q') mk gy sd rt lf wy sp ou)) ?_ rfl rfl rfl
          refine a_aload_n (pc := 141) ok dX7_find_141 rfl ?_
          refine a_iload_n (pc := 142) ok dX7_find_142 rfl ?_
          refine x_callVp (pc := 143) ok [0, 1, 2, 3, 4, 5, 6, 7, 8, 9, 10, 11, 12, 13, 14, 15, 16] 10 dX7_find_143 mv7_103 miX7_smallest (c_smallest hd hle hJ) ⟨by decide, by decide, rfl, rfl, Nat.zero_le _, Nat.zero_le _⟩ rfl rfl (Nat.le_of_ble_eq_true rfl) rfl rfl (by decide) rfl rfl ?_
          refine a_istore_n (pc := 146) ok dX7_find_146 rfl (by rw [hN]; decide) ?_
          refine a_goto (pc := 147) (tgt := 11) ok dX7_find_147 (by decide) ?_
          refine AW.cast (ih (N + 1, (fun k => if lw c r B k = s then B t else B k), I', Fi', Co', Br, Q') ⟨by dsimp only; omega, hJ, fun k hk => ?_⟩ (by dsimp only; omega) _ _ _) rfl rfl rfl
          dsimp only
          rw [← h3 k hk, show 144 - N = (144 - (N + 1)) + 1 by omega, mrg_t hm1 hs1, ← es, hst]
        · refine a_aload_n (pc := 100) ok dX7_find_100 rfl ?_
          refine a_getf (pc := 101) ok dX7_find_101 fl7_29 rfl rfl ?_
          refine a_iload (pc := 104) ok dX7_find_104 rfl ?_
          refine a_aload_n (pc := 106) ok dX7_find_106 rfl ?_
          refine a_getf (pc := 107) ok dX7_find_107 fl7_32 rfl rfl ?_
          refine a_iload (pc := 110) ok dX7_find_110 rfl ?_
          refine a_iald (pc := 112) ok dX7_find_112 rfl (by first | decide | omega) (by first | omega | (unfold rg; omega) | (simp only [rg] at *; omega) | exact bz_rg _ | grind [rg]) ?_
          refine a_iload_n (pc := 113) ok dX7_find_113 rfl ?_
          refine a_icmp_ne (pc := 114) (tgt := 122) ok dX7_find_114 (by decide) (by first | exact rIk | (unfold rg; omega)) (by first | exact rIk | (unfold rg; omega)) (fun c114 => ?_) (fun c114 => ?_)
          · refine a_aload_n (pc := 122) ok dX7_find_122 rfl ?_
            refine a_getf (pc := 123) ok dX7_find_123 fl7_29 rfl rfl ?_
            refine a_iload (pc := 126) ok dX7_find_126 rfl ?_
            refine a_iald (pc := 128) ok dX7_find_128 rfl (by first | decide | omega) (by first | omega | (unfold rg; omega) | (simp only [rg] at *; omega) | exact bz_rg _ | grind [rg]) ?_
            refine a_iast (pc := 129) ok dX7_find_129 rfl (by first | decide | omega) (by first | omega | (unfold rg; omega) | (simp only [rg] at *; omega) | exact bz_rg _ | grind [rg]) ?_
            refine a_iinc (pc := 130) ok dX7_find_130 rfl rfl (by rw [hN]; decide) ?_
            refine a_goto (pc := 133) (tgt := 91) ok dX7_find_133 (by decide) ?_
            exact AW.cast (ih2 (k + 1) (by omega) (by omega)) rfl rfl (congrArg (fun f => (mdM rf sz c r G T n le Hh li ac (f) (I) (mny c r B) (Fi) (Co) (Br) (Wt) mk gy sd rt lf wy sp ou)) (exB (fun z => c114 ((hIk (by omega)).mpr z))))
          · refine a_iload (pc := 117) ok dX7_find_117 rfl ?_
            refine a_goto (pc := 119) (tgt := 129) ok dX7_find_119 (by decide) ?_
            refine a_iast (pc := 129) ok dX7_find_129 rfl (by first | decide | omega) (by first | omega | (unfold rg; omega) | (simp only [rg] at *; omega) | exact bz_rg _ | grind [rg]) ?_
            refine a_iinc (pc := 130) ok dX7_find_130 rfl rfl (by rw [hN]; decide) ?_
            refine a_goto (pc := 133) (tgt := 91) ok dX7_find_133 (by decide) ?_
            exact AW.cast (ih2 (k + 1) (by omega) (by omega)) rfl rfl (congrArg (fun f => (mdM rf sz c r G T n le Hh li ac (f) (I) (mny c r B) (Fi) (Co) (Br) (Wt) mk gy sd rt lf wy sp ou)) (exA ((hIk (by omega)).mp c114)))
      have best : ∀ Br : Int → Int, (∀ L', cel c r L' → lw c r B L' = L' → Br (rk c r B L') = brd c r B s L') → ∀ k : Nat, (k : Int) ≤ mny c r B → AW X 0 0 28 [some (.ref 0), some (.ref 1), some (iv le2), some (iv (rk c r B s)), some (iv (tkN c r B s k)), some (iv k), u3] [] (mdM rf sz c r G T n le Hh li ac (B) (I) (mny c r B) (Fi) (Co) (Br) (Wt) mk gy sd rt lf wy sp ou) := by
        intro Br hBr
        refine wfl (fun k : Nat => 145 - k) _ _ ?_
        intro k hk ih2
        have hs2 := tkN_rg (c := c) (r := r) (b := B) s k
        have e1 : 0 < brd c r B s (fo c r B k) ∧ (tkN c r B s k = -1 ∨ bet B (brd c r B s) s (fo c r B k) (fo c r B (tkN c r B s k))) → tkN c r B s (k + 1) = k := fun h => by simp only [tkN]; exact if_pos h
        have e2 : ¬ (0 < brd c r B s (fo c r B k) ∧ (tkN c r B s k = -1 ∨ bet B (brd c r B s) s (fo c r B k) (fo c r B (tkN c r B s k)))) → tkN c r B s (k + 1) = tkN c r B s k := fun h => by simp only [tkN]; exact if_neg h
        by_cases hk2 : (k : Int) < mny c r B
        · have f := fo_ok (b := B) hd (show (0 : Int) ≤ k by omega) hk2
          have q1 := hBr _ f.1 f.2.1
          rw [f.2.2] at q1
          have q2 := brd_rg (B := B) hd s (fo c r B k)
          refine a_iload (pc := 28) ok dX7_find_28 rfl ?_
          refine a_aload_n (pc := 30) ok dX7_find_30 rfl ?_
          refine a_getf (pc := 31) ok dX7_find_31 fl7_78 rfl rfl ?_
          refine a_icmp_ge (pc := 34) (tgt := 80) ok dX7_find_34 (by decide) (by first | omega | (unfold rg; omega) | (simp only [rg] at *; omega) | exact bz_rg _ | grind [rg]) (by first | omega | (unfold rg; omega) | (simp only [rg] at *; omega) | exact bz_rg _ | grind [rg]) (fun c34 => ?_) (fun c34 => ?_)
          · exfalso; first | omega | grind
          · refine a_aload_n (pc := 37) ok dX7_find_37 rfl ?_
            refine a_getf (pc := 38) ok dX7_find_38 fl7_41 rfl rfl ?_
            refine a_iload (pc := 41) ok dX7_find_41 rfl ?_
            refine a_iald (pc := 43) ok dX7_find_43 rfl (by first | decide | omega) (by first | omega | (unfold rg; omega) | (simp only [rg] at *; omega) | exact bz_rg _ | grind [rg]) ?_
            rw [q1]
            refine a_if_le (pc := 44) (tgt := 70) ok dX7_find_44 (by decide) (by first | omega | (unfold rg; omega) | (simp only [rg] at *; omega) | exact bz_rg _ | grind [rg]) (fun c44 => ?_) (fun c44 => ?_)
            · refine a_iload (pc := 70) ok dX7_find_70 rfl ?_
              refine a_istore (pc := 72) ok dX7_find_72 rfl (by rw [hN]; decide) ?_
              refine a_iinc (pc := 74) ok dX7_find_74 rfl rfl (by rw [hN]; decide) ?_
              refine a_goto (pc := 77) (tgt := 28) ok dX7_find_77 (by decide) ?_
              exact AW.cast (ih2 (k + 1) (by omega) (by omega)) (by rw [e2 (fun z => by have := z.1; omega)]; rfl) rfl rfl
            · refine a_iload (pc := 47) ok dX7_find_47 rfl ?_
              refine a_iconst (pc := 49) ok dX7_find_49 ?_
              refine a_icmp_eq (pc := 50) (tgt := 65) ok dX7_find_50 (by decide) (by first | omega | (unfold rg; omega) | (simp only [rg] at *; omega) | exact bz_rg _ | grind [rg]) (by first | omega | (unfold rg; omega) | (simp only [rg] at *; omega) | exact bz_rg _ | grind [rg]) (fun c50 => ?_) (fun c50 => ?_)
              · refine a_iload (pc := 65) ok dX7_find_65 rfl ?_
                refine a_goto (pc := 67) (tgt := 72) ok dX7_find_67 (by decide) ?_
                refine a_istore (pc := 72) ok dX7_find_72 rfl (by rw [hN]; decide) ?_
                refine a_iinc (pc := 74) ok dX7_find_74 rfl rfl (by rw [hN]; decide) ?_
                refine a_goto (pc := 77) (tgt := 28) ok dX7_find_77 (by decide) ?_
                exact AW.cast (ih2 (k + 1) (by omega) (by omega)) (by rw [e1 ⟨by omega, Or.inl c50⟩]; rfl) rfl rfl
              · refine a_aload_n (pc := 53) ok dX7_find_53 rfl ?_
                refine a_iload_n (pc := 54) ok dX7_find_54 rfl ?_
                refine a_iload (pc := 55) ok dX7_find_55 rfl ?_
                refine a_iload (pc := 57) ok dX7_find_57 rfl ?_
                refine x_callVp (pc := 59) ok [0, 1, 2, 3, 4, 5, 6, 7, 8, 9, 10, 11, 12, 13, 14, 15, 16] 10 dX7_find_59 mv7_109 miX7_isBetter (c_isBetterN hd hsc hsl (by omega) (by omega) h2 hBr) ⟨by decide, by decide, rfl, rfl, Nat.zero_le _, Nat.zero_le _⟩ rfl rfl (Nat.le_of_ble_eq_true rfl) rfl rfl (by decide) rfl rfl ?_
                refine a_if_eq (pc := 62) (tgt := 70) ok dX7_find_62 (by decide) (by first | omega | (unfold rg; omega) | (simp only [rg] at *; omega) | exact bz_rg _ | grind [rg]) (fun c62 => ?_) (fun c62 => ?_)
                · refine a_iload (pc := 70) ok dX7_find_70 rfl ?_
                  refine a_istore (pc := 72) ok dX7_find_72 rfl (by rw [hN]; decide) ?_
                  refine a_iinc (pc := 74) ok dX7_find_74 rfl rfl (by rw [hN]; decide) ?_
                  refine a_goto (pc := 77) (tgt := 28) ok dX7_find_77 (by decide) ?_
                  exact AW.cast (ih2 (k + 1) (by omega) (by omega)) (by rw [e2 (fun z => by rcases z.2 with y | y; exact c50 y; rw [bz_pos y] at c62; exact absurd c62 (by decide))]; rfl) rfl rfl
                · refine a_iload (pc := 65) ok dX7_find_65 rfl ?_
                  refine a_goto (pc := 67) (tgt := 72) ok dX7_find_67 (by decide) ?_
                  refine a_istore (pc := 72) ok dX7_find_72 rfl (by rw [hN]; decide) ?_
                  refine a_iinc (pc := 74) ok dX7_find_74 rfl rfl (by rw [hN]; decide) ?_
                  refine a_goto (pc := 77) (tgt := 28) ok dX7_find_77 (by decide) ?_
                  exact AW.cast (ih2 (k + 1) (by omega) (by omega)) (by rw [e1 ⟨by omega, Or.inr (Classical.byContradiction fun z => c62 (bz_neg z))⟩]; rfl) rfl rfl
        · have ek : k = (mny c r B).toNat := by omega
          have fort : fo c r B (rk c r B t) = t := fo_rk hd htc htl
          refine a_iload (pc := 28) ok dX7_find_28 rfl ?_
          refine a_aload_n (pc := 30) ok dX7_find_30 rfl ?_
          refine a_getf (pc := 31) ok dX7_find_31 fl7_78 rfl rfl ?_
          refine a_icmp_ge (pc := 34) (tgt := 80) ok dX7_find_34 (by decide) (by first | omega | (unfold rg; omega) | (simp only [rg] at *; omega) | exact bz_rg _ | grind [rg]) (by first | omega | (unfold rg; omega) | (simp only [rg] at *; omega) | exact bz_rg _ | grind [rg]) (fun c34 => ?_) (fun c34 => ?_)
          · rw [ek, etk]
            refine a_aload_n (pc := 80) ok dX7_find_80 rfl ?_
            refine a_iload (pc := 81) ok dX7_find_81 rfl ?_
            refine x_callVp (pc := 83) ok [0, 1, 2, 3, 4, 5, 6, 7, 8, 9, 10, 11, 12, 13, 14, 15, 16] 10 dX7_find_83 mv7_96 miX7_bandOfIsle (c_bandOfIsleN hd hrt h2) ⟨by decide, by decide, rfl, rfl, Nat.zero_le _, Nat.zero_le _⟩ rfl rfl (Nat.le_of_ble_eq_true rfl) rfl rfl (by decide) rfl rfl ?_
            rw [fort]
            refine a_istore (pc := 86) ok dX7_find_86 rfl (by rw [hN]; decide) ?_
            refine a_iconst (pc := 88) ok dX7_find_88 ?_
            refine a_istore (pc := 89) ok dX7_find_89 rfl (by rw [hN]; decide) ?_
            refine AW.cast (lst Br 0 (by omega)) rfl rfl (congrArg (fun f => (mdM rf sz c r G T n le Hh li ac (f) (I) (mny c r B) (Fi) (Co) (Br) (Wt) mk gy sd rt lf wy sp ou)) ?_)
            funext i
            rw [if_neg]
            rintro ⟨y1, y2⟩
            have hs0 := hsc.1
            have hci : cel c r i := Classical.byContradiction fun y => by rw [lw_out y] at y1; omega
            have := hci.1
            omega
          · exfalso; first | omega | grind
      refine a_iload_n (pc := 11) ok dX7_find_11 rfl ?_
      refine a_iconst (pc := 12) ok dX7_find_12 ?_
      refine a_icmp_eq (pc := 13) (tgt := 150) ok dX7_find_13 (by decide) (by first | omega | (unfold rg; omega) | (simp only [rg] at *; omega) | exact bz_rg _ | grind [rg]) (by first | omega | (unfold rg; omega) | (simp only [rg] at *; omega) | exact bz_rg _ | grind [rg]) (fun c13 => ?_) (fun c13 => ?_)
      · exfalso; first | omega | grind
      · refine a_aload_n (pc := 16) ok dX7_find_16 rfl ?_
        refine a_aload_n (pc := 17) ok dX7_find_17 rfl ?_
        refine a_iload_n (pc := 18) ok dX7_find_18 rfl ?_
        refine x_callV (pc := 19) ok [0, 1, 2, 3, 4, 5, 6, 7, 8, 9, 10, 11, 12, 13, 14, 15, 16] 10 dX7_find_19 mv7_106 miX7_meet (c_meet hd hsc hsl h2) ⟨by decide, by decide, rfl, rfl, Nat.zero_le _, Nat.zero_le _⟩ rfl rfl (Nat.le_of_ble_eq_true rfl) rfl rfl (by decide) rfl rfl (fun v M' h => by obtain ⟨_, _, h, _⟩ := h; rw [h]; rfl) ?_
        rintro _ M' ⟨rfl, Br', rfl, hBr⟩
        refine AW.cast (st2 := []) (M2 := (mdM rf sz c r G T n le Hh li ac (B) (I) (mny c r B) (Fi) (Co) (Br') (Wt) mk gy sd rt lf wy sp ou)) ?_ rfl rfl rfl
        refine a_iconst (pc := 22) ok dX7_find_22 ?_
        refine a_istore (pc := 23) ok dX7_find_23 rfl (by rw [hN]; decide) ?_
        refine a_iconst (pc := 25) ok dX7_find_25 ?_
        refine a_istore (pc := 26) ok dX7_find_26 rfl (by rw [hN]; decide) ?_
        exact AW.cast (best Br' hBr 0 (by omega)) rfl rfl rfl
    · have esm : smM c r B le2 = -1 := by
        unfold smM nrk
        by_cases z : 1 < mny c r B
        · rw [if_pos z]
          have : smL c r B le2 = -1 := Classical.byContradiction fun y => hgo ⟨z, y⟩
          rw [if_pos this]
        · rw [if_neg z]
      rw [mrg_f _ hgo] at h3
      have hJ2 := JW_congr hd h2 h3
      have em := mny_congr hd h3
      rw [em] at hJ2
      rw [esm, em]
      refine a_iload_n (pc := 11) ok dX7_find_11 rfl ?_
      refine a_iconst (pc := 12) ok dX7_find_12 ?_
      refine a_icmp_eq (pc := 13) (tgt := 150) ok dX7_find_13 (by decide) (by first | omega | (unfold rg; omega) | (simp only [rg] at *; omega) | exact bz_rg _ | grind [rg]) (by first | omega | (unfold rg; omega) | (simp only [rg] at *; omega) | exact bz_rg _ | grind [rg]) (fun c13 => ?_) (fun c13 => ?_)
      · exact a_vret (pc := 150) ok dX7_find_150 (⟨rfl, B, I, Fi, Co, Br, Wt, rfl, hJ2⟩)
      · exfalso; first | omega | grind
  refine a_aload_n (pc := 0) ok dX7_find_0 rfl ?_
  refine a_aload_n (pc := 1) ok dX7_find_1 rfl ?_
  refine x_callV (pc := 2) ok [0, 1, 2, 3, 4, 5, 6, 7, 8, 9, 10, 11, 12, 13, 14, 15, 16] 10 dX7_find_2 mv7_100 miX7_markGreys (c_markGreys hd hn hT hs hG hB hI) ⟨by decide, by decide, rfl, rfl, Nat.zero_le _, Nat.zero_le _⟩ rfl rfl (Nat.le_of_ble_eq_true rfl) rfl rfl (by decide) rfl rfl (fun v M' h => by obtain ⟨_, _, _, _, _, _, h, _⟩ := h; rw [h]; rfl) ?_
  rintro _ M' ⟨rfl, B', I', Fi', Co', Q', rfl, hJ⟩
  have hbc := hJ.2.2.1
  have hJ2 : JW c r B' B' I' (mny c r (bnd T n G)) Fi' Co' := by
    obtain ⟨k1, k2, k3, k4, k5, k6⟩ := hJ
    rw [← rk_congr hd hbc, ← lwf_congr hd hbc] at k4 k6
    rw [← siz_congr hd hbc] at k6
    exact ⟨k1, k2, fun _ _ => rfl, k4, (mny_congr hd hbc).symm, k6⟩
  rw [← mny_congr hd hbc] at hJ2 ⊢
  have hm := mny_1 (B := B') hd
  refine AW.cast (st2 := []) (M2 := (mdM rf sz c r G T n le Hh li ac (B') (I') (mny c r B') (Fi') (Co') Br (Q') mk gy sd rt lf wy sp ou)) ?_ rfl rfl rfl
  refine a_aload_n (pc := 5) ok dX7_find_5 rfl ?_
  refine a_iload_n (pc := 6) ok dX7_find_6 rfl ?_
  refine x_callVp (pc := 7) ok [0, 1, 2, 3, 4, 5, 6, 7, 8, 9, 10, 11, 12, 13, 14, 15, 16] 10 dX7_find_7 mv7_103 miX7_smallest (c_smallest hd hle hJ2) ⟨by decide, by decide, rfl, rfl, Nat.zero_le _, Nat.zero_le _⟩ rfl rfl (Nat.le_of_ble_eq_true rfl) rfl rfl (by decide) rfl rfl ?_
  refine a_istore_n (pc := 10) ok dX7_find_10 rfl (by rw [hN]; decide) ?_
  refine AW.cast (loop (0, B', I', Fi', Co', Br, Q') ⟨by dsimp only; omega, hJ2, fun k hk => ?_⟩ _ _ _) rfl rfl rfl
  exact mrg_congr hd le2 144 hbc k hk
theorem dX7_findAs_0 : decode cX7_findAs 0 = .ok (.aload_n 0, 1) := by decide +kernel
theorem dX7_findAs_1 : decode cX7_findAs 1 = .ok (.aload_n 1, 1) := by decide +kernel
theorem dX7_findAs_2 : decode cX7_findAs 2 = .ok (.aload_n 1, 1) := by decide +kernel
theorem dX7_findAs_3 : decode cX7_findAs 3 = .ok (.bipush 8, 2) := by decide +kernel
theorem dX7_findAs_5 : decode cX7_findAs 5 = .ok (.iaload, 1) := by decide +kernel
theorem dX7_findAs_6 : decode cX7_findAs 6 = .ok (.invokevirtual 113, 3) := by decide +kernel
theorem dX7_findAs_9 : decode cX7_findAs 9 = .ok (.return_, 1) := by decide +kernel
theorem c_findAs {n : Nat} (hd : dim c r) (hn : n ≤ 5) (hT : ∀ i, 0 ≤ T i ∧ T i ≤ 99) (hs : srt T n) (hG : ∀ i, rg (G i)) (hle : rg le) (hB : ∀ i, 0 ≤ B i ∧ B i ≤ 5) (hI : ∀ i, rg (I i)) : Ct l yX7_findAs cX7_findAs 2 none rmX7_findAs [.ref 0, .ref 1] (mdM rf sz c r G T n le Hh li ac B I m Fi Co Br Wt mk gy sd rt lf wy sp ou)
    (fun z M => z = none ∧ ∃ B' I' Fi' Co' Br' Q' : Int → Int, M = (mdM rf sz c r G T n le Hh li ac (B') (I') (mny c r (fb c r T n G le)) (Fi') (Co') (Br') (Q') mk gy sd rt lf wy sp ou) ∧ JW c r (fb c r T n G le) B' I' (mny c r (fb c r T n G le)) Fi' Co') := by
  refine Ct.of miX7_findAs (Nat.le_of_ble_eq_true rfl) ?_
  intro X hXl hN ok
  refine AW.cast (L2 := [some (.ref 0), some (.ref 1)]) ?_ rfl rfl rfl
  refine a_aload_n (pc := 0) ok dX7_findAs_0 rfl ?_
  refine a_aload_n (pc := 1) ok dX7_findAs_1 rfl ?_
  refine a_aload_n (pc := 2) ok dX7_findAs_2 rfl ?_
  refine a_bipush (pc := 3) ok dX7_findAs_3 (by decide) ?_
  refine a_rldS (pc := 5) ok dX7_findAs_5 rfl ?_
  refine x_callV (pc := 6) ok [0, 1, 2, 3, 4, 5, 6, 7, 8, 9, 10, 11, 12, 13, 14, 15, 16] 10 dX7_findAs_6 mv7_113 miX7_find (c_find hd hn hT hs hG hle hB hI) ⟨by decide, by decide, rfl, rfl, Nat.zero_le _, Nat.zero_le _⟩ rfl rfl (Nat.le_of_ble_eq_true rfl) rfl rfl (by decide) rfl rfl (fun v M' h => by obtain ⟨_, _, _, _, _, _, _, h, _⟩ := h; rw [h]; rfl) ?_
  rintro _ M' ⟨rfl, B', I', Fi', Co', Br', Q', rfl, hJ⟩
  refine AW.cast (st2 := []) (M2 := (mdM rf sz c r G T n le Hh li ac (B') (I') (mny c r (fb c r T n G le)) (Fi') (Co') (Br') (Q') mk gy sd rt lf wy sp ou)) ?_ rfl rfl rfl
  exact a_vret (pc := 9) ok dX7_findAs_9 (⟨rfl, B', I', Fi', Co', Br', Q', rfl, hJ⟩)
end MD6
