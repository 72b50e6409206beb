/-! THE LAW: its loop. Printed by wip/p37/gen/mklaw.py. -/
section LO6
/-- what a turn comes to -/
theorem law_ob {A : Ob} (hA : VA A) (hB : VB A) {x : Int} (hx : 0 ≤ x ∧ x < 2147483648) : ∃ (z : Int) (A' A2 A3 A4 : Ob), rg z ∧ (VA A' ∧ VB A') ∧ (VA A3 ∧ VB A3) ∧ (VA A4 ∧ VB A4) ∧ ∀ {l : Launch}, l.stackTraces = false →
    (∀ M : List va_E, WO A M → CtV l yL_act cL_act 7 (some .int) rgL_act [.ref 0, iv x] M (po1 z A')) ∧ (∀ Mo Mq : List va_E, WO A' Mo → WO A' Mq → CtV l yL_leasts cL_leasts 8 (some .boolean) rgL_leasts [.ref 0, .ref 103, iv (1 + x / 7 % 30)] (W2 103 Mo Mq) (po2 1 A2 A2)) ∧
    (∀ Mo Mq : List va_E, WO A2 Mo → WO A2 Mq → CtV l yL_paints cL_paints 10 (some .boolean) rgL_paints [.ref 0, .ref 103, iv (x / 11)] (W2 103 Mo Mq) (po2 1 A3 A3)) ∧
    (∀ Mo Mq : List va_E, WO A3 Mo → WO A3 Mq → CtV l yL_moves cL_moves 14 (some .boolean) rgL_moves [.ref 0, .ref 103, iv (x / 13)] (W2 103 Mo Mq) (po2 1 A4 A4)) := by
  have hx11 : 0 ≤ x / 11 ∧ x / 11 < 2147483648 := by omega
  have hx13 : 0 ≤ x / 13 ∧ x / 13 < 2147483648 := by omega
  have hg9 : 0 ≤ x / 11 / 64 % 100 ∧ x / 11 / 64 % 100 ≤ 99 := by omega
  obtain ⟨z, A', hz, hA', hB', hact⟩ := H_act hA hB hx
  have hv : 1 ≤ 1 + x / 7 % 30 ∧ 1 + x / 7 % 30 ≤ 30 := by omega
  have hc1 := hA'.2.1
  have hA2 : VA (jUndo (jAct A' (setE (jS A') (1 + x / 7 % 30)))) := VA_undo (VA_act hA' (SV_setE hA'.1 hv)) (by show min (jC A' + 1) 14 ≠ 0; omega)
  have hB2 : VB (jUndo (jAct A' (setE (jS A') (1 + x / 7 % 30)))) := VB_undo (VB_act hB' (SB_setE hB'.1))
  have hc2 := hA2.2.1
  obtain ⟨A2, e2⟩ : ∃ A2, A2 = jUndo (jAct A' (setE (jS A') (1 + x / 7 % 30))) := ⟨_, rfl⟩
  rw [← e2] at hA2 hB2 hc2
  have hA3 : VA (jUndo (jAct A2 (gP (jS A2) (x / 11 % sC (jS A2)) (x / 11 / 8 % sR (jS A2)) (x / 11 / 64 % 100)))) := VA_undo (VA_act hA2 (SV_gP hA2.1 hg9)) (by show min (jC A2 + 1) 14 ≠ 0; omega)
  have hB3 : VB (jUndo (jAct A2 (gP (jS A2) (x / 11 % sC (jS A2)) (x / 11 / 8 % sR (jS A2)) (x / 11 / 64 % 100)))) := VB_undo (VB_act hB2 (SB_setG hB2.1))
  obtain ⟨A4, hA4, hB4, hmov⟩ := H_moves hA3 hB3 hx13
  exact ⟨z, A', A2, _, A4, hz, ⟨hA', hB'⟩, ⟨hA3, hB3⟩, ⟨hA4, hB4⟩, fun hl => ⟨fun M h => hact hl h, fun Mo Mq h1 h2 => by rw [e2]; exact H_leasts hl hA' h1 h2 hv, fun Mo Mq h1 h2 => H_paints hl hA2 h1 h2 hx11, fun Mo Mq h1 h2 => hmov hl h1 h2⟩⟩
theorem lawLoop {X : Cx} {b L : Nat} {xs : Nat → Int32} (gk : GK X cL_law RL (some .boolean) room_1 (fun _ _ => False) 600086 7301442 206) (ex : EX X) (hN : nLof X = 8) (hl : X.1.2.1.stackTraces = false) (sc : SCR X b L xs) (hL : L ≤ 3072) (fin : FIN X) {t : Int} (ht : 6 ≤ t ∧ t ≤ 14) : ∀ d j : Nat, (j : Int) + d = t → ∀ (A : Ob) (Mo Mq : List va_E) (a6 a7 : Option Value), VA A → VB A → WO A Mo → WO A Mq → AW X (300 + 5300 * j) (30000 + 42000 * j) 34 (lwL t (j : Int) a6 a7) [] (W2 103 Mo Mq) := by
  have ok := gk.ok
  intro d
  induction d with
  | zero =>
    intro j hj A Mo Mq a6 a7 hA hB hWo hWq
    refine a_iload (pc := 34) ok dL_law_34 rfl ?_
    refine a_iload_n (pc := 36) ok dL_law_36 rfl ?_
    refine a_icmp_ge (pc := 37) (tgt := 199) ok dL_law_37 (by decide) (by first | omega | (unfold rg; omega)) (by first | omega | (unfold rg; omega)) (fun c37 => ?_) (fun c37 => ?_)
    · refine a_iload (pc := 199) ok dL_law_199 rfl ?_
      refine AW.widen (kc2 := 600086) (ks2 := 7301442) (by omega) (by omega) ?_
      exact FIN_X fin
    · exfalso; first | omega | grind
  | succ d ih =>
    intro j hj A Mo Mq a6 a7 hA hB hWo hWq
    have hx := cx_rg L xs (1 + (j : Int))
    have hcell : CtC X.1.2.1 yL_cell cL_cell 2 (some .int) rgL_cell b L xs (1 + (j : Int)) (cx L xs (1 + (j : Int))) := C_cell hl hL (by omega)
    generalize cx L xs (1 + (j : Int)) = x at hx hcell
    obtain ⟨z, A', A2, A3, A4, hz, ⟨hA', hB'⟩, ⟨hA3, hB3⟩, ⟨hA4, hB4⟩, hh⟩ := law_ob hA hB hx
    obtain ⟨hact, hlea, hpai, hmov⟩ := hh hl
    have ej : ((j + 1 : Nat) : Int) = (j : Int) + 1 := by omega
    have nxt : ∀ (A5 : Ob) (Mo Mq : List va_E), VA A5 → VB A5 → WO A5 Mo → WO A5 Mq → AW X (300 + 5300 * j + 5100 + 100) (30000 + 42000 * j + 41000 + 600) 186 [some (.ref 4095), some (.ref 0), some (.ref 103), some (iv t), some (iv 1), some (iv (j : Int)), some (iv x), some (iv z)] [] (W2 103 Mo Mq) := by
      intro A5 Mo Mq hA5 hB5 hWo hWq
      refine law_nxt gk ex hN hl (by omega) (AW.widen (kc2 := 300 + 5300 * (j + 1)) (ks2 := 30000 + 42000 * (j + 1)) (by omega) (by omega) ?_) (b := b) (L := L) (xs := xs)
      have q := ih (j + 1) (by omega) A5 Mo Mq (some (iv x)) (some (iv z)) hA5 hB5 hWo hWq
      rw [ej] at q
      exact q
    exact law_34 gk ex hN hl sc (by omega) (by omega) (by omega) hx hz hA hWo hWq hA' hcell hact (fun M h => H_holds hl hA' hB' h)
      (fun Mo Mq hWo hWq => law_134 gk ex hN hl (b := b) (L := L) (xs := xs) (by omega) (by omega) (by omega) hx hWo hWq hlea hpai hmov (fun Mo Mq h1 h2 => nxt A3 Mo Mq hA3 hB3 h1 h2) (fun Mo Mq h1 h2 => nxt A4 Mo Mq hA4 hB4 h1 h2))
end LO6
