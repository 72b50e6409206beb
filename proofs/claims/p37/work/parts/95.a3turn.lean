/-! THE LAW: a turn's end. Printed by wip/p37/gen/mklaw.py. -/
section LO8
theorem law_nxt {X : Cx} {b L : Nat} {xs : Nat → Int32} (gk : GK X cL_law RL (some .boolean) room_1 (fun _ _ => False) 600086 7301442 206) (ex : EX X) (hN : nLof X = 8) (hl : X.1.2.1.stackTraces = false) {t : Int} {j : Nat} (ht : 0 ≤ (j : Int) ∧ (j : Int) ≤ 14) {M : List va_E} {a6 a7 : Option Value} {u v : Nat} (k : AW X u v 34 [some (.ref 4095), some (.ref 0), some (.ref 103), some (iv t), some (iv 1), some (iv ((j : Int) + 1)), a6, a7] [] M) : AW X u v 186 [some (.ref 4095), some (.ref 0), some (.ref 103), some (iv t), some (iv 1), some (iv (j : Int)), a6, a7] [] M := by
  have ok := gk.ok
  refine a_iconst (pc := 186) ok dL_law_186 ?_
  refine a_goto (pc := 187) (tgt := 191) ok dL_law_187 (by decide) ?_
  refine a_istore (pc := 191) ok dL_law_191 rfl (by rw [hN]; decide) ?_
  refine a_iinc (pc := 193) ok dL_law_193 rfl rfl (by rw [hN]; decide) ?_
  refine a_goto (pc := 196) (tgt := 34) ok dL_law_196 (by decide) ?_
  exact k
theorem law_134 {X : Cx} {b L : Nat} {xs : Nat → Int32} (gk : GK X cL_law RL (some .boolean) room_1 (fun _ _ => False) 600086 7301442 206) (ex : EX X) (hN : nLof X = 8) (hl : X.1.2.1.stackTraces = false) {t : Int} {j kc ks : Nat} (hj : (j : Int) ≤ 14) (hkc : kc ≤ 500000) (hks : ks ≤ 7000000) {A A2 A3 A4 : Ob} {x : Int} (hx : 0 ≤ x ∧ x < 2147483648) {Mo Mq : List va_E} (hWo : WO A Mo) (hWq : WO A Mq) {a7 : Option Value}
    (hlea : ∀ Mo Mq : List va_E, WO A Mo → WO A Mq → CtV X.1.2.1 yL_leasts cL_leasts 8 (some .boolean) rgL_leasts [.ref 0, .ref 103, iv (1 + x / 7 % 30)] (W2 103 Mo Mq) (po2 1 A2 A2))
    (hpai : ∀ Mo Mq : List va_E, WO A2 Mo → WO A2 Mq → CtV X.1.2.1 yL_paints cL_paints 10 (some .boolean) rgL_paints [.ref 0, .ref 103, iv (x / 11)] (W2 103 Mo Mq) (po2 1 A3 A3))
    (hmov : ∀ Mo Mq : List va_E, WO A3 Mo → WO A3 Mq → CtV X.1.2.1 yL_moves cL_moves 14 (some .boolean) rgL_moves [.ref 0, .ref 103, iv (x / 13)] (W2 103 Mo Mq) (po2 1 A4 A4))
    (k3 : ∀ Mo Mq : List va_E, WO A3 Mo → WO A3 Mq → AW X (kc + 100) (ks + 600) 186 [some (.ref 4095), some (.ref 0), some (.ref 103), some (iv t), some (iv 1), some (iv (j : Int)), some (iv x), a7] [] (W2 103 Mo Mq)) (k4 : ∀ Mo Mq : List va_E, WO A4 Mo → WO A4 Mq → AW X (kc + 100) (ks + 600) 186 [some (.ref 4095), some (.ref 0), some (.ref 103), some (iv t), some (iv 1), some (iv (j : Int)), some (iv x), a7] [] (W2 103 Mo Mq)) : AW X kc ks 134 [some (.ref 4095), some (.ref 0), some (.ref 103), some (iv t), some (iv 1), some (iv (j : Int)), some (iv x), a7] [] (W2 103 Mo Mq) := by
  have ok := gk.ok
  refine a_aload_n (pc := 134) ok dL_law_134 rfl ?_
  refine a_aload_n (pc := 135) ok dL_law_135 rfl ?_
  refine a_iconst (pc := 136) ok dL_law_136 ?_
  refine a_iload (pc := 137) ok dL_law_137 rfl ?_
  refine a_bipush (pc := 139) ok dL_law_139 (by decide) ?_
  refine a_idiv (pc := 141) ok dL_law_141 (by omega) (by omega) ?_
  refine a_bipush (pc := 142) ok dL_law_142 (by decide) ?_
  refine a_irem (pc := 144) ok dL_law_144 (by omega) (by omega) ?_
  refine a_iadd (pc := 145) ok dL_law_145 ?_
  refine v_w (pc := 146) ok ex gk.1 dL_law_146 (ug5 72 (by decide +kernel) rfl) (ug5 73 (by decide +kernel) rfl) miL_leasts hWo hWq (hlea _ _ hWo hWq) ⟨by decide, by decide⟩ ⟨by show kc + 20 ≤ 600086; omega, by show ks + 120 ≤ 7301442; omega⟩ rfl rfl (Nat.le_of_ble_eq_true rfl) ?_
  intro Mo Mq hWo hWq
  refine a_if_eq (pc := 149) (tgt := 190) ok dL_law_149 (by decide) (by first | omega | (unfold rg; omega)) (fun c149 => ?_) (fun c149 => ?_)
  · exfalso; first | omega | grind
  · refine a_aload_n (pc := 152) ok dL_law_152 rfl ?_
    refine a_aload_n (pc := 153) ok dL_law_153 rfl ?_
    refine a_iload (pc := 154) ok dL_law_154 rfl ?_
    refine a_bipush (pc := 156) ok dL_law_156 (by decide) ?_
    refine a_idiv (pc := 158) ok dL_law_158 (by omega) (by omega) ?_
    refine v_w (pc := 159) ok ex gk.1 dL_law_159 (ug5 78 (by decide +kernel) rfl) (ug5 79 (by decide +kernel) rfl) miL_paints hWo hWq (hpai _ _ hWo hWq) ⟨by decide, by decide⟩ ⟨by show kc + 20 + 24 ≤ 600086; omega, by show ks + 120 + 144 ≤ 7301442; omega⟩ rfl rfl (Nat.le_of_ble_eq_true rfl) ?_
    intro Mo Mq hWo hWq
    refine a_if_eq (pc := 162) (tgt := 190) ok dL_law_162 (by decide) (by first | omega | (unfold rg; omega)) (fun c162 => ?_) (fun c162 => ?_)
    · exfalso; first | omega | grind
    · refine a_iload (pc := 165) ok dL_law_165 rfl ?_
      refine a_iconst (pc := 167) ok dL_law_167 ?_
      refine a_irem (pc := 168) ok dL_law_168 (by omega) (by omega) ?_
      refine a_iconst (pc := 169) ok dL_law_169 ?_
      refine a_icmp_ne (pc := 170) (tgt := 186) ok dL_law_170 (by decide) (by first | omega | (unfold rg; omega)) (by first | omega | (unfold rg; omega)) (fun c170 => ?_) (fun c170 => ?_)
      · refine AW.widen (kc2 := kc + 100) (ks2 := ks + 600) (by show kc + 20 + 24 ≤ _; omega) (by show ks + 120 + 144 ≤ _; omega) ?_
        exact k3 _ _ hWo hWq
      · refine a_aload_n (pc := 173) ok dL_law_173 rfl ?_
        refine a_aload_n (pc := 174) ok dL_law_174 rfl ?_
        refine a_iload (pc := 175) ok dL_law_175 rfl ?_
        refine a_bipush (pc := 177) ok dL_law_177 (by decide) ?_
        refine a_idiv (pc := 179) ok dL_law_179 (by omega) (by omega) ?_
        refine v_w (pc := 180) ok ex gk.1 dL_law_180 (ug5 81 (by decide +kernel) rfl) (ug5 82 (by decide +kernel) rfl) miL_moves hWo hWq (hmov _ _ hWo hWq) ⟨by decide, by decide⟩ ⟨by show kc + 20 + 24 + 40 ≤ 600086; omega, by show ks + 120 + 144 + 240 ≤ 7301442; omega⟩ rfl rfl (Nat.le_of_ble_eq_true rfl) ?_
        intro Mo Mq hWo hWq
        refine a_if_eq (pc := 183) (tgt := 190) ok dL_law_183 (by decide) (by first | omega | (unfold rg; omega)) (fun c183 => ?_) (fun c183 => ?_)
        · exfalso; first | omega | grind
        · refine AW.widen (kc2 := kc + 100) (ks2 := ks + 600) (by show kc + 20 + 24 + 40 ≤ _; omega) (by show ks + 120 + 144 + 240 ≤ _; omega) ?_
          exact k4 _ _ hWo hWq
end LO8
