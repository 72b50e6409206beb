/-! THE LAW: what 'about' tells, at last; the small methods. -/
section AB1
variable {l : Launch} {A : Ob} {M : List va_E}
def VB (A : Ob) : Prop := SB (jS A) ∧ (∀ i, SB (jG A i)) ∧ SB (j0 A) ∧ SB (j1 A)
theorem ctv_eq {y : MethodName} {cc2 : ByteArray} {nL2 : Nat} {ret2 : Option FieldType} {rm2 : Room} {av2 : List Value} {A' : Ob} {z z2 : Int} (e : z = z2) (ct : CtV l y cc2 nL2 ret2 rm2 av2 M (po1 z A')) : CtV l y cc2 nL2 ret2 rm2 av2 M (po1 z2 A') := e ▸ ct
theorem ctw_eq {y : MethodName} {cc2 : ByteArray} {nL2 : Nat} {ret2 : Option FieldType} {hh : List (Nat × Nat × Nat × Nat)} {rm2 : Room} {av2 : List Value} {A' : Ob} {z z2 : Int} (e : z = z2) (ct : CtW l y cc2 nL2 ret2 hh rm2 av2 M (po1 z A')) : CtW l y cc2 nL2 ret2 hh rm2 av2 M (po1 z2 A') := e ▸ ct
theorem ABg (hl : l.stackTraces = false) (hA : VA A) (hW : WO A M) {k u2 u3 : Int} (hk : 0 ≤ k ∧ k ≤ 10) : CtV l yL_call cL_call 5 (some .int) rgL_call [.ref 0, iv 2, iv k, iv u2, iv u3] M (po1 (w32 (aAbout (jS A) k)) A) := ctv_ok (by unfold kIn; rw [if_pos hk]) (C_2 hl hA hW (by unfold rg; omega))
theorem VA_d (hA : VA A) : (1 ≤ sC (jS A) ∧ sC (jS A) ≤ 12) ∧ (1 ≤ sR (jS A) ∧ sR (jS A) ≤ 12) ∧ (0 ≤ (sN (jS A) : Int) ∧ (sN (jS A) : Int) ≤ 5) ∧ (1 ≤ sE (jS A) ∧ sE (jS A) ≤ 30) ∧ (1 ≤ mS (jS A) ∧ mS (jS A) ≤ 144) := by
  obtain ⟨h1, -, -, -, h5, h6⟩ := hA.1
  have hm := mny_1 (B := bS (jS A)) h1
  obtain ⟨d1, d2, d3, d4⟩ := h1
  exact ⟨⟨d1, d2⟩, ⟨d3, d4⟩, ⟨by omega, by omega⟩, h6, hm⟩
theorem AB0 (hl : l.stackTraces = false) (hA : VA A) (hW : WO A M) {u2 u3 : Int} : CtV l yL_call cL_call 5 (some .int) rgL_call [.ref 0, iv 2, iv 0, iv u2, iv u3] M (po1 (sC (jS A)) A) := ctv_eq (w_id (by have := VA_d hA; unfold rg; show -2147483648 ≤ sC (jS A) ∧ sC (jS A) < 2147483648; omega)) (ABg hl hA hW (by omega))
theorem AB1 (hl : l.stackTraces = false) (hA : VA A) (hW : WO A M) {u2 u3 : Int} : CtV l yL_call cL_call 5 (some .int) rgL_call [.ref 0, iv 2, iv 1, iv u2, iv u3] M (po1 (sR (jS A)) A) := ctv_eq (w_id (by have := VA_d hA; unfold rg; show -2147483648 ≤ sR (jS A) ∧ sR (jS A) < 2147483648; omega)) (ABg hl hA hW (by omega))
theorem AB2 (hl : l.stackTraces = false) (hA : VA A) (hW : WO A M) {u2 u3 : Int} : CtV l yL_call cL_call 5 (some .int) rgL_call [.ref 0, iv 2, iv 2, iv u2, iv u3] M (po1 (sN (jS A) : Int) A) := ctv_eq (w_id (by have := VA_d hA; unfold rg; show -2147483648 ≤ (sN (jS A) : Int) ∧ (sN (jS A) : Int) < 2147483648; omega)) (ABg hl hA hW (by omega))
theorem AB3 (hl : l.stackTraces = false) (hA : VA A) (hW : WO A M) {u2 u3 : Int} : CtV l yL_call cL_call 5 (some .int) rgL_call [.ref 0, iv 2, iv 3, iv u2, iv u3] M (po1 (sE (jS A)) A) := ctv_eq (w_id (by have := VA_d hA; unfold rg; show -2147483648 ≤ sE (jS A) ∧ sE (jS A) < 2147483648; omega)) (ABg hl hA hW (by omega))
theorem AB4 (hl : l.stackTraces = false) (hA : VA A) (hW : WO A M) {u2 u3 : Int} : CtV l yL_call cL_call 5 (some .int) rgL_call [.ref 0, iv 2, iv 4, iv u2, iv u3] M (po1 (mS (jS A)) A) := ctv_eq (w_id (by have := VA_d hA; unfold rg; show -2147483648 ≤ mS (jS A) ∧ mS (jS A) < 2147483648; omega)) (ABg hl hA hW (by omega))
end AB1
