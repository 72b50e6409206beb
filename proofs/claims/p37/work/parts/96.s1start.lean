/-! THE LAW: its start. Printed by wip/p37/gen/mkend.py. -/
abbrev N6f (Rg Rs : Nat → Option Nat) : List va_E := ob 6 [.ref 1, .ref 3, .ref 7, .ref 65, .ref 66, .ref 67, .ref 75, iv 0, iv 0, .ref 81, .ref 85, .ref 93, .ref 94] :: (txA 1 0 zz ++ (stS 3 S00 ++ (mmA 7 Rg 0 0 (fun _ => S00) ++ ([qa 2 Rs] ++ ([za 2 zz] ++ (isA 67 1 1 1 0 zz zz zz zz zz zz zz ++ (nsA 75 zz zz zz zz zz ++ (stS 81 S00 ++ (isA 85 1 1 1 0 zz zz zz zz zz zz zz ++ ([ob 3 [iv 0, iv 0, iv 0, iv (-1)]] ++ ([ia 144 zz] ++ (stS 95 S00 ++ (stS 99 S00)))))))))))))
theorem N6_re : N6.map (re (List.range' 0 103)) = N6 := by
  have e1 := ring_eq 7 7 (List.range' 0 103) (by decide)
  have e2 := slot_eq 95 95 (List.range' 0 103) (by decide)
  show N6f (fun i => (ringP 7 i).map (rn (List.range' 0 103))) (fun i => (slotP 95 i).map (rn (List.range' 0 103))) = N6f (ringP 7) (slotP 95)
  rw [e1, e2]
theorem SV00 : SV S00 := SV_st0 (fun _ => ⟨Int.le_refl _, by show (0 : Int) ≤ 99; omega⟩) (by unfold dim; omega)
abbrev O00 : Ob := (S00, 0, 0, (fun _ => S00), S00, S00, zz)
theorem VA00 : VA O00 := ⟨SV00, ⟨Int.le_refl _, by show (0 : Int) ≤ 14; omega⟩, ⟨Int.le_refl _, by show (0 : Int) < 14; omega⟩, fun _ => SV00, SV00, SV00, fun _ => ⟨Int.le_refl _, by show (0 : Int) ≤ 1; omega⟩⟩
theorem VB00 : VB O00 := ⟨SB_00, fun _ => SB_00, SB_00, SB_00⟩
theorem WO00 : WO O00 N6 := ⟨0, 0, 0, zz, 1, 1, 1, 0, zz, zz, zz, zz, zz, zz, zz, zz, zz, zz, zz, zz, S00, 1, 1, 1, 0, zz, zz, zz, zz, zz, zz, zz, 0, 0, 0, (-1), zz, rfl, ⟨⟨⟨fun _ => ⟨Int.le_refl _, by show (0 : Int) ≤ 5; omega⟩, fun _ => r_0, fun _ => r_0⟩, Or.inl rfl⟩, Or.inl rfl⟩, ⟨fun _ => ⟨Int.le_refl _, by show (0 : Int) ≤ 5; omega⟩, fun _ => r_0, fun _ => r_0⟩, by omega, by omega⟩
