/-! CONSTRUCTORS: the Model. Printed by wip/whole/gen/mk85.py. -/
section CT4
variable {l : Launch}
def rgX7_init : Room := { frames := 2, cells := 15, slots := 4298, locals := 60 }
abbrev Z00 : St := (0, 0, zz, zz, 0, 0, zz, 0)
theorem row_zz : rowS Z00 = zz := by
  funext j
  show (if j = 0 then (0 : Int) else if j = 1 then 0 else if j = 2 then 0 else if j < 8 then 0 else if j = 8 then 0 else if j < 15 then 0 else if j = 15 then 0 else 0) = 0
  repeat' split
  all_goals rfl
abbrev N7 : List va_E := [ob 7 [iv 0, .ref 1, iv 0, .ref 2, .ref 3, .ref 4, iv 0, .ref 5, .ref 6, .ref 7, .ref 8, iv 0, .ref 9, .ref 10, .ref 11, .ref 12, .ref 13, .ref 14, .ref 15, iv 0, iv 0, iv 0, iv 0, iv 0, iv 0], ia 120 zz, ia 160 (rowS S00), ia 160 (rowS Z00), ia 2240 zz, ia 320 zz, za 2 zz, ia 144 zz, ia 144 zz, ia 144 zz, ia 144 zz, ia 144 zz, ia 144 zz, ia 144 zz, ia 144 zz, ia 144 zz]
theorem kN7 : kcM 16 N7 := (by repeat' (first | exact True.intro | exact rfl | refine ⟨?_, ?_⟩))
end CT4
