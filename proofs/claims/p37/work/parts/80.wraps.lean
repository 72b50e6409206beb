/-! THE LAW: its wrappers, over any world of the class. Printed by wip/whole/gen/mk80.py. -/
theorem cast_nIA : Cond.castable nIA nIA ∈ xnL := List.mem_filter.mpr ⟨tb2 36 (by decide +kernel), rfl⟩
theorem cast_nIS : Cond.castable nIS nIS ∈ xnL := List.mem_filter.mpr ⟨tb2 108 (by decide +kernel), rfl⟩
theorem cast_nIO : Cond.castable nIO nIO ∈ xnL := List.mem_filter.mpr ⟨tb3 175 (by decide +kernel), rfl⟩
def hhL_append : List (Nat × Nat × Nat × Nat) := [(0, 9, 12, 13), (0, 9, 15, 15)]
def rwL_append : Room := { frames := 8, cells := 1, slots := 6, locals := 143 }
def hhL_load : List (Nat × Nat × Nat × Nat) := [(0, 8, 11, 15)]
def rwL_load : Room := { frames := 7, cells := 1, slots := 6, locals := 152 }
def hhL_about : List (Nat × Nat × Nat × Nat) := [(0, 9, 12, 13)]
def rwL_about : Room := { frames := 9, cells := 1, slots := 6, locals := 219 }
def hhL_cellOf : List (Nat × Nat × Nat × Nat) := [(0, 12, 15, 28), (0, 12, 19, 13)]
def rwL_cellOf : Room := { frames := 8, cells := 1, slots := 6, locals := 201 }
def hhL_thresholdAt : List (Nat × Nat × Nat × Nat) := [(0, 9, 12, 28)]
def rwL_thresholdAt : Room := { frames := 8, cells := 1, slots := 6, locals := 141 }
def hhL_island : List (Nat × Nat × Nat × Nat) := [(0, 10, 13, 28), (0, 10, 17, 13)]
def rwL_island : Room := { frames := 9, cells := 1, slots := 6, locals := 221 }
def hhL_border : List (Nat × Nat × Nat × Nat) := [(0, 10, 13, 28)]
def rwL_border : Room := { frames := 8, cells := 1, slots := 6, locals := 200 }
def hhL_outline : List (Nat × Nat × Nat × Nat) := [(0, 10, 13, 28), (0, 10, 17, 13)]
def rwL_outline : Room := { frames := 8, cells := 1, slots := 6, locals := 200 }
def hhL_outlineWay : List (Nat × Nat × Nat × Nat) := [(0, 10, 13, 28)]
def rwL_outlineWay : Room := { frames := 8, cells := 1, slots := 6, locals := 200 }
def hhL_band : List (Nat × Nat × Nat × Nat) := [(0, 10, 13, 28), (0, 10, 17, 13)]
def rwL_band : Room := { frames := 8, cells := 1, slots := 6, locals := 199 }
def hhL_plate : List (Nat × Nat × Nat × Nat) := [(0, 10, 13, 13)]
def rwL_plate : Room := { frames := 8, cells := 1, slots := 6, locals := 144 }
def hhL_cell : List (Nat × Nat × Nat × Nat) := [(0, 12, 15, 28), (0, 12, 19, 13)]
def rwL_cell : Room := { frames := 8, cells := 1, slots := 6, locals := 145 }
def hhL_box : List (Nat × Nat × Nat × Nat) := [(0, 16, 19, 28), (0, 16, 23, 13)]
def rwL_box : Room := { frames := 8, cells := 1, slots := 6, locals := 147 }
def hhL_threshold : List (Nat × Nat × Nat × Nat) := [(0, 10, 13, 13), (0, 10, 17, 15)]
def rwL_threshold : Room := { frames := 8, cells := 1, slots := 6, locals := 144 }
def hhL_share : List (Nat × Nat × Nat × Nat) := [(0, 9, 12, 13)]
def rwL_share : Room := { frames := 8, cells := 1, slots := 6, locals := 143 }
def hhL_least : List (Nat × Nat × Nat × Nat) := [(0, 9, 12, 13)]
def rwL_least : Room := { frames := 8, cells := 1, slots := 6, locals := 144 }
def hhL_hatch : List (Nat × Nat × Nat × Nat) := [(0, 10, 13, 28), (0, 10, 17, 13)]
def rwL_hatch : Room := { frames := 8, cells := 1, slots := 6, locals := 145 }
def hhL_line : List (Nat × Nat × Nat × Nat) := [(0, 9, 12, 13)]
def rwL_line : Room := { frames := 8, cells := 1, slots := 6, locals := 144 }
def hhL_spread : List (Nat × Nat × Nat × Nat) := [(0, 9, 12, 13)]
def rwL_spread : Room := { frames := 8, cells := 1, slots := 6, locals := 143 }
def hhL_noise : List (Nat × Nat × Nat × Nat) := [(0, 11, 14, 13)]
def rwL_noise : Room := { frames := 8, cells := 1, slots := 6, locals := 145 }
def hhL_undo : List (Nat × Nat × Nat × Nat) := [(0, 8, 11, 15)]
def rwL_undo : Room := { frames := 7, cells := 1, slots := 6, locals := 122 }
def hhL_ifLeast : List (Nat × Nat × Nat × Nat) := [(0, 10, 13, 13)]
def rwL_ifLeast : Room := { frames := 8, cells := 1, slots := 6, locals := 179 }
def hhL_leastFor : List (Nat × Nat × Nat × Nat) := [(0, 9, 12, 13)]
def rwL_leastFor : Room := { frames := 8, cells := 1, slots := 6, locals := 179 }
def hhL_bestMove : List (Nat × Nat × Nat × Nat) := [(0, 9, 12, 28)]
def rwL_bestMove : Room := { frames := 8, cells := 1, slots := 6, locals := 185 }
def hhL_ifCell : List (Nat × Nat × Nat × Nat) := [(0, 14, 17, 28), (0, 14, 21, 13)]
def rwL_ifCell : Room := { frames := 8, cells := 1, slots := 6, locals := 201 }
def hhL_runScript : List (Nat × Nat × Nat × Nat) := [(0, 11, 14, 13)]
def rwL_runScript : Room := { frames := 8, cells := 1, slots := 6, locals := 211 }
def hhL_simulate : List (Nat × Nat × Nat × Nat) := [(0, 11, 14, 13)]
def rwL_simulate : Room := { frames := 8, cells := 1, slots := 6, locals := 183 }
def hhL_save : List (Nat × Nat × Nat × Nat) := [(0, 9, 12, 28)]
def rwL_save : Room := { frames := 8, cells := 1, slots := 6, locals := 141 }
def hhL_restore : List (Nat × Nat × Nat × Nat) := [(0, 9, 12, 28), (0, 9, 15, 15)]
def rwL_restore : Room := { frames := 8, cells := 1, slots := 6, locals := 141 }
section WW1
variable {l : Launch} {M : List va_E} {fs : List Value} {fo : Int → Int} {P : List va_E → Prop}
end WW1
