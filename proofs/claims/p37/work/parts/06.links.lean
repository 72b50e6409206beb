/-! LINKS: printed by wip/p37/gen/mk06.py out of the tables words. -/
theorem ug0 (i : Nat) {w : Cond} (h : (k2_sels lw_privs)[i]? = some w) (g : goodWord w = true) : w ∈ UG := List.mem_filter.mpr ⟨List.mem_append_left _ (List.mem_of_getElem? h), g⟩
theorem tb1 (i : Nat) {w : Cond} (h : tables_1_1[i]? = some w) : w ∈ tables_1 := by unfold tables_1; exact List.mem_append_left _ (List.mem_of_getElem? h)
theorem ug1 (i : Nat) {w : Cond} (h : tables_1_1[i]? = some w) (g : goodWord w = true) : w ∈ UG := List.mem_filter.mpr ⟨List.mem_append_right _ (tb1 i h), g⟩
theorem nw1 (i : Nat) {w : Cond} (h : tables_1_1[i]? = some w) (g : isNest w = true) : w ∈ nwL := List.mem_filter.mpr ⟨tb1 i h, g⟩
theorem tb2 (i : Nat) {w : Cond} (h : tables_1_2[i]? = some w) : w ∈ tables_1 := by unfold tables_1; exact List.mem_append_right _ (List.mem_append_left _ (List.mem_of_getElem? h))
theorem ug2 (i : Nat) {w : Cond} (h : tables_1_2[i]? = some w) (g : goodWord w = true) : w ∈ UG := List.mem_filter.mpr ⟨List.mem_append_right _ (tb2 i h), g⟩
theorem nw2 (i : Nat) {w : Cond} (h : tables_1_2[i]? = some w) (g : isNest w = true) : w ∈ nwL := List.mem_filter.mpr ⟨tb2 i h, g⟩
theorem tb3 (i : Nat) {w : Cond} (h : tables_1_3[i]? = some w) : w ∈ tables_1 := by unfold tables_1; exact List.mem_append_right _ (List.mem_append_right _ (List.mem_append_left _ (List.mem_of_getElem? h)))
theorem ug3 (i : Nat) {w : Cond} (h : tables_1_3[i]? = some w) (g : goodWord w = true) : w ∈ UG := List.mem_filter.mpr ⟨List.mem_append_right _ (tb3 i h), g⟩
theorem nw3 (i : Nat) {w : Cond} (h : tables_1_3[i]? = some w) (g : isNest w = true) : w ∈ nwL := List.mem_filter.mpr ⟨tb3 i h, g⟩
theorem tb4 (i : Nat) {w : Cond} (h : tables_1_4[i]? = some w) : w ∈ tables_1 := by unfold tables_1; exact List.mem_append_right _ (List.mem_append_right _ (List.mem_append_right _ (List.mem_append_left _ (List.mem_of_getElem? h))))
theorem ug4 (i : Nat) {w : Cond} (h : tables_1_4[i]? = some w) (g : goodWord w = true) : w ∈ UG := List.mem_filter.mpr ⟨List.mem_append_right _ (tb4 i h), g⟩
theorem nw4 (i : Nat) {w : Cond} (h : tables_1_4[i]? = some w) (g : isNest w = true) : w ∈ nwL := List.mem_filter.mpr ⟨tb4 i h, g⟩
theorem tb5 (i : Nat) {w : Cond} (h : tables_1_5[i]? = some w) : w ∈ tables_1 := by unfold tables_1; exact List.mem_append_right _ (List.mem_append_right _ (List.mem_append_right _ (List.mem_append_right _ (List.mem_of_getElem? h))))
theorem ug5 (i : Nat) {w : Cond} (h : tables_1_5[i]? = some w) (g : goodWord w = true) : w ∈ UG := List.mem_filter.mpr ⟨List.mem_append_right _ (tb5 i h), g⟩
theorem nw5 (i : Nat) {w : Cond} (h : tables_1_5[i]? = some w) (g : isNest w = true) : w ∈ nwL := List.mem_filter.mpr ⟨tb5 i h, g⟩
theorem inX0 : ∀ w ∈ u_ws RX0 TX0 11, w ∈ UG := by
  intro w hw
  obtain ⟨k, hk, rfl⟩ := List.mem_map.mp hw
  have hk := List.mem_range.mp hk
  match k, hk with
  | 0, _ => exact ug1 136 (by decide +kernel) (by decide +kernel)
  | 1, _ => exact ug1 138 (by decide +kernel) (by decide +kernel)
  | 2, _ => exact ug1 140 (by decide +kernel) (by decide +kernel)
  | 3, _ => exact ug1 142 (by decide +kernel) (by decide +kernel)
  | 4, _ => exact ug1 144 (by decide +kernel) (by decide +kernel)
  | 5, _ => exact ug1 146 (by decide +kernel) (by decide +kernel)
  | 6, _ => exact ug1 148 (by decide +kernel) (by decide +kernel)
  | 7, _ => exact ug1 150 (by decide +kernel) (by decide +kernel)
  | 8, _ => exact ug1 152 (by decide +kernel) (by decide +kernel)
  | 9, _ => exact ug1 154 (by decide +kernel) (by decide +kernel)
  | 10, _ => exact ug1 156 (by decide +kernel) (by decide +kernel)
  | k + 11, h => exact absurd h (by omega)
theorem inX1 : ∀ w ∈ u_ws RX1 TX1 3, w ∈ UG := by
  intro w hw
  obtain ⟨k, hk, rfl⟩ := List.mem_map.mp hw
  have hk := List.mem_range.mp hk
  match k, hk with
  | 0, _ => exact ug1 107 (by decide +kernel) (by decide +kernel)
  | 1, _ => exact ug1 109 (by decide +kernel) (by decide +kernel)
  | 2, _ => exact ug1 111 (by decide +kernel) (by decide +kernel)
  | k + 3, h => exact absurd h (by omega)
theorem inX2 : ∀ w ∈ u_ws RX2 TX2 5, w ∈ UG := by
  intro w hw
  obtain ⟨k, hk, rfl⟩ := List.mem_map.mp hw
  have hk := List.mem_range.mp hk
  match k, hk with
  | 0, _ => exact ug1 174 (by decide +kernel) (by decide +kernel)
  | 1, _ => exact ug1 176 (by decide +kernel) (by decide +kernel)
  | 2, _ => exact ug1 178 (by decide +kernel) (by decide +kernel)
  | 3, _ => exact ug1 180 (by decide +kernel) (by decide +kernel)
  | 4, _ => exact ug1 182 (by decide +kernel) (by decide +kernel)
  | k + 5, h => exact absurd h (by omega)
theorem inX3 : ∀ w ∈ u_ws RX3 TX3 4, w ∈ UG := by
  intro w hw
  obtain ⟨k, hk, rfl⟩ := List.mem_map.mp hw
  have hk := List.mem_range.mp hk
  match k, hk with
  | 0, _ => exact ug1 199 (by decide +kernel) (by decide +kernel)
  | 1, _ => exact ug1 201 (by decide +kernel) (by decide +kernel)
  | 2, _ => exact ug1 203 (by decide +kernel) (by decide +kernel)
  | 3, _ => exact ug1 205 (by decide +kernel) (by decide +kernel)
  | k + 4, h => exact absurd h (by omega)
theorem inX4 : ∀ w ∈ u_ws RX4 TX4 8, w ∈ UG := by
  intro w hw
  obtain ⟨k, hk, rfl⟩ := List.mem_map.mp hw
  have hk := List.mem_range.mp hk
  match k, hk with
  | 0, _ => exact ug1 77 (by decide +kernel) (by decide +kernel)
  | 1, _ => exact ug1 79 (by decide +kernel) (by decide +kernel)
  | 2, _ => exact ug1 81 (by decide +kernel) (by decide +kernel)
  | 3, _ => exact ug1 83 (by decide +kernel) (by decide +kernel)
  | 4, _ => exact ug1 85 (by decide +kernel) (by decide +kernel)
  | 5, _ => exact ug1 87 (by decide +kernel) (by decide +kernel)
  | 6, _ => exact ug1 89 (by decide +kernel) (by decide +kernel)
  | 7, _ => exact ug1 91 (by decide +kernel) (by decide +kernel)
  | k + 8, h => exact absurd h (by omega)
theorem inX5 : ∀ w ∈ u_ws RX5 TX5 2, w ∈ UG := by
  intro w hw
  obtain ⟨k, hk, rfl⟩ := List.mem_map.mp hw
  have hk := List.mem_range.mp hk
  match k, hk with
  | 0, _ => exact ug1 34 (by decide +kernel) (by decide +kernel)
  | 1, _ => exact ug1 36 (by decide +kernel) (by decide +kernel)
  | k + 2, h => exact absurd h (by omega)
theorem inX6 : ∀ w ∈ u_ws RX6 TX6 13, w ∈ UG := by
  intro w hw
  obtain ⟨k, hk, rfl⟩ := List.mem_map.mp hw
  have hk := List.mem_range.mp hk
  match k, hk with
  | 0, _ => exact ug1 221 (by decide +kernel) (by decide +kernel)
  | 1, _ => exact ug1 223 (by decide +kernel) (by decide +kernel)
  | 2, _ => exact ug1 225 (by decide +kernel) (by decide +kernel)
  | 3, _ => exact ug1 227 (by decide +kernel) (by decide +kernel)
  | 4, _ => exact ug1 229 (by decide +kernel) (by decide +kernel)
  | 5, _ => exact ug1 231 (by decide +kernel) (by decide +kernel)
  | 6, _ => exact ug1 233 (by decide +kernel) (by decide +kernel)
  | 7, _ => exact ug1 235 (by decide +kernel) (by decide +kernel)
  | 8, _ => exact ug1 237 (by decide +kernel) (by decide +kernel)
  | 9, _ => exact ug1 239 (by decide +kernel) (by decide +kernel)
  | 10, _ => exact ug2 1 (by decide +kernel) (by decide +kernel)
  | 11, _ => exact ug2 3 (by decide +kernel) (by decide +kernel)
  | 12, _ => exact ug2 5 (by decide +kernel) (by decide +kernel)
  | k + 13, h => exact absurd h (by omega)
theorem fl6_10 : FL RX6 10 6 0 := ⟨RX6, TX6, 13, rfl, inX6, by decide, rfl, (Or.inl (ug1 208 (by decide +kernel) rfl))⟩
theorem fl6_19 : FL RX6 19 6 1 := ⟨RX6, TX6, 13, rfl, inX6, by decide, rfl, (Or.inl (ug1 209 (by decide +kernel) rfl))⟩
theorem fl6_26 : FL RX6 26 6 2 := ⟨RX6, TX6, 13, rfl, inX6, by decide, rfl, (Or.inl (ug1 210 (by decide +kernel) rfl))⟩
theorem fl6_30 : FL RX6 30 6 3 := ⟨RX6, TX6, 13, rfl, inX6, by decide, rfl, (Or.inl (ug1 211 (by decide +kernel) rfl))⟩
theorem fl6_34 : FL RX6 34 6 4 := ⟨RX6, TX6, 13, rfl, inX6, by decide, rfl, (Or.inl (ug1 212 (by decide +kernel) rfl))⟩
theorem fl6_41 : FL RX6 41 6 5 := ⟨RX6, TX6, 13, rfl, inX6, by decide, rfl, (Or.inl (ug1 213 (by decide +kernel) rfl))⟩
theorem fl6_48 : FL RX6 48 6 6 := ⟨RX6, TX6, 13, rfl, inX6, by decide, rfl, (Or.inl (ug1 214 (by decide +kernel) rfl))⟩
theorem fl6_52 : FL RX6 52 6 7 := ⟨RX6, TX6, 13, rfl, inX6, by decide, rfl, (Or.inl (ug1 215 (by decide +kernel) rfl))⟩
theorem fp6_52 : FP RX6 52 6 7 .boolean := ⟨RX6, TX6, 13, tyX6, rfl, inX6, by decide, rfl, tyX6_ok, nmX6, rfl, by decide +kernel, (Or.inl (ug1 215 (by decide +kernel) rfl))⟩
theorem fl6_56 : FL RX6 56 6 8 := ⟨RX6, TX6, 13, rfl, inX6, by decide, rfl, (Or.inl (ug1 216 (by decide +kernel) rfl))⟩
theorem fp6_56 : FP RX6 56 6 8 .boolean := ⟨RX6, TX6, 13, tyX6, rfl, inX6, by decide, rfl, tyX6_ok, nmX6, rfl, by decide +kernel, (Or.inl (ug1 216 (by decide +kernel) rfl))⟩
theorem fl6_59 : FL RX6 59 6 9 := ⟨RX6, TX6, 13, rfl, inX6, by decide, rfl, (Or.inl (ug1 217 (by decide +kernel) rfl))⟩
theorem fl6_62 : FL RX6 62 6 10 := ⟨RX6, TX6, 13, rfl, inX6, by decide, rfl, (Or.inl (ug1 218 (by decide +kernel) rfl))⟩
theorem fl6_68 : FL RX6 68 6 11 := ⟨RX6, TX6, 13, rfl, inX6, by decide, rfl, (Or.inl (ug1 219 (by decide +kernel) rfl))⟩
theorem fl6_72 : FL RX6 72 6 12 := ⟨RX6, TX6, 13, rfl, inX6, by decide, rfl, (Or.inl (ug1 220 (by decide +kernel) rfl))⟩
theorem fl6_120 : FL RX6 120 5 1 := ⟨RX5, TX5, 2, rfl, inX5, by decide, rfl, (Or.inr ⟨_, nw1 33 (w := .fieldLinkNest RX6 120 RX5 "length" "I" "BandEngraver") (by decide +kernel) rfl⟩)⟩
theorem fl6_156 : FL RX6 156 4 0 := ⟨RX4, TX4, 8, rfl, inX4, by decide, rfl, (Or.inr ⟨_, nw1 59 (w := .fieldLinkNest RX6 156 RX4 "columns" "I" "BandEngraver") (by decide +kernel) rfl⟩)⟩
theorem fl6_159 : FL RX6 159 4 1 := ⟨RX4, TX4, 8, rfl, inX4, by decide, rfl, (Or.inr ⟨_, nw1 62 (w := .fieldLinkNest RX6 159 RX4 "rows" "I" "BandEngraver") (by decide +kernel) rfl⟩)⟩
theorem fl6_162 : FL RX6 162 4 4 := ⟨RX4, TX4, 8, rfl, inX4, by decide, rfl, (Or.inr ⟨_, nw1 68 (w := .fieldLinkNest RX6 162 RX4 "thresholdCount" "I" "BandEngraver") (by decide +kernel) rfl⟩)⟩
theorem fl6_165 : FL RX6 165 4 5 := ⟨RX4, TX4, 8, rfl, inX4, by decide, rfl, (Or.inr ⟨_, nw1 70 (w := .fieldLinkNest RX6 165 RX4 "leastSize" "I" "BandEngraver") (by decide +kernel) rfl⟩)⟩
theorem fp6_165 : FP RX6 165 4 5 .int := ⟨RX4, TX4, 8, tyX4, rfl, inX4, by decide, rfl, tyX4_ok, nmX4, rfl, by decide +kernel, (Or.inr ⟨_, nw1 70 (w := .fieldLinkNest RX6 165 RX4 "leastSize" "I" "BandEngraver") (by decide +kernel) rfl⟩)⟩
theorem fl6_172 : FL RX6 172 0 3 := ⟨RX0, TX0, 11, rfl, inX0, by decide, rfl, (Or.inr ⟨_, nw1 128 (w := .fieldLinkNest RX6 172 RX0 "count" "I" "BandEngraver") (by decide +kernel) rfl⟩)⟩
theorem fl6_193 : FL RX6 193 4 7 := ⟨RX4, TX4, 8, rfl, inX4, by decide, rfl, (Or.inr ⟨_, nw1 75 (w := .fieldLinkNest RX6 193 RX4 "lineInk" "I" "BandEngraver") (by decide +kernel) rfl⟩)⟩
theorem fp6_193 : FP RX6 193 4 7 .int := ⟨RX4, TX4, 8, tyX4, rfl, inX4, by decide, rfl, tyX4_ok, nmX4, rfl, by decide +kernel, (Or.inr ⟨_, nw1 75 (w := .fieldLinkNest RX6 193 RX4 "lineInk" "I" "BandEngraver") (by decide +kernel) rfl⟩)⟩
theorem fl6_232 : FL RX6 232 4 3 := ⟨RX4, TX4, 8, rfl, inX4, by decide, rfl, (Or.inr ⟨_, nw1 66 (w := .fieldLinkNest RX6 232 RX4 "thresholds" "[I" "BandEngraver") (by decide +kernel) rfl⟩)⟩
theorem fl6_256 : FL RX6 256 2 0 := ⟨RX2, TX2, 5, rfl, inX2, by decide, rfl, (Or.inr ⟨_, nw1 167 (w := .fieldLinkNest RX6 256 RX2 "holes" "[I" "BandEngraver") (by decide +kernel) rfl⟩)⟩
theorem fl6_259 : FL RX6 259 2 1 := ⟨RX2, TX2, 5, rfl, inX2, by decide, rfl, (Or.inr ⟨_, nw1 169 (w := .fieldLinkNest RX6 259 RX2 "mothers" "[I" "BandEngraver") (by decide +kernel) rfl⟩)⟩
theorem fl6_262 : FL RX6 262 2 2 := ⟨RX2, TX2, 5, rfl, inX2, by decide, rfl, (Or.inr ⟨_, nw1 171 (w := .fieldLinkNest RX6 262 RX2 "inside" "[I" "BandEngraver") (by decide +kernel) rfl⟩)⟩
theorem fl6_272 : FL RX6 272 3 0 := ⟨RX3, TX3, 4, rfl, inX3, by decide, rfl, (Or.inr ⟨_, nw1 192 (w := .fieldLinkNest RX6 272 RX3 "sides" "I" "BandEngraver") (by decide +kernel) rfl⟩)⟩
theorem fl6_275 : FL RX6 275 3 1 := ⟨RX3, TX3, 4, rfl, inX3, by decide, rfl, (Or.inr ⟨_, nw1 194 (w := .fieldLinkNest RX6 275 RX3 "rightTurns" "I" "BandEngraver") (by decide +kernel) rfl⟩)⟩
theorem fl6_278 : FL RX6 278 3 2 := ⟨RX3, TX3, 4, rfl, inX3, by decide, rfl, (Or.inr ⟨_, nw1 196 (w := .fieldLinkNest RX6 278 RX3 "leftTurns" "I" "BandEngraver") (by decide +kernel) rfl⟩)⟩
theorem fl6_281 : FL RX6 281 3 3 := ⟨RX3, TX3, 4, rfl, inX3, by decide, rfl, (Or.inr ⟨_, nw1 198 (w := .fieldLinkNest RX6 281 RX3 "wayAsked" "I" "BandEngraver") (by decide +kernel) rfl⟩)⟩
theorem fl6_284 : FL RX6 284 4 6 := ⟨RX4, TX4, 8, rfl, inX4, by decide, rfl, (Or.inr ⟨_, nw1 72 (w := .fieldLinkNest RX6 284 RX4 "hatchings" "[I" "BandEngraver") (by decide +kernel) rfl⟩)⟩
theorem fl6_340 : FL RX6 340 1 1 := ⟨RX1, TX1, 3, rfl, inX1, by decide, rfl, (Or.inr ⟨_, nw1 105 (w := .fieldLinkNest RX6 340 RX1 "count" "I" "BandEngraver") (by decide +kernel) rfl⟩)⟩
theorem fl0_9 : FL RX0 9 0 0 := ⟨RX0, TX0, 11, rfl, inX0, by decide, rfl, (Or.inl (ug1 120 (by decide +kernel) rfl))⟩
theorem fp0_9 : FP RX0 9 0 0 .int := ⟨RX0, TX0, 11, tyX0, rfl, inX0, by decide, rfl, tyX0_ok, nmX0, rfl, by decide +kernel, (Or.inl (ug1 120 (by decide +kernel) rfl))⟩
theorem fl0_15 : FL RX0 15 0 1 := ⟨RX0, TX0, 11, rfl, inX0, by decide, rfl, (Or.inl (ug1 123 (by decide +kernel) rfl))⟩
theorem fp0_15 : FP RX0 15 0 1 .int := ⟨RX0, TX0, 11, tyX0, rfl, inX0, by decide, rfl, tyX0_ok, nmX0, rfl, by decide +kernel, (Or.inl (ug1 123 (by decide +kernel) rfl))⟩
theorem fl0_18 : FL RX0 18 0 2 := ⟨RX0, TX0, 11, rfl, inX0, by decide, rfl, (Or.inl (ug1 124 (by decide +kernel) rfl))⟩
theorem fp0_18 : FP RX0 18 0 2 .int := ⟨RX0, TX0, 11, tyX0, rfl, inX0, by decide, rfl, tyX0_ok, nmX0, rfl, by decide +kernel, (Or.inl (ug1 124 (by decide +kernel) rfl))⟩
theorem fl0_21 : FL RX0 21 0 3 := ⟨RX0, TX0, 11, rfl, inX0, by decide, rfl, (Or.inl (ug1 126 (by decide +kernel) rfl))⟩
theorem fp0_21 : FP RX0 21 0 3 .int := ⟨RX0, TX0, 11, tyX0, rfl, inX0, by decide, rfl, tyX0_ok, nmX0, rfl, by decide +kernel, (Or.inl (ug1 126 (by decide +kernel) rfl))⟩
theorem fl0_24 : FL RX0 24 0 4 := ⟨RX0, TX0, 11, rfl, inX0, by decide, rfl, (Or.inl (ug1 129 (by decide +kernel) rfl))⟩
theorem fl0_28 : FL RX0 28 0 5 := ⟨RX0, TX0, 11, rfl, inX0, by decide, rfl, (Or.inl (ug1 130 (by decide +kernel) rfl))⟩
theorem fl0_31 : FL RX0 31 0 6 := ⟨RX0, TX0, 11, rfl, inX0, by decide, rfl, (Or.inl (ug1 131 (by decide +kernel) rfl))⟩
theorem fl0_34 : FL RX0 34 0 7 := ⟨RX0, TX0, 11, rfl, inX0, by decide, rfl, (Or.inl (ug1 132 (by decide +kernel) rfl))⟩
theorem fl0_37 : FL RX0 37 0 8 := ⟨RX0, TX0, 11, rfl, inX0, by decide, rfl, (Or.inl (ug1 133 (by decide +kernel) rfl))⟩
theorem fl0_40 : FL RX0 40 0 9 := ⟨RX0, TX0, 11, rfl, inX0, by decide, rfl, (Or.inl (ug1 134 (by decide +kernel) rfl))⟩
theorem fl0_43 : FL RX0 43 0 10 := ⟨RX0, TX0, 11, rfl, inX0, by decide, rfl, (Or.inl (ug1 135 (by decide +kernel) rfl))⟩
theorem fl0_46 : FL RX0 46 4 0 := ⟨RX4, TX4, 8, rfl, inX4, by decide, rfl, (Or.inr ⟨_, nw1 57 (w := .fieldLinkNest RX0 46 RX4 "columns" "I" "BandEngraver") (by decide +kernel) rfl⟩)⟩
theorem fl0_49 : FL RX0 49 4 1 := ⟨RX4, TX4, 8, rfl, inX4, by decide, rfl, (Or.inr ⟨_, nw1 60 (w := .fieldLinkNest RX0 49 RX4 "rows" "I" "BandEngraver") (by decide +kernel) rfl⟩)⟩
theorem fl0_54 : FL RX0 54 4 2 := ⟨RX4, TX4, 8, rfl, inX4, by decide, rfl, (Or.inr ⟨_, nw1 64 (w := .fieldLinkNest RX0 54 RX4 "greys" "[I" "BandEngraver") (by decide +kernel) rfl⟩)⟩
theorem fl0_111 : FL RX0 111 4 7 := ⟨RX4, TX4, 8, rfl, inX4, by decide, rfl, (Or.inr ⟨_, nw1 76 (w := .fieldLinkNest RX0 111 RX4 "lineInk" "I" "BandEngraver") (by decide +kernel) rfl⟩)⟩
theorem fl0_117 : FL RX0 117 4 6 := ⟨RX4, TX4, 8, rfl, inX4, by decide, rfl, (Or.inr ⟨_, nw1 73 (w := .fieldLinkNest RX0 117 RX4 "hatchings" "[I" "BandEngraver") (by decide +kernel) rfl⟩)⟩
theorem fl1_11 : FL RX1 11 1 0 := ⟨RX1, TX1, 3, rfl, inX1, by decide, rfl, (Or.inl (ug1 103 (by decide +kernel) rfl))⟩
theorem fl1_17 : FL RX1 17 1 1 := ⟨RX1, TX1, 3, rfl, inX1, by decide, rfl, (Or.inl (ug1 104 (by decide +kernel) rfl))⟩
theorem fp1_17 : FP RX1 17 1 1 .int := ⟨RX1, TX1, 3, tyX1, rfl, inX1, by decide, rfl, tyX1_ok, nmX1, rfl, by decide +kernel, (Or.inl (ug1 104 (by decide +kernel) rfl))⟩
theorem fl1_21 : FL RX1 21 1 2 := ⟨RX1, TX1, 3, rfl, inX1, by decide, rfl, (Or.inl (ug1 106 (by decide +kernel) rfl))⟩
theorem fp1_21 : FP RX1 21 1 2 .int := ⟨RX1, TX1, 3, tyX1, rfl, inX1, by decide, rfl, tyX1_ok, nmX1, rfl, by decide +kernel, (Or.inl (ug1 106 (by decide +kernel) rfl))⟩
theorem fl2_9 : FL RX2 9 2 0 := ⟨RX2, TX2, 5, rfl, inX2, by decide, rfl, (Or.inl (ug1 166 (by decide +kernel) rfl))⟩
theorem fl2_15 : FL RX2 15 2 1 := ⟨RX2, TX2, 5, rfl, inX2, by decide, rfl, (Or.inl (ug1 168 (by decide +kernel) rfl))⟩
theorem fl2_18 : FL RX2 18 2 2 := ⟨RX2, TX2, 5, rfl, inX2, by decide, rfl, (Or.inl (ug1 170 (by decide +kernel) rfl))⟩
theorem fl2_21 : FL RX2 21 2 3 := ⟨RX2, TX2, 5, rfl, inX2, by decide, rfl, (Or.inl (ug1 172 (by decide +kernel) rfl))⟩
theorem fl2_24 : FL RX2 24 2 4 := ⟨RX2, TX2, 5, rfl, inX2, by decide, rfl, (Or.inl (ug1 173 (by decide +kernel) rfl))⟩
theorem fl2_33 : FL RX2 33 0 3 := ⟨RX0, TX0, 11, rfl, inX0, by decide, rfl, (Or.inr ⟨_, nw1 127 (w := .fieldLinkNest RX2 33 RX0 "count" "I" "BandEngraver") (by decide +kernel) rfl⟩)⟩
theorem fl2_47 : FL RX2 47 0 2 := ⟨RX0, TX0, 11, rfl, inX0, by decide, rfl, (Or.inr ⟨_, nw1 125 (w := .fieldLinkNest RX2 47 RX0 "cells" "I" "BandEngraver") (by decide +kernel) rfl⟩)⟩
theorem fl2_65 : FL RX2 65 0 0 := ⟨RX0, TX0, 11, rfl, inX0, by decide, rfl, (Or.inr ⟨_, nw1 122 (w := .fieldLinkNest RX2 65 RX0 "columns" "I" "BandEngraver") (by decide +kernel) rfl⟩)⟩
theorem fl3_9 : FL RX3 9 3 0 := ⟨RX3, TX3, 4, rfl, inX3, by decide, rfl, (Or.inl (ug1 191 (by decide +kernel) rfl))⟩
theorem fp3_9 : FP RX3 9 3 0 .int := ⟨RX3, TX3, 4, tyX3, rfl, inX3, by decide, rfl, tyX3_ok, nmX3, rfl, by decide +kernel, (Or.inl (ug1 191 (by decide +kernel) rfl))⟩
theorem fl3_15 : FL RX3 15 3 1 := ⟨RX3, TX3, 4, rfl, inX3, by decide, rfl, (Or.inl (ug1 193 (by decide +kernel) rfl))⟩
theorem fp3_15 : FP RX3 15 3 1 .int := ⟨RX3, TX3, 4, tyX3, rfl, inX3, by decide, rfl, tyX3_ok, nmX3, rfl, by decide +kernel, (Or.inl (ug1 193 (by decide +kernel) rfl))⟩
theorem fl3_18 : FL RX3 18 3 2 := ⟨RX3, TX3, 4, rfl, inX3, by decide, rfl, (Or.inl (ug1 195 (by decide +kernel) rfl))⟩
theorem fp3_18 : FP RX3 18 3 2 .int := ⟨RX3, TX3, 4, tyX3, rfl, inX3, by decide, rfl, tyX3_ok, nmX3, rfl, by decide +kernel, (Or.inl (ug1 195 (by decide +kernel) rfl))⟩
theorem fp3_21 : FP RX3 21 3 3 .int := ⟨RX3, TX3, 4, tyX3, rfl, inX3, by decide, rfl, tyX3_ok, nmX3, rfl, by decide +kernel, (Or.inl (ug1 197 (by decide +kernel) rfl))⟩
theorem fl3_30 : FL RX3 30 0 0 := ⟨RX0, TX0, 11, rfl, inX0, by decide, rfl, (Or.inr ⟨_, nw1 121 (w := .fieldLinkNest RX3 30 RX0 "columns" "I" "BandEngraver") (by decide +kernel) rfl⟩)⟩
theorem fl4_9 : FL RX4 9 4 2 := ⟨RX4, TX4, 8, rfl, inX4, by decide, rfl, (Or.inl (ug1 63 (by decide +kernel) rfl))⟩
theorem fl4_15 : FL RX4 15 4 3 := ⟨RX4, TX4, 8, rfl, inX4, by decide, rfl, (Or.inl (ug1 65 (by decide +kernel) rfl))⟩
theorem fl4_18 : FL RX4 18 4 6 := ⟨RX4, TX4, 8, rfl, inX4, by decide, rfl, (Or.inl (ug1 71 (by decide +kernel) rfl))⟩
theorem fl4_28 : FL RX4 28 4 4 := ⟨RX4, TX4, 8, rfl, inX4, by decide, rfl, (Or.inl (ug1 67 (by decide +kernel) rfl))⟩
theorem fp4_28 : FP RX4 28 4 4 .int := ⟨RX4, TX4, 8, tyX4, rfl, inX4, by decide, rfl, tyX4_ok, nmX4, rfl, by decide +kernel, (Or.inl (ug1 67 (by decide +kernel) rfl))⟩
theorem fl4_32 : FL RX4 32 4 5 := ⟨RX4, TX4, 8, rfl, inX4, by decide, rfl, (Or.inl (ug1 69 (by decide +kernel) rfl))⟩
theorem fp4_32 : FP RX4 32 4 5 .int := ⟨RX4, TX4, 8, tyX4, rfl, inX4, by decide, rfl, tyX4_ok, nmX4, rfl, by decide +kernel, (Or.inl (ug1 69 (by decide +kernel) rfl))⟩
theorem fl4_35 : FL RX4 35 4 7 := ⟨RX4, TX4, 8, rfl, inX4, by decide, rfl, (Or.inl (ug1 74 (by decide +kernel) rfl))⟩
theorem fp4_35 : FP RX4 35 4 7 .int := ⟨RX4, TX4, 8, tyX4, rfl, inX4, by decide, rfl, tyX4_ok, nmX4, rfl, by decide +kernel, (Or.inl (ug1 74 (by decide +kernel) rfl))⟩
theorem fl4_38 : FL RX4 38 4 0 := ⟨RX4, TX4, 8, rfl, inX4, by decide, rfl, (Or.inl (ug1 58 (by decide +kernel) rfl))⟩
theorem fp4_38 : FP RX4 38 4 0 .int := ⟨RX4, TX4, 8, tyX4, rfl, inX4, by decide, rfl, tyX4_ok, nmX4, rfl, by decide +kernel, (Or.inl (ug1 58 (by decide +kernel) rfl))⟩
theorem fl4_41 : FL RX4 41 4 1 := ⟨RX4, TX4, 8, rfl, inX4, by decide, rfl, (Or.inl (ug1 61 (by decide +kernel) rfl))⟩
theorem fp4_41 : FP RX4 41 4 1 .int := ⟨RX4, TX4, 8, tyX4, rfl, inX4, by decide, rfl, tyX4_ok, nmX4, rfl, by decide +kernel, (Or.inl (ug1 61 (by decide +kernel) rfl))⟩
theorem fl5_9 : FL RX5 9 5 0 := ⟨RX5, TX5, 2, rfl, inX5, by decide, rfl, (Or.inl (ug1 31 (by decide +kernel) rfl))⟩
theorem fl5_15 : FL RX5 15 5 1 := ⟨RX5, TX5, 2, rfl, inX5, by decide, rfl, (Or.inl (ug1 32 (by decide +kernel) rfl))⟩
theorem fp5_15 : FP RX5 15 5 1 .int := ⟨RX5, TX5, 2, tyX5, rfl, inX5, by decide, rfl, tyX5_ok, nmX5, rfl, by decide +kernel, (Or.inl (ug1 32 (by decide +kernel) rfl))⟩
def yAF_fill : MethodName := ⟨"java/util/Arrays", "fill", "([II)V"⟩
abbrev cAF_fill : ByteArray := prog_19_method_103_code
theorem miX0_init : MI yX0_init cX0_init 1 none 0 := ⟨ug1 118 (by decide +kernel) rfl, by decide +kernel, by decide +kernel, ug1 6 (by decide +kernel) rfl⟩
theorem miX0_survey : MI yX0_survey cX0_survey 4 none 2 := ⟨ug3 47 (by decide +kernel) rfl, by decide +kernel, by decide +kernel, ug1 6 (by decide +kernel) rfl⟩
theorem miX0_mergeBelow : MI yX0_mergeBelow cX0_mergeBelow 7 none 1 := ⟨ug3 71 (by decide +kernel) rfl, by decide +kernel, by decide +kernel, ug1 6 (by decide +kernel) rfl⟩
theorem miX0_smallestBelow : MI yX0_smallestBelow cX0_smallestBelow 4 (some .int) 1 := ⟨ug3 75 (by decide +kernel) rfl, by decide +kernel, by decide +kernel, ug1 6 (by decide +kernel) rfl⟩
theorem miX0_takerOf : MI yX0_takerOf cX0_takerOf 4 (some .int) 1 := ⟨ug3 79 (by decide +kernel) rfl, by decide +kernel, by decide +kernel, ug1 6 (by decide +kernel) rfl⟩
theorem miX0_isBetterTaker : MI yX0_isBetterTaker cX0_isBetterTaker 6 (some .boolean) 3 := ⟨ug3 88 (by decide +kernel) rfl, by decide +kernel, by decide +kernel, ug1 6 (by decide +kernel) rfl⟩
theorem miX0_measureBorders : MI yX0_measureBorders cX0_measureBorders 5 none 1 := ⟨ug3 83 (by decide +kernel) rfl, by decide +kernel, by decide +kernel, ug1 6 (by decide +kernel) rfl⟩
theorem miX0_gather : MI yX0_gather cX0_gather 9 none 1 := ⟨ug3 56 (by decide +kernel) rfl, by decide +kernel, by decide +kernel, ug1 6 (by decide +kernel) rfl⟩
theorem miX0_enqueue : MI yX0_enqueue cX0_enqueue 3 (some .int) 2 := ⟨ug3 60 (by decide +kernel) rfl, by decide +kernel, by decide +kernel, ug1 6 (by decide +kernel) rfl⟩
theorem miX0_giveNumbers : MI yX0_giveNumbers cX0_giveNumbers 3 none 0 := ⟨ug3 95 (by decide +kernel) rfl, by decide +kernel, by decide +kernel, ug1 6 (by decide +kernel) rfl⟩
theorem miX0_neighbour : MI yX0_neighbour cX0_neighbour 3 (some .int) 2 := ⟨ug3 67 (by decide +kernel) rfl, by decide +kernel, by decide +kernel, ug1 6 (by decide +kernel) rfl⟩
theorem miX0_isOnPlate : MI yX0_isOnPlate cX0_isOnPlate 3 (some .boolean) 2 := ⟨ug3 136 (by decide +kernel) rfl, by decide +kernel, by decide +kernel, ug1 6 (by decide +kernel) rfl⟩
theorem miX0_isAtEdge : MI yX0_isAtEdge cX0_isAtEdge 4 (some .boolean) 1 := ⟨ug3 144 (by decide +kernel) rfl, by decide +kernel, by decide +kernel, ug1 6 (by decide +kernel) rfl⟩
theorem miX0_has : MI yX0_has cX0_has 2 (some .boolean) 1 := ⟨ug3 227 (by decide +kernel) rfl, by decide +kernel, by decide +kernel, ug1 6 (by decide +kernel) rfl⟩
theorem miX0_islandAt : MI yX0_islandAt cX0_islandAt 2 (some .int) 1 := ⟨ug3 128 (by decide +kernel) rfl, by decide +kernel, by decide +kernel, ug1 6 (by decide +kernel) rfl⟩
theorem miX0_isFirstCell : MI yX0_isFirstCell cX0_isFirstCell 2 (some .boolean) 1 := ⟨ug3 152 (by decide +kernel) rfl, by decide +kernel, by decide +kernel, ug1 6 (by decide +kernel) rfl⟩
theorem miX0_bandAt : MI yX0_bandAt cX0_bandAt 2 (some .int) 1 := ⟨ug3 198 (by decide +kernel) rfl, by decide +kernel, by decide +kernel, ug1 6 (by decide +kernel) rfl⟩
theorem miX0_firstCell : MI yX0_firstCell cX0_firstCell 2 (some .int) 1 := ⟨ug3 231 (by decide +kernel) rfl, by decide +kernel, by decide +kernel, ug1 6 (by decide +kernel) rfl⟩
theorem miX0_size : MI yX0_size cX0_size 2 (some .int) 1 := ⟨ug3 120 (by decide +kernel) rfl, by decide +kernel, by decide +kernel, ug1 6 (by decide +kernel) rfl⟩
theorem miX0_bandOf : MI yX0_bandOf cX0_bandOf 2 (some .int) 1 := ⟨ug3 236 (by decide +kernel) rfl, by decide +kernel, by decide +kernel, ug1 6 (by decide +kernel) rfl⟩
theorem miX0_otherSidesAt : MI yX0_otherSidesAt cX0_otherSidesAt 5 (some .int) 1 := ⟨ug3 107 (by decide +kernel) rfl, by decide +kernel, by decide +kernel, ug1 6 (by decide +kernel) rfl⟩
theorem miX0_sidesToOthers : MI yX0_sidesToOthers cX0_sidesToOthers 4 (some .int) 1 := ⟨ug4 0 (by decide +kernel) rfl, by decide +kernel, by decide +kernel, ug1 6 (by decide +kernel) rfl⟩
theorem miX0_neighbourCount : MI yX0_neighbourCount cX0_neighbourCount 4 (some .int) 1 := ⟨ug4 8 (by decide +kernel) rfl, by decide +kernel, by decide +kernel, ug1 6 (by decide +kernel) rfl⟩
theorem miX0_commonSides : MI yX0_commonSides cX0_commonSides 3 (some .int) 2 := ⟨ug4 19 (by decide +kernel) rfl, by decide +kernel, by decide +kernel, ug1 6 (by decide +kernel) rfl⟩
theorem miX0_sidesAtEdge : MI yX0_sidesAtEdge cX0_sidesAtEdge 5 (some .int) 1 := ⟨ug4 4 (by decide +kernel) rfl, by decide +kernel, by decide +kernel, ug1 6 (by decide +kernel) rfl⟩
theorem miX0_allSides : MI yX0_allSides cX0_allSides 3 (some .int) 0 := ⟨ug3 103 (by decide +kernel) rfl, by decide +kernel, by decide +kernel, ug1 6 (by decide +kernel) rfl⟩
theorem miX0_cellsOffTheirGrey : MI yX0_cellsOffTheirGrey cX0_cellsOffTheirGrey 4 (some .int) 1 := ⟨ug3 99 (by decide +kernel) rfl, by decide +kernel, by decide +kernel, ug1 6 (by decide +kernel) rfl⟩
theorem miX0_cellsOtherThan : MI yX0_cellsOtherThan cX0_cellsOtherThan 4 (some .int) 1 := ⟨ug5 13 (by decide +kernel) rfl, by decide +kernel, by decide +kernel, ug1 6 (by decide +kernel) rfl⟩
theorem miX0_cellsOfBand : MI yX0_cellsOfBand cX0_cellsOfBand 4 (some .int) 1 := ⟨ug4 64 (by decide +kernel) rfl, by decide +kernel, by decide +kernel, ug1 6 (by decide +kernel) rfl⟩
theorem miX0_islandsOfBand : MI yX0_islandsOfBand cX0_islandsOfBand 4 (some .int) 1 := ⟨ug4 68 (by decide +kernel) rfl, by decide +kernel, by decide +kernel, ug1 6 (by decide +kernel) rfl⟩
theorem miX0_inkNeeded : MI yX0_inkNeeded cX0_inkNeeded 4 (some .int) 1 := ⟨ug4 170 (by decide +kernel) rfl, by decide +kernel, by decide +kernel, ug1 6 (by decide +kernel) rfl⟩
theorem miX1_init : MI yX1_init cX1_init 2 none 0 := ⟨ug1 98 (by decide +kernel) rfl, by decide +kernel, by decide +kernel, ug1 5 (by decide +kernel) rfl⟩
theorem miX1_remember : MI yX1_remember cX1_remember 2 none 1 := ⟨ug4 84 (by decide +kernel) rfl, by decide +kernel, by decide +kernel, ug1 5 (by decide +kernel) rfl⟩
theorem miX1_takeBack : MI yX1_takeBack cX1_takeBack 2 none 1 := ⟨ug4 159 (by decide +kernel) rfl, by decide +kernel, by decide +kernel, ug1 5 (by decide +kernel) rfl⟩
theorem miX1_forgetAll : MI yX1_forgetAll cX1_forgetAll 1 none 0 := ⟨ug2 177 (by decide +kernel) rfl, by decide +kernel, by decide +kernel, ug1 5 (by decide +kernel) rfl⟩
theorem miX2_init : MI yX2_init cX2_init 1 none 0 := ⟨ug1 164 (by decide +kernel) rfl, by decide +kernel, by decide +kernel, ug1 7 (by decide +kernel) rfl⟩
theorem miX2_explore : MI yX2_explore cX2_explore 3 none 1 := ⟨ug3 115 (by decide +kernel) rfl, by decide +kernel, by decide +kernel, ug1 7 (by decide +kernel) rfl⟩
theorem miX2_allHoles : MI yX2_allHoles cX2_allHoles 3 (some .int) 0 := ⟨ug3 156 (by decide +kernel) rfl, by decide +kernel, by decide +kernel, ug1 7 (by decide +kernel) rfl⟩
theorem miX2_findHoles : MI yX2_findHoles cX2_findHoles 5 none 2 := ⟨ug3 124 (by decide +kernel) rfl, by decide +kernel, by decide +kernel, ug1 7 (by decide +kernel) rfl⟩
theorem miX2_gatherAround : MI yX2_gatherAround cX2_gatherAround 11 (some .int) 3 := ⟨ug3 132 (by decide +kernel) rfl, by decide +kernel, by decide +kernel, ug1 7 (by decide +kernel) rfl⟩
theorem miX2_reachesEdge : MI yX2_reachesEdge cX2_reachesEdge 4 (some .boolean) 2 := ⟨ug3 140 (by decide +kernel) rfl, by decide +kernel, by decide +kernel, ug1 7 (by decide +kernel) rfl⟩
theorem miX2_takeHole : MI yX2_takeHole cX2_takeHole 7 none 3 := ⟨ug3 148 (by decide +kernel) rfl, by decide +kernel, by decide +kernel, ug1 7 (by decide +kernel) rfl⟩
theorem miX3_init : MI yX3_init cX3_init 1 none 0 := ⟨ug1 189 (by decide +kernel) rfl, by decide +kernel, by decide +kernel, ug1 8 (by decide +kernel) rfl⟩
theorem miX3_follow : MI yX3_follow cX3_follow 10 none 3 := ⟨ug4 30 (by decide +kernel) rfl, by decide +kernel, by decide +kernel, ug1 8 (by decide +kernel) rfl⟩
theorem miX3_turned : MI yX3_turned cX3_turned 7 (some .int) 5 := ⟨ug4 41 (by decide +kernel) rfl, by decide +kernel, by decide +kernel, ug1 8 (by decide +kernel) rfl⟩
theorem miX3_isOfIsland : MI yX3_isOfIsland cX3_isOfIsland 7 (some .boolean) 5 := ⟨ug4 44 (by decide +kernel) rfl, by decide +kernel, by decide +kernel, ug1 8 (by decide +kernel) rfl⟩
theorem miX3_eastOf : MI yX3_eastOf cX3_eastOf 1 (some .int) 1 := ⟨ug4 34 (by decide +kernel) rfl, by decide +kernel, by decide +kernel, ug1 8 (by decide +kernel) rfl⟩
theorem miX3_southOf : MI yX3_southOf cX3_southOf 1 (some .int) 1 := ⟨ug4 37 (by decide +kernel) rfl, by decide +kernel, by decide +kernel, ug1 8 (by decide +kernel) rfl⟩
theorem miX4_init : MI yX4_init cX4_init 1 none 0 := ⟨ug1 44 (by decide +kernel) rfl, by decide +kernel, by decide +kernel, ug1 3 (by decide +kernel) rfl⟩
theorem miX4_reset : MI yX4_reset cX4_reset 4 none 2 := ⟨ug1 49 (by decide +kernel) rfl, by decide +kernel, by decide +kernel, ug1 3 (by decide +kernel) rfl⟩
theorem miX4_takePlate : MI yX4_takePlate cX4_takePlate 3 none 2 := ⟨ug1 53 (by decide +kernel) rfl, by decide +kernel, by decide +kernel, ug1 3 (by decide +kernel) rfl⟩
theorem miX4_copyFrom : MI yX4_copyFrom cX4_copyFrom 2 none 1 := ⟨ug4 88 (by decide +kernel) rfl, by decide +kernel, by decide +kernel, ug1 3 (by decide +kernel) rfl⟩
theorem miX4_cellCount : MI yX4_cellCount cX4_cellCount 1 (some .int) 0 := ⟨ug3 14 (by decide +kernel) rfl, by decide +kernel, by decide +kernel, ug1 3 (by decide +kernel) rfl⟩
theorem miX4_hasCell : MI yX4_hasCell cX4_hasCell 3 (some .boolean) 2 := ⟨ug2 197 (by decide +kernel) rfl, by decide +kernel, by decide +kernel, ug1 3 (by decide +kernel) rfl⟩
theorem miX4_cellNumber : MI yX4_cellNumber cX4_cellNumber 3 (some .int) 2 := ⟨ug2 206 (by decide +kernel) rfl, by decide +kernel, by decide +kernel, ug1 3 (by decide +kernel) rfl⟩
theorem miX4_greyAt : MI yX4_greyAt cX4_greyAt 3 (some .int) 2 := ⟨ug3 192 (by decide +kernel) rfl, by decide +kernel, by decide +kernel, ug1 3 (by decide +kernel) rfl⟩
theorem miX4_hasGrey : MI yX4_hasGrey cX4_hasGrey 4 (some .boolean) 1 := ⟨ug4 191 (by decide +kernel) rfl, by decide +kernel, by decide +kernel, ug1 3 (by decide +kernel) rfl⟩
theorem miX4_sumOfGreys : MI yX4_sumOfGreys cX4_sumOfGreys 4 (some .int) 0 := ⟨ug3 160 (by decide +kernel) rfl, by decide +kernel, by decide +kernel, ug1 3 (by decide +kernel) rfl⟩
theorem miX4_setGrey : MI yX4_setGrey cX4_setGrey 6 (some .int) 3 := ⟨ug2 202 (by decide +kernel) rfl, by decide +kernel, by decide +kernel, ug1 3 (by decide +kernel) rfl⟩
theorem miX4_trySetGrey : MI yX4_trySetGrey cX4_trySetGrey 4 (some .boolean) 3 := ⟨ug2 193 (by decide +kernel) rfl, by decide +kernel, by decide +kernel, ug1 3 (by decide +kernel) rfl⟩
theorem miX4_fillBox : MI yX4_fillBox cX4_fillBox 9 (some .int) 5 := ⟨ug2 214 (by decide +kernel) rfl, by decide +kernel, by decide +kernel, ug1 3 (by decide +kernel) rfl⟩
theorem miX4_tryFillBox : MI yX4_tryFillBox cX4_tryFillBox 6 (some .boolean) 5 := ⟨ug2 210 (by decide +kernel) rfl, by decide +kernel, by decide +kernel, ug1 3 (by decide +kernel) rfl⟩
theorem miX4_hasThreshold : MI yX4_hasThreshold cX4_hasThreshold 2 (some .boolean) 1 := ⟨ug3 216 (by decide +kernel) rfl, by decide +kernel, by decide +kernel, ug1 3 (by decide +kernel) rfl⟩
theorem miX4_indexOfThreshold : MI yX4_indexOfThreshold cX4_indexOfThreshold 3 (some .int) 1 := ⟨ug2 226 (by decide +kernel) rfl, by decide +kernel, by decide +kernel, ug1 3 (by decide +kernel) rfl⟩
theorem miX4_canChangeThreshold : MI yX4_canChangeThreshold cX4_canChangeThreshold 4 (some .boolean) 2 := ⟨ug2 222 (by decide +kernel) rfl, by decide +kernel, by decide +kernel, ug1 3 (by decide +kernel) rfl⟩
theorem miX4_changeThreshold : MI yX4_changeThreshold cX4_changeThreshold 3 (some .int) 2 := ⟨ug2 230 (by decide +kernel) rfl, by decide +kernel, by decide +kernel, ug1 3 (by decide +kernel) rfl⟩
theorem miX4_tryChangeThreshold : MI yX4_tryChangeThreshold cX4_tryChangeThreshold 3 (some .boolean) 2 := ⟨ug2 218 (by decide +kernel) rfl, by decide +kernel, by decide +kernel, ug1 3 (by decide +kernel) rfl⟩
theorem miX4_putThreshold : MI yX4_putThreshold cX4_putThreshold 3 none 1 := ⟨ug2 234 (by decide +kernel) rfl, by decide +kernel, by decide +kernel, ug1 3 (by decide +kernel) rfl⟩
theorem miX4_takeThreshold : MI yX4_takeThreshold cX4_takeThreshold 4 none 1 := ⟨ug2 238 (by decide +kernel) rfl, by decide +kernel, by decide +kernel, ug1 3 (by decide +kernel) rfl⟩
theorem miX4_shareThresholds : MI yX4_shareThresholds cX4_shareThresholds 4 (some .int) 1 := ⟨ug4 110 (by decide +kernel) rfl, by decide +kernel, by decide +kernel, ug1 3 (by decide +kernel) rfl⟩
theorem miX4_leastAbove : MI yX4_leastAbove cX4_leastAbove 3 (some .int) 1 := ⟨ug4 114 (by decide +kernel) rfl, by decide +kernel, by decide +kernel, ug1 3 (by decide +kernel) rfl⟩
theorem miX4_cellsBelow : MI yX4_cellsBelow cX4_cellsBelow 5 (some .int) 1 := ⟨ug4 118 (by decide +kernel) rfl, by decide +kernel, by decide +kernel, ug1 3 (by decide +kernel) rfl⟩
theorem miX4_bandOfGrey : MI yX4_bandOfGrey cX4_bandOfGrey 4 (some .int) 1 := ⟨ug3 52 (by decide +kernel) rfl, by decide +kernel, by decide +kernel, ug1 3 (by decide +kernel) rfl⟩
theorem miX4_distanceToOtherBand : MI yX4_distanceToOtherBand cX4_distanceToOtherBand 6 (some .int) 1 := ⟨ug3 204 (by decide +kernel) rfl, by decide +kernel, by decide +kernel, ug1 3 (by decide +kernel) rfl⟩
theorem miX4_trySetLeast : MI yX4_trySetLeast cX4_trySetLeast 2 (some .boolean) 1 := ⟨ug3 2 (by decide +kernel) rfl, by decide +kernel, by decide +kernel, ug1 3 (by decide +kernel) rfl⟩
theorem miX4_blurGreys : MI yX4_blurGreys cX4_blurGreys 6 (some .int) 1 := ⟨ug3 21 (by decide +kernel) rfl, by decide +kernel, by decide +kernel, ug1 3 (by decide +kernel) rfl⟩
theorem miX4_blurredGrey : MI yX4_blurredGrey cX4_blurredGrey 7 (some .int) 3 := ⟨ug3 28 (by decide +kernel) rfl, by decide +kernel, by decide +kernel, ug1 3 (by decide +kernel) rfl⟩
theorem miX4_invertGreys : MI yX4_invertGreys cX4_invertGreys 3 (some .boolean) 0 := ⟨ug3 32 (by decide +kernel) rfl, by decide +kernel, by decide +kernel, ug1 3 (by decide +kernel) rfl⟩
theorem miX4_spreadGreys : MI yX4_spreadGreys cX4_spreadGreys 6 (some .int) 1 := ⟨ug3 10 (by decide +kernel) rfl, by decide +kernel, by decide +kernel, ug1 3 (by decide +kernel) rfl⟩
theorem miX4_spreadOut : MI yX4_spreadOut cX4_spreadOut 2 (some .int) 2 := ⟨ug3 17 (by decide +kernel) rfl, by decide +kernel, by decide +kernel, ug1 3 (by decide +kernel) rfl⟩
theorem miX4_trySpread : MI yX4_trySpread cX4_trySpread 2 (some .boolean) 1 := ⟨ug3 6 (by decide +kernel) rfl, by decide +kernel, by decide +kernel, ug1 3 (by decide +kernel) rfl⟩
theorem miX4_addNoise : MI yX4_addNoise cX4_addNoise 10 (some .int) 2 := ⟨ug4 238 (by decide +kernel) rfl, by decide +kernel, by decide +kernel, ug1 3 (by decide +kernel) rfl⟩
theorem miX5_init : MI yX5_init cX5_init 1 none 0 := ⟨ug1 29 (by decide +kernel) rfl, by decide +kernel, by decide +kernel, ug1 2 (by decide +kernel) rfl⟩
theorem miX5_isFull : MI yX5_isFull cX5_isFull 1 (some .boolean) 0 := ⟨ug2 105 (by decide +kernel) rfl, by decide +kernel, by decide +kernel, ug1 2 (by decide +kernel) rfl⟩
theorem miX5_add : MI yX5_add cX5_add 2 (some .int) 1 := ⟨ug2 125 (by decide +kernel) rfl, by decide +kernel, by decide +kernel, ug1 2 (by decide +kernel) rfl⟩
theorem miX5_signAt : MI yX5_signAt cX5_signAt 2 (some .int) 1 := ⟨ug2 147 (by decide +kernel) rfl, by decide +kernel, by decide +kernel, ug1 2 (by decide +kernel) rfl⟩
theorem miX5_numberAt : MI yX5_numberAt cX5_numberAt 2 (some .int) 1 := ⟨ug2 172 (by decide +kernel) rfl, by decide +kernel, by decide +kernel, ug1 2 (by decide +kernel) rfl⟩
theorem miX5_wordEnd : MI yX5_wordEnd cX5_wordEnd 2 (some .int) 1 := ⟨ug2 154 (by decide +kernel) rfl, by decide +kernel, by decide +kernel, ug1 2 (by decide +kernel) rfl⟩
theorem miX5_firstError : MI yX5_firstError cX5_firstError 4 (some .int) 0 := ⟨ug2 139 (by decide +kernel) rfl, by decide +kernel, by decide +kernel, ug1 2 (by decide +kernel) rfl⟩
theorem miX5_errorInWord : MI yX5_errorInWord cX5_errorInWord 6 (some .int) 2 := ⟨ug2 143 (by decide +kernel) rfl, by decide +kernel, by decide +kernel, ug1 2 (by decide +kernel) rfl⟩
theorem miX5_isDigitAllowed : MI yX5_isDigitAllowed cX5_isDigitAllowed 8 (some .boolean) 3 := ⟨ug2 161 (by decide +kernel) rfl, by decide +kernel, by decide +kernel, ug1 2 (by decide +kernel) rfl⟩
theorem miX5_numbersOf : MI yX5_numbersOf cX5_numbersOf 1 (some .int) 1 := ⟨ug2 150 (by decide +kernel) rfl, by decide +kernel, by decide +kernel, ug1 2 (by decide +kernel) rfl⟩
theorem miX5_lowestNumber : MI yX5_lowestNumber cX5_lowestNumber 1 (some .int) 1 := ⟨ug2 165 (by decide +kernel) rfl, by decide +kernel, by decide +kernel, ug1 2 (by decide +kernel) rfl⟩
theorem miX5_highestNumber : MI yX5_highestNumber cX5_highestNumber 2 (some .int) 2 := ⟨ug2 168 (by decide +kernel) rfl, by decide +kernel, by decide +kernel, ug1 2 (by decide +kernel) rfl⟩
theorem miX6_init : MI yX6_init cX6_init 2 none 0 := ⟨ug1 21 (by decide +kernel) rfl, by decide +kernel, by decide +kernel, ug1 1 (by decide +kernel) rfl⟩
theorem miX6_append : MI yX6_append cX6_append 2 (some .int) 1 := ⟨ug2 27 (by decide +kernel) rfl, by decide +kernel, by decide +kernel, ug1 1 (by decide +kernel) rfl⟩
theorem miX6_load : MI yX6_load cX6_load 4 (some .int) 0 := ⟨ug2 135 (by decide +kernel) rfl, by decide +kernel, by decide +kernel, ug1 1 (by decide +kernel) rfl⟩
theorem miX6_obeysWord : MI yX6_obeysWord cX6_obeysWord 5 (some .boolean) 1 := ⟨ug2 188 (by decide +kernel) rfl, by decide +kernel, by decide +kernel, ug1 1 (by decide +kernel) rfl⟩
theorem miX6_about : MI yX6_about cX6_about 2 (some .int) 1 := ⟨ug3 39 (by decide +kernel) rfl, by decide +kernel, by decide +kernel, ug1 1 (by decide +kernel) rfl⟩
theorem miX6_cellOf : MI yX6_cellOf cX6_cellOf 5 (some .int) 3 := ⟨ug3 168 (by decide +kernel) rfl, by decide +kernel, by decide +kernel, ug1 1 (by decide +kernel) rfl⟩
theorem miX6_thresholdAt : MI yX6_thresholdAt cX6_thresholdAt 2 (some .int) 1 := ⟨ug3 212 (by decide +kernel) rfl, by decide +kernel, by decide +kernel, ug1 1 (by decide +kernel) rfl⟩
theorem miX6_island : MI yX6_island cX6_island 4 (some .int) 2 := ⟨ug3 223 (by decide +kernel) rfl, by decide +kernel, by decide +kernel, ug1 1 (by decide +kernel) rfl⟩
theorem miX6_border : MI yX6_border cX6_border 4 (some .int) 2 := ⟨ug4 15 (by decide +kernel) rfl, by decide +kernel, by decide +kernel, ug1 1 (by decide +kernel) rfl⟩
theorem miX6_outline : MI yX6_outline cX6_outline 4 (some .int) 2 := ⟨ug4 26 (by decide +kernel) rfl, by decide +kernel, by decide +kernel, ug1 1 (by decide +kernel) rfl⟩
theorem miX6_outlineWay : MI yX6_outlineWay cX6_outlineWay 4 (some .int) 2 := ⟨ug4 53 (by decide +kernel) rfl, by decide +kernel, by decide +kernel, ug1 1 (by decide +kernel) rfl⟩
theorem miX6_band : MI yX6_band cX6_band 3 (some .int) 2 := ⟨ug4 60 (by decide +kernel) rfl, by decide +kernel, by decide +kernel, ug1 1 (by decide +kernel) rfl⟩
theorem miX6_ink : MI yX6_ink cX6_ink 1 (some .int) 0 := ⟨ug5 57 (by decide +kernel) rfl, by decide +kernel, by decide +kernel, ug1 1 (by decide +kernel) rfl⟩
theorem miX6_plate : MI yX6_plate cX6_plate 3 (some .int) 2 := ⟨ug4 76 (by decide +kernel) rfl, by decide +kernel, by decide +kernel, ug1 1 (by decide +kernel) rfl⟩
theorem miX6_cell : MI yX6_cell cX6_cell 4 (some .int) 3 := ⟨ug4 98 (by decide +kernel) rfl, by decide +kernel, by decide +kernel, ug1 1 (by decide +kernel) rfl⟩
theorem miX6_box : MI yX6_box cX6_box 6 (some .int) 5 := ⟨ug4 215 (by decide +kernel) rfl, by decide +kernel, by decide +kernel, ug1 1 (by decide +kernel) rfl⟩
theorem miX6_threshold : MI yX6_threshold cX6_threshold 3 (some .int) 2 := ⟨ug4 224 (by decide +kernel) rfl, by decide +kernel, by decide +kernel, ug1 1 (by decide +kernel) rfl⟩
theorem miX6_share : MI yX6_share cX6_share 2 (some .int) 1 := ⟨ug4 106 (by decide +kernel) rfl, by decide +kernel, by decide +kernel, ug1 1 (by decide +kernel) rfl⟩
theorem miX6_least : MI yX6_least cX6_least 3 (some .int) 1 := ⟨ug4 125 (by decide +kernel) rfl, by decide +kernel, by decide +kernel, ug1 1 (by decide +kernel) rfl⟩
theorem miX6_hatch : MI yX6_hatch cX6_hatch 4 (some .int) 2 := ⟨ug4 132 (by decide +kernel) rfl, by decide +kernel, by decide +kernel, ug1 1 (by decide +kernel) rfl⟩
theorem miX6_line : MI yX6_line cX6_line 3 (some .int) 1 := ⟨ug4 139 (by decide +kernel) rfl, by decide +kernel, by decide +kernel, ug1 1 (by decide +kernel) rfl⟩
theorem miX6_blur : MI yX6_blur cX6_blur 1 (some .int) 0 := ⟨ug5 64 (by decide +kernel) rfl, by decide +kernel, by decide +kernel, ug1 1 (by decide +kernel) rfl⟩
theorem miX6_invert : MI yX6_invert cX6_invert 1 (some .int) 0 := ⟨ug5 68 (by decide +kernel) rfl, by decide +kernel, by decide +kernel, ug1 1 (by decide +kernel) rfl⟩
theorem miX6_spread : MI yX6_spread cX6_spread 2 (some .int) 1 := ⟨ug4 146 (by decide +kernel) rfl, by decide +kernel, by decide +kernel, ug1 1 (by decide +kernel) rfl⟩
theorem miX6_noise : MI yX6_noise cX6_noise 4 (some .int) 2 := ⟨ug4 234 (by decide +kernel) rfl, by decide +kernel, by decide +kernel, ug1 1 (by decide +kernel) rfl⟩
theorem miX6_undo : MI yX6_undo cX6_undo 1 (some .int) 0 := ⟨ug4 154 (by decide +kernel) rfl, by decide +kernel, by decide +kernel, ug1 1 (by decide +kernel) rfl⟩
theorem miX6_beginAction : MI yX6_beginAction cX6_beginAction 1 none 0 := ⟨ug4 80 (by decide +kernel) rfl, by decide +kernel, by decide +kernel, ug1 1 (by decide +kernel) rfl⟩
theorem miX6_ifLeast : MI yX6_ifLeast cX6_ifLeast 3 (some .int) 2 := ⟨ug4 166 (by decide +kernel) rfl, by decide +kernel, by decide +kernel, ug1 1 (by decide +kernel) rfl⟩
theorem miX6_leastFor : MI yX6_leastFor cX6_leastFor 3 (some .int) 1 := ⟨ug4 178 (by decide +kernel) rfl, by decide +kernel, by decide +kernel, ug1 1 (by decide +kernel) rfl⟩
theorem miX6_bestMove : MI yX6_bestMove cX6_bestMove 9 (some .int) 1 := ⟨ug4 186 (by decide +kernel) rfl, by decide +kernel, by decide +kernel, ug1 1 (by decide +kernel) rfl⟩
theorem miX6_ifCell : MI yX6_ifCell cX6_ifCell 5 (some .int) 4 := ⟨ug5 9 (by decide +kernel) rfl, by decide +kernel, by decide +kernel, ug1 1 (by decide +kernel) rfl⟩
theorem miX6_runScript : MI yX6_runScript cX6_runScript 9 (some .int) 2 := ⟨ug5 20 (by decide +kernel) rfl, by decide +kernel, by decide +kernel, ug1 1 (by decide +kernel) rfl⟩
theorem miX6_obeysGroup : MI yX6_obeysGroup cX6_obeysGroup 7 (some .boolean) 1 := ⟨ug5 27 (by decide +kernel) rfl, by decide +kernel, by decide +kernel, ug1 1 (by decide +kernel) rfl⟩
theorem miX6_holdsGroup : MI yX6_holdsGroup cX6_holdsGroup 6 (some .boolean) 1 := ⟨ug5 33 (by decide +kernel) rfl, by decide +kernel, by decide +kernel, ug1 1 (by decide +kernel) rfl⟩
theorem miX6_simulate : MI yX6_simulate cX6_simulate 7 (some .int) 2 := ⟨ug5 41 (by decide +kernel) rfl, by decide +kernel, by decide +kernel, ug1 1 (by decide +kernel) rfl⟩
theorem miX6_takeTurn : MI yX6_takeTurn cX6_takeTurn 5 none 1 := ⟨ug5 47 (by decide +kernel) rfl, by decide +kernel, by decide +kernel, ug1 1 (by decide +kernel) rfl⟩
theorem miX6_save : MI yX6_save cX6_save 2 (some .int) 1 := ⟨ug4 200 (by decide +kernel) rfl, by decide +kernel, by decide +kernel, ug1 1 (by decide +kernel) rfl⟩
theorem miX6_restore : MI yX6_restore cX6_restore 2 (some .int) 1 := ⟨ug4 207 (by decide +kernel) rfl, by decide +kernel, by decide +kernel, ug1 1 (by decide +kernel) rfl⟩
theorem miX6_present : MI yX6_present cX6_present 1 (some (.object "BandEngraver$Islands")) 0 := ⟨ug3 43 (by decide +kernel) rfl, by decide +kernel, by decide +kernel, ug1 1 (by decide +kernel) rfl⟩
theorem miX6_presentNest : MI yX6_presentNest cX6_presentNest 2 (some (.object "BandEngraver$Nest")) 0 := ⟨ug3 111 (by decide +kernel) rfl, by decide +kernel, by decide +kernel, ug1 1 (by decide +kernel) rfl⟩
theorem miX6_forgetFindings : MI yX6_forgetFindings cX6_forgetFindings 1 none 0 := ⟨ug2 181 (by decide +kernel) rfl, by decide +kernel, by decide +kernel, ug1 1 (by decide +kernel) rfl⟩
theorem miX6_isWithin : MI yX6_isWithin cX6_isWithin 3 (some .boolean) 3 := ⟨ug2 33 (by decide +kernel) rfl, by decide +kernel, by decide +kernel, ug1 1 (by decide +kernel) rfl⟩
theorem miX6_mustBeWithin : MI yX6_mustBeWithin cX6_mustBeWithin 3 none 3 := ⟨ug2 30 (by decide +kernel) rfl, by decide +kernel, by decide +kernel, ug1 1 (by decide +kernel) rfl⟩
theorem miX6_mustExist : MI yX6_mustExist cX6_mustExist 1 none 1 := ⟨ug3 172 (by decide +kernel) rfl, by decide +kernel, by decide +kernel, ug1 1 (by decide +kernel) rfl⟩
theorem miAF_fill : MI yAF_fill cAF_fill 4 none 2 := ⟨ug1 56 (by decide +kernel) rfl, by decide +kernel, by decide +kernel, ug1 4 (by decide +kernel) rfl⟩
theorem mv0_50 : MV RX0 50 yX4_cellCount := ⟨ug3 48 (by decide +kernel) rfl, ug3 12 (by decide +kernel) rfl, ug3 13 (by decide +kernel) rfl⟩
theorem mv0_57 : MV RX0 57 yX4_bandOfGrey := ⟨ug3 49 (by decide +kernel) rfl, ug3 50 (by decide +kernel) rfl, ug3 51 (by decide +kernel) rfl⟩
theorem mv0_61 : MV RX0 61 yX0_gather := ⟨ug3 53 (by decide +kernel) rfl, ug3 55 (by decide +kernel) rfl, ug0 9 (by decide +kernel) rfl⟩
theorem mv0_65 : MV RX0 65 yX0_mergeBelow := ⟨ug3 68 (by decide +kernel) rfl, ug3 69 (by decide +kernel) rfl, ug3 70 (by decide +kernel) rfl⟩
theorem mv0_68 : MV RX0 68 yX0_giveNumbers := ⟨ug3 92 (by decide +kernel) rfl, ug3 94 (by decide +kernel) rfl, ug0 16 (by decide +kernel) rfl⟩
theorem mv0_71 : MV RX0 71 yX0_smallestBelow := ⟨ug3 72 (by decide +kernel) rfl, ug3 74 (by decide +kernel) rfl, ug0 12 (by decide +kernel) rfl⟩
theorem mv0_74 : MV RX0 74 yX0_takerOf := ⟨ug3 76 (by decide +kernel) rfl, ug3 78 (by decide +kernel) rfl, ug0 13 (by decide +kernel) rfl⟩
theorem mv0_77 : MV RX0 77 yX0_measureBorders := ⟨ug3 80 (by decide +kernel) rfl, ug3 82 (by decide +kernel) rfl, ug0 14 (by decide +kernel) rfl⟩
theorem mv0_80 : MV RX0 80 yX0_isBetterTaker := ⟨ug3 85 (by decide +kernel) rfl, ug3 87 (by decide +kernel) rfl, ug0 15 (by decide +kernel) rfl⟩
theorem mv0_89 : MS RX0 89 yAF_fill := ⟨Or.inl (ug3 84 (by decide +kernel) rfl), ug1 55 (by decide +kernel) rfl⟩
theorem mv0_95 : MV RX0 95 yX0_neighbour := ⟨ug3 64 (by decide +kernel) rfl, ug3 66 (by decide +kernel) rfl, ug0 11 (by decide +kernel) rfl⟩
theorem mv0_99 : MV RX0 99 yX0_enqueue := ⟨ug3 57 (by decide +kernel) rfl, ug3 59 (by decide +kernel) rfl, ug0 10 (by decide +kernel) rfl⟩
theorem mv0_105 : MV RX0 105 yX0_otherSidesAt := ⟨ug3 104 (by decide +kernel) rfl, ug3 105 (by decide +kernel) rfl, ug3 106 (by decide +kernel) rfl⟩
theorem mv0_108 : MV RX0 108 yX0_bandOf := ⟨ug4 69 (by decide +kernel) rfl, ug3 234 (by decide +kernel) rfl, ug3 235 (by decide +kernel) rfl⟩
theorem mv0_114 : MV RX0 114 yX0_allSides := ⟨ug4 171 (by decide +kernel) rfl, ug3 101 (by decide +kernel) rfl, ug3 102 (by decide +kernel) rfl⟩
theorem mv1_25 : MV RX1 25 yX4_copyFrom := ⟨ug4 85 (by decide +kernel) rfl, ug4 86 (by decide +kernel) rfl, ug4 87 (by decide +kernel) rfl⟩
theorem mv2_27 : MS RX2 27 yAF_fill := ⟨Or.inl (ug3 116 (by decide +kernel) rfl), ug1 55 (by decide +kernel) rfl⟩
theorem mv2_39 : MV RX2 39 yX0_size := ⟨ug3 117 (by decide +kernel) rfl, ug3 118 (by decide +kernel) rfl, ug3 119 (by decide +kernel) rfl⟩
theorem mv2_43 : MV RX2 43 yX2_findHoles := ⟨ug3 121 (by decide +kernel) rfl, ug3 123 (by decide +kernel) rfl, ug0 18 (by decide +kernel) rfl⟩
theorem mv2_50 : MV RX2 50 yX0_islandAt := ⟨ug3 125 (by decide +kernel) rfl, ug3 126 (by decide +kernel) rfl, ug3 127 (by decide +kernel) rfl⟩
theorem mv2_53 : MV RX2 53 yX2_gatherAround := ⟨ug3 129 (by decide +kernel) rfl, ug3 131 (by decide +kernel) rfl, ug0 19 (by decide +kernel) rfl⟩
theorem mv2_57 : MV RX2 57 yX2_reachesEdge := ⟨ug3 137 (by decide +kernel) rfl, ug3 139 (by decide +kernel) rfl, ug0 20 (by decide +kernel) rfl⟩
theorem mv2_61 : MV RX2 61 yX2_takeHole := ⟨ug3 145 (by decide +kernel) rfl, ug3 147 (by decide +kernel) rfl, ug0 21 (by decide +kernel) rfl⟩
theorem mv2_68 : MV RX2 68 yX0_isOnPlate := ⟨ug3 133 (by decide +kernel) rfl, ug3 134 (by decide +kernel) rfl, ug3 135 (by decide +kernel) rfl⟩
theorem mv2_72 : MV RX2 72 yX0_isAtEdge := ⟨ug3 141 (by decide +kernel) rfl, ug3 142 (by decide +kernel) rfl, ug3 143 (by decide +kernel) rfl⟩
theorem mv2_76 : MV RX2 76 yX0_isFirstCell := ⟨ug3 149 (by decide +kernel) rfl, ug3 150 (by decide +kernel) rfl, ug3 151 (by decide +kernel) rfl⟩
theorem mv3_24 : MV RX3 24 yX0_firstCell := ⟨ug4 31 (by decide +kernel) rfl, ug3 229 (by decide +kernel) rfl, ug3 230 (by decide +kernel) rfl⟩
theorem mv3_33 : MS RX3 33 yX3_eastOf := ⟨Or.inl (ug4 32 (by decide +kernel) rfl), ug4 33 (by decide +kernel) rfl⟩
theorem mv3_36 : MS RX3 36 yX3_southOf := ⟨Or.inl (ug4 35 (by decide +kernel) rfl), ug4 36 (by decide +kernel) rfl⟩
theorem mv3_39 : MV RX3 39 yX3_turned := ⟨ug4 38 (by decide +kernel) rfl, ug4 40 (by decide +kernel) rfl, ug0 22 (by decide +kernel) rfl⟩
theorem mv3_43 : MS RX3 43 yX3_isOfIsland := ⟨Or.inl (ug4 42 (by decide +kernel) rfl), ug4 43 (by decide +kernel) rfl⟩
theorem mv3_47 : MV RX3 47 yX0_isOnPlate := ⟨ug4 45 (by decide +kernel) rfl, ug3 134 (by decide +kernel) rfl, ug3 135 (by decide +kernel) rfl⟩
theorem mv3_51 : MV RX3 51 yX0_islandAt := ⟨ug4 46 (by decide +kernel) rfl, ug3 126 (by decide +kernel) rfl, ug3 127 (by decide +kernel) rfl⟩
theorem mv4_21 : MV RX4 21 yX4_reset := ⟨ug1 46 (by decide +kernel) rfl, ug1 47 (by decide +kernel) rfl, ug1 48 (by decide +kernel) rfl⟩
theorem mv4_25 : MV RX4 25 yX4_takePlate := ⟨ug1 50 (by decide +kernel) rfl, ug1 51 (by decide +kernel) rfl, ug1 52 (by decide +kernel) rfl⟩
theorem mv4_44 : MS RX4 44 yAF_fill := ⟨Or.inl (ug1 54 (by decide +kernel) rfl), ug1 55 (by decide +kernel) rfl⟩
theorem mv4_56 : MV RX4 56 yX4_cellCount := ⟨ug3 11 (by decide +kernel) rfl, ug3 12 (by decide +kernel) rfl, ug3 13 (by decide +kernel) rfl⟩
theorem mv4_60 : MV RX4 60 yX4_cellNumber := ⟨ug2 203 (by decide +kernel) rfl, ug2 204 (by decide +kernel) rfl, ug2 205 (by decide +kernel) rfl⟩
theorem mv4_64 : MV RX4 64 yX4_hasCell := ⟨ug2 194 (by decide +kernel) rfl, ug2 195 (by decide +kernel) rfl, ug2 196 (by decide +kernel) rfl⟩
theorem mv4_68 : MS RX4 68 yX6_isWithin := ⟨Or.inr ⟨"BandEngraver", nw2 198 (by decide +kernel) rfl⟩, ug2 32 (by decide +kernel) rfl⟩
theorem mv4_72 : MV RX4 72 yX4_setGrey := ⟨ug2 199 (by decide +kernel) rfl, ug2 200 (by decide +kernel) rfl, ug2 201 (by decide +kernel) rfl⟩
theorem mv4_76 : MV RX4 76 yX4_fillBox := ⟨ug2 211 (by decide +kernel) rfl, ug2 212 (by decide +kernel) rfl, ug2 213 (by decide +kernel) rfl⟩
theorem mv4_80 : MV RX4 80 yX4_indexOfThreshold := ⟨ug2 223 (by decide +kernel) rfl, ug2 224 (by decide +kernel) rfl, ug2 225 (by decide +kernel) rfl⟩
theorem mv4_84 : MV RX4 84 yX4_putThreshold := ⟨ug2 231 (by decide +kernel) rfl, ug2 233 (by decide +kernel) rfl, ug0 5 (by decide +kernel) rfl⟩
theorem mv4_88 : MV RX4 88 yX4_takeThreshold := ⟨ug2 235 (by decide +kernel) rfl, ug2 237 (by decide +kernel) rfl, ug0 6 (by decide +kernel) rfl⟩
theorem mv4_91 : MV RX4 91 yX4_canChangeThreshold := ⟨ug2 219 (by decide +kernel) rfl, ug2 220 (by decide +kernel) rfl, ug2 221 (by decide +kernel) rfl⟩
theorem mv4_95 : MV RX4 95 yX4_changeThreshold := ⟨ug2 227 (by decide +kernel) rfl, ug2 228 (by decide +kernel) rfl, ug2 229 (by decide +kernel) rfl⟩
theorem mv4_99 : MV RX4 99 yX4_leastAbove := ⟨ug4 111 (by decide +kernel) rfl, ug4 113 (by decide +kernel) rfl, ug0 24 (by decide +kernel) rfl⟩
theorem mv4_102 : MV RX4 102 yX4_cellsBelow := ⟨ug4 115 (by decide +kernel) rfl, ug4 117 (by decide +kernel) rfl, ug0 25 (by decide +kernel) rfl⟩
theorem mv4_105 : MV RX4 105 yX4_blurredGrey := ⟨ug3 25 (by decide +kernel) rfl, ug3 27 (by decide +kernel) rfl, ug0 7 (by decide +kernel) rfl⟩
theorem mv4_109 : MS RX4 109 yX4_spreadOut := ⟨Or.inl (ug3 15 (by decide +kernel) rfl), ug3 16 (by decide +kernel) rfl⟩
theorem mv4_112 : MV RX4 112 yX4_spreadGreys := ⟨ug3 7 (by decide +kernel) rfl, ug3 8 (by decide +kernel) rfl, ug3 9 (by decide +kernel) rfl⟩
theorem mv5_19 : MV RX5 19 yX5_isFull := ⟨ug2 126 (by decide +kernel) rfl, ug2 103 (by decide +kernel) rfl, ug2 104 (by decide +kernel) rfl⟩
theorem mv5_23 : MV RX5 23 yX5_signAt := ⟨ug2 144 (by decide +kernel) rfl, ug2 145 (by decide +kernel) rfl, ug2 146 (by decide +kernel) rfl⟩
theorem mv5_27 : MS RX5 27 yX5_numbersOf := ⟨Or.inl (ug2 148 (by decide +kernel) rfl), ug2 149 (by decide +kernel) rfl⟩
theorem mv5_36 : MV RX5 36 yX5_errorInWord := ⟨ug2 140 (by decide +kernel) rfl, ug2 142 (by decide +kernel) rfl, ug0 1 (by decide +kernel) rfl⟩
theorem mv5_40 : MV RX5 40 yX5_wordEnd := ⟨ug2 151 (by decide +kernel) rfl, ug2 152 (by decide +kernel) rfl, ug2 153 (by decide +kernel) rfl⟩
theorem mv5_43 : MV RX5 43 yX5_isDigitAllowed := ⟨ug2 158 (by decide +kernel) rfl, ug2 160 (by decide +kernel) rfl, ug0 2 (by decide +kernel) rfl⟩
theorem mv5_47 : MS RX5 47 yX6_isWithin := ⟨Or.inr ⟨"BandEngraver", nw2 162 (by decide +kernel) rfl⟩, ug2 32 (by decide +kernel) rfl⟩
theorem mv5_50 : MS RX5 50 yX5_lowestNumber := ⟨Or.inl (ug2 163 (by decide +kernel) rfl), ug2 164 (by decide +kernel) rfl⟩
theorem mv5_53 : MS RX5 53 yX5_highestNumber := ⟨Or.inl (ug2 166 (by decide +kernel) rfl), ug2 167 (by decide +kernel) rfl⟩
theorem mv5_56 : MV RX5 56 yX5_numberAt := ⟨ug2 169 (by decide +kernel) rfl, ug2 170 (by decide +kernel) rfl, ug2 171 (by decide +kernel) rfl⟩
theorem mv6_76 : MS RX6 76 yX6_mustBeWithin := ⟨Or.inl (ug2 28 (by decide +kernel) rfl), ug2 29 (by decide +kernel) rfl⟩
theorem mv6_80 : MV RX6 80 yX5_isFull := ⟨ug2 102 (by decide +kernel) rfl, ug2 103 (by decide +kernel) rfl, ug2 104 (by decide +kernel) rfl⟩
theorem mv6_91 : MV RX6 91 yX5_add := ⟨ug2 122 (by decide +kernel) rfl, ug2 123 (by decide +kernel) rfl, ug2 124 (by decide +kernel) rfl⟩
theorem mv6_99 : MV RX6 99 yX5_firstError := ⟨ug2 136 (by decide +kernel) rfl, ug2 137 (by decide +kernel) rfl, ug2 138 (by decide +kernel) rfl⟩
theorem mv6_104 : MV RX6 104 yX1_forgetAll := ⟨ug2 174 (by decide +kernel) rfl, ug2 175 (by decide +kernel) rfl, ug2 176 (by decide +kernel) rfl⟩
theorem mv6_107 : MV RX6 107 yX6_forgetFindings := ⟨ug2 178 (by decide +kernel) rfl, ug2 180 (by decide +kernel) rfl, ug0 3 (by decide +kernel) rfl⟩
theorem mv6_110 : MV RX6 110 yX5_numberAt := ⟨ug2 182 (by decide +kernel) rfl, ug2 170 (by decide +kernel) rfl, ug2 171 (by decide +kernel) rfl⟩
theorem mv6_113 : MV RX6 113 yX4_reset := ⟨ug2 183 (by decide +kernel) rfl, ug1 47 (by decide +kernel) rfl, ug1 48 (by decide +kernel) rfl⟩
theorem mv6_117 : MV RX6 117 yX5_wordEnd := ⟨ug2 184 (by decide +kernel) rfl, ug2 152 (by decide +kernel) rfl, ug2 153 (by decide +kernel) rfl⟩
theorem mv6_124 : MV RX6 124 yX6_obeysWord := ⟨ug2 185 (by decide +kernel) rfl, ug2 187 (by decide +kernel) rfl, ug0 4 (by decide +kernel) rfl⟩
theorem mv6_128 : MV RX6 128 yX5_signAt := ⟨ug2 189 (by decide +kernel) rfl, ug2 145 (by decide +kernel) rfl, ug2 146 (by decide +kernel) rfl⟩
theorem mv6_131 : MV RX6 131 yX4_trySetGrey := ⟨ug2 190 (by decide +kernel) rfl, ug2 191 (by decide +kernel) rfl, ug2 192 (by decide +kernel) rfl⟩
theorem mv6_135 : MV RX6 135 yX4_tryFillBox := ⟨ug2 207 (by decide +kernel) rfl, ug2 208 (by decide +kernel) rfl, ug2 209 (by decide +kernel) rfl⟩
theorem mv6_139 : MV RX6 139 yX4_tryChangeThreshold := ⟨ug2 215 (by decide +kernel) rfl, ug2 216 (by decide +kernel) rfl, ug2 217 (by decide +kernel) rfl⟩
theorem mv6_143 : MV RX6 143 yX4_trySetLeast := ⟨ug2 239 (by decide +kernel) rfl, ug3 0 (by decide +kernel) rfl, ug3 1 (by decide +kernel) rfl⟩
theorem mv6_146 : MV RX6 146 yX4_trySpread := ⟨ug3 3 (by decide +kernel) rfl, ug3 4 (by decide +kernel) rfl, ug3 5 (by decide +kernel) rfl⟩
theorem mv6_149 : MV RX6 149 yX4_blurGreys := ⟨ug3 18 (by decide +kernel) rfl, ug3 19 (by decide +kernel) rfl, ug3 20 (by decide +kernel) rfl⟩
theorem mv6_153 : MV RX6 153 yX4_invertGreys := ⟨ug3 29 (by decide +kernel) rfl, ug3 30 (by decide +kernel) rfl, ug3 31 (by decide +kernel) rfl⟩
theorem mv6_168 : MV RX6 168 yX6_present := ⟨ug3 40 (by decide +kernel) rfl, ug3 42 (by decide +kernel) rfl, ug0 8 (by decide +kernel) rfl⟩
theorem mv6_175 : MV RX6 175 yX0_survey := ⟨ug3 44 (by decide +kernel) rfl, ug3 45 (by decide +kernel) rfl, ug3 46 (by decide +kernel) rfl⟩
theorem mv6_179 : MV RX6 179 yX0_cellsOffTheirGrey := ⟨ug3 96 (by decide +kernel) rfl, ug3 97 (by decide +kernel) rfl, ug3 98 (by decide +kernel) rfl⟩
theorem mv6_183 : MV RX6 183 yX0_allSides := ⟨ug3 100 (by decide +kernel) rfl, ug3 101 (by decide +kernel) rfl, ug3 102 (by decide +kernel) rfl⟩
theorem mv6_186 : MV RX6 186 yX6_presentNest := ⟨ug3 108 (by decide +kernel) rfl, ug3 110 (by decide +kernel) rfl, ug0 17 (by decide +kernel) rfl⟩
theorem mv6_190 : MV RX6 190 yX2_allHoles := ⟨ug3 153 (by decide +kernel) rfl, ug3 154 (by decide +kernel) rfl, ug3 155 (by decide +kernel) rfl⟩
theorem mv6_196 : MV RX6 196 yX4_sumOfGreys := ⟨ug3 157 (by decide +kernel) rfl, ug3 158 (by decide +kernel) rfl, ug3 159 (by decide +kernel) rfl⟩
theorem mv6_199 : MV RX6 199 yX4_hasCell := ⟨ug3 169 (by decide +kernel) rfl, ug2 195 (by decide +kernel) rfl, ug2 196 (by decide +kernel) rfl⟩
theorem mv6_203 : MS RX6 203 yX6_mustExist := ⟨Or.inl (ug3 170 (by decide +kernel) rfl), ug3 171 (by decide +kernel) rfl⟩
theorem mv6_207 : MV RX6 207 yX4_greyAt := ⟨ug3 189 (by decide +kernel) rfl, ug3 190 (by decide +kernel) rfl, ug3 191 (by decide +kernel) rfl⟩
theorem mv6_211 : MV RX6 211 yX4_bandOfGrey := ⟨ug3 193 (by decide +kernel) rfl, ug3 50 (by decide +kernel) rfl, ug3 51 (by decide +kernel) rfl⟩
theorem mv6_214 : MV RX6 214 yX4_cellNumber := ⟨ug3 194 (by decide +kernel) rfl, ug2 204 (by decide +kernel) rfl, ug2 205 (by decide +kernel) rfl⟩
theorem mv6_217 : MV RX6 217 yX0_bandAt := ⟨ug3 195 (by decide +kernel) rfl, ug3 196 (by decide +kernel) rfl, ug3 197 (by decide +kernel) rfl⟩
theorem mv6_220 : MV RX6 220 yX0_islandAt := ⟨ug3 199 (by decide +kernel) rfl, ug3 126 (by decide +kernel) rfl, ug3 127 (by decide +kernel) rfl⟩
theorem mv6_223 : MV RX6 223 yX0_otherSidesAt := ⟨ug3 200 (by decide +kernel) rfl, ug3 105 (by decide +kernel) rfl, ug3 106 (by decide +kernel) rfl⟩
theorem mv6_226 : MV RX6 226 yX4_distanceToOtherBand := ⟨ug3 201 (by decide +kernel) rfl, ug3 202 (by decide +kernel) rfl, ug3 203 (by decide +kernel) rfl⟩
theorem mv6_229 : MV RX6 229 yX4_hasThreshold := ⟨ug3 213 (by decide +kernel) rfl, ug3 214 (by decide +kernel) rfl, ug3 215 (by decide +kernel) rfl⟩
theorem mv6_235 : MV RX6 235 yX0_has := ⟨ug3 224 (by decide +kernel) rfl, ug3 225 (by decide +kernel) rfl, ug3 226 (by decide +kernel) rfl⟩
theorem mv6_238 : MV RX6 238 yX0_firstCell := ⟨ug3 228 (by decide +kernel) rfl, ug3 229 (by decide +kernel) rfl, ug3 230 (by decide +kernel) rfl⟩
theorem mv6_241 : MV RX6 241 yX0_size := ⟨ug3 232 (by decide +kernel) rfl, ug3 118 (by decide +kernel) rfl, ug3 119 (by decide +kernel) rfl⟩
theorem mv6_244 : MV RX6 244 yX0_bandOf := ⟨ug3 233 (by decide +kernel) rfl, ug3 234 (by decide +kernel) rfl, ug3 235 (by decide +kernel) rfl⟩
theorem mv6_247 : MV RX6 247 yX0_sidesToOthers := ⟨ug3 237 (by decide +kernel) rfl, ug3 238 (by decide +kernel) rfl, ug3 239 (by decide +kernel) rfl⟩
theorem mv6_250 : MV RX6 250 yX0_sidesAtEdge := ⟨ug4 1 (by decide +kernel) rfl, ug4 2 (by decide +kernel) rfl, ug4 3 (by decide +kernel) rfl⟩
theorem mv6_253 : MV RX6 253 yX0_neighbourCount := ⟨ug4 5 (by decide +kernel) rfl, ug4 6 (by decide +kernel) rfl, ug4 7 (by decide +kernel) rfl⟩
theorem mv6_265 : MV RX6 265 yX0_commonSides := ⟨ug4 16 (by decide +kernel) rfl, ug4 17 (by decide +kernel) rfl, ug4 18 (by decide +kernel) rfl⟩
theorem mv6_268 : MV RX6 268 yX3_follow := ⟨ug4 27 (by decide +kernel) rfl, ug4 28 (by decide +kernel) rfl, ug4 29 (by decide +kernel) rfl⟩
theorem mv6_287 : MV RX6 287 yX0_cellsOfBand := ⟨ug4 61 (by decide +kernel) rfl, ug4 62 (by decide +kernel) rfl, ug4 63 (by decide +kernel) rfl⟩
theorem mv6_290 : MV RX6 290 yX0_islandsOfBand := ⟨ug4 65 (by decide +kernel) rfl, ug4 66 (by decide +kernel) rfl, ug4 67 (by decide +kernel) rfl⟩
theorem mv6_293 : MV RX6 293 yX0_inkNeeded := ⟨ug4 167 (by decide +kernel) rfl, ug4 168 (by decide +kernel) rfl, ug4 169 (by decide +kernel) rfl⟩
theorem mv6_296 : MV RX6 296 yX6_beginAction := ⟨ug4 77 (by decide +kernel) rfl, ug4 79 (by decide +kernel) rfl, ug0 23 (by decide +kernel) rfl⟩
theorem mv6_299 : MV RX6 299 yX4_takePlate := ⟨ug4 90 (by decide +kernel) rfl, ug1 51 (by decide +kernel) rfl, ug1 52 (by decide +kernel) rfl⟩
theorem mv6_302 : MV RX6 302 yX4_cellCount := ⟨ug4 91 (by decide +kernel) rfl, ug3 12 (by decide +kernel) rfl, ug3 13 (by decide +kernel) rfl⟩
theorem mv6_305 : MV RX6 305 yX4_setGrey := ⟨ug4 99 (by decide +kernel) rfl, ug2 200 (by decide +kernel) rfl, ug2 201 (by decide +kernel) rfl⟩
theorem mv6_314 : MV RX6 314 yX4_fillBox := ⟨ug4 217 (by decide +kernel) rfl, ug2 212 (by decide +kernel) rfl, ug2 213 (by decide +kernel) rfl⟩
theorem mv6_318 : MV RX6 318 yX4_canChangeThreshold := ⟨ug4 225 (by decide +kernel) rfl, ug2 220 (by decide +kernel) rfl, ug2 221 (by decide +kernel) rfl⟩
theorem mv6_323 : MV RX6 323 yX4_changeThreshold := ⟨ug4 227 (by decide +kernel) rfl, ug2 228 (by decide +kernel) rfl, ug2 229 (by decide +kernel) rfl⟩
theorem mv6_327 : MV RX6 327 yX4_shareThresholds := ⟨ug4 107 (by decide +kernel) rfl, ug4 108 (by decide +kernel) rfl, ug4 109 (by decide +kernel) rfl⟩
theorem mv6_330 : MS RX6 330 yX6_isWithin := ⟨Or.inl (ug2 31 (by decide +kernel) rfl), ug2 32 (by decide +kernel) rfl⟩
theorem mv6_333 : MV RX6 333 yX4_spreadGreys := ⟨ug4 147 (by decide +kernel) rfl, ug3 8 (by decide +kernel) rfl, ug3 9 (by decide +kernel) rfl⟩
theorem mv6_336 : MV RX6 336 yX4_addNoise := ⟨ug4 235 (by decide +kernel) rfl, ug4 236 (by decide +kernel) rfl, ug4 237 (by decide +kernel) rfl⟩
theorem mv6_343 : MV RX6 343 yX1_takeBack := ⟨ug4 156 (by decide +kernel) rfl, ug4 157 (by decide +kernel) rfl, ug4 158 (by decide +kernel) rfl⟩
theorem mv6_347 : MV RX6 347 yX1_remember := ⟨ug4 81 (by decide +kernel) rfl, ug4 82 (by decide +kernel) rfl, ug4 83 (by decide +kernel) rfl⟩
theorem mv6_350 : MV RX6 350 yX0_mergeBelow := ⟨ug4 179 (by decide +kernel) rfl, ug3 69 (by decide +kernel) rfl, ug3 70 (by decide +kernel) rfl⟩
theorem mv6_354 : MV RX6 354 yX4_copyFrom := ⟨ug4 187 (by decide +kernel) rfl, ug4 86 (by decide +kernel) rfl, ug4 87 (by decide +kernel) rfl⟩
theorem mv6_357 : MV RX6 357 yX4_hasGrey := ⟨ug4 188 (by decide +kernel) rfl, ug4 189 (by decide +kernel) rfl, ug4 190 (by decide +kernel) rfl⟩
theorem mv6_360 : MV RX6 360 yX4_indexOfThreshold := ⟨ug4 192 (by decide +kernel) rfl, ug2 224 (by decide +kernel) rfl, ug2 225 (by decide +kernel) rfl⟩
theorem mv6_368 : MV RX6 368 yX0_cellsOtherThan := ⟨ug5 10 (by decide +kernel) rfl, ug5 11 (by decide +kernel) rfl, ug5 12 (by decide +kernel) rfl⟩
theorem mv6_378 : MV RX6 378 yX6_obeysGroup := ⟨ug5 24 (by decide +kernel) rfl, ug5 26 (by decide +kernel) rfl, ug0 26 (by decide +kernel) rfl⟩
theorem mv6_383 : MV RX6 383 yX6_holdsGroup := ⟨ug5 30 (by decide +kernel) rfl, ug5 32 (by decide +kernel) rfl, ug0 27 (by decide +kernel) rfl⟩
theorem mv6_390 : MV RX6 390 yX6_takeTurn := ⟨ug5 44 (by decide +kernel) rfl, ug5 46 (by decide +kernel) rfl, ug0 28 (by decide +kernel) rfl⟩
theorem mv6_395 : MV RX6 395 yX2_explore := ⟨ug3 112 (by decide +kernel) rfl, ug3 113 (by decide +kernel) rfl, ug3 114 (by decide +kernel) rfl⟩
theorem mvL_7 : MV RL 7 yX6_threshold := ⟨ug4 221 (by decide +kernel) rfl, ug4 222 (by decide +kernel) rfl, ug4 223 (by decide +kernel) rfl⟩
theorem mvL_19 : MV RL 19 yX6_box := ⟨ug4 212 (by decide +kernel) rfl, ug4 213 (by decide +kernel) rfl, ug4 214 (by decide +kernel) rfl⟩
theorem mvL_26 : MV RL 26 yX6_noise := ⟨ug4 231 (by decide +kernel) rfl, ug4 232 (by decide +kernel) rfl, ug4 233 (by decide +kernel) rfl⟩
theorem mvL_30 : MV RL 30 yX6_ifCell := ⟨ug5 6 (by decide +kernel) rfl, ug5 7 (by decide +kernel) rfl, ug5 8 (by decide +kernel) rfl⟩
theorem mvL_34 : MV RL 34 yX6_runScript := ⟨ug5 17 (by decide +kernel) rfl, ug5 18 (by decide +kernel) rfl, ug5 19 (by decide +kernel) rfl⟩
theorem mvL_38 : MV RL 38 yX6_simulate := ⟨ug5 38 (by decide +kernel) rfl, ug5 39 (by decide +kernel) rfl, ug5 40 (by decide +kernel) rfl⟩
theorem mvL_41 : MV RL 41 yX6_append := ⟨ug2 24 (by decide +kernel) rfl, ug2 25 (by decide +kernel) rfl, ug2 26 (by decide +kernel) rfl⟩
theorem mvL_45 : MV RL 45 yX6_load := ⟨ug2 132 (by decide +kernel) rfl, ug2 133 (by decide +kernel) rfl, ug2 134 (by decide +kernel) rfl⟩
theorem mvL_49 : MV RL 49 yX6_about := ⟨ug3 36 (by decide +kernel) rfl, ug3 37 (by decide +kernel) rfl, ug3 38 (by decide +kernel) rfl⟩
theorem mvL_52 : MV RL 52 yX6_cellOf := ⟨ug3 165 (by decide +kernel) rfl, ug3 166 (by decide +kernel) rfl, ug3 167 (by decide +kernel) rfl⟩
theorem mvL_56 : MV RL 56 yX6_thresholdAt := ⟨ug3 209 (by decide +kernel) rfl, ug3 210 (by decide +kernel) rfl, ug3 211 (by decide +kernel) rfl⟩
theorem mvL_59 : MV RL 59 yX6_island := ⟨ug3 220 (by decide +kernel) rfl, ug3 221 (by decide +kernel) rfl, ug3 222 (by decide +kernel) rfl⟩
theorem mvL_63 : MV RL 63 yX6_border := ⟨ug4 12 (by decide +kernel) rfl, ug4 13 (by decide +kernel) rfl, ug4 14 (by decide +kernel) rfl⟩
theorem mvL_66 : MV RL 66 yX6_outline := ⟨ug4 23 (by decide +kernel) rfl, ug4 24 (by decide +kernel) rfl, ug4 25 (by decide +kernel) rfl⟩
theorem mvL_69 : MV RL 69 yX6_outlineWay := ⟨ug4 50 (by decide +kernel) rfl, ug4 51 (by decide +kernel) rfl, ug4 52 (by decide +kernel) rfl⟩
theorem mvL_72 : MV RL 72 yX6_band := ⟨ug4 57 (by decide +kernel) rfl, ug4 58 (by decide +kernel) rfl, ug4 59 (by decide +kernel) rfl⟩
theorem mvL_75 : MV RL 75 yX6_plate := ⟨ug4 73 (by decide +kernel) rfl, ug4 74 (by decide +kernel) rfl, ug4 75 (by decide +kernel) rfl⟩
theorem mvL_78 : MV RL 78 yX6_cell := ⟨ug4 95 (by decide +kernel) rfl, ug4 96 (by decide +kernel) rfl, ug4 97 (by decide +kernel) rfl⟩
theorem mvL_81 : MV RL 81 yX6_share := ⟨ug4 103 (by decide +kernel) rfl, ug4 104 (by decide +kernel) rfl, ug4 105 (by decide +kernel) rfl⟩
theorem mvL_84 : MV RL 84 yX6_least := ⟨ug4 122 (by decide +kernel) rfl, ug4 123 (by decide +kernel) rfl, ug4 124 (by decide +kernel) rfl⟩
theorem mvL_87 : MV RL 87 yX6_hatch := ⟨ug4 129 (by decide +kernel) rfl, ug4 130 (by decide +kernel) rfl, ug4 131 (by decide +kernel) rfl⟩
theorem mvL_90 : MV RL 90 yX6_line := ⟨ug4 136 (by decide +kernel) rfl, ug4 137 (by decide +kernel) rfl, ug4 138 (by decide +kernel) rfl⟩
theorem mvL_93 : MV RL 93 yX6_spread := ⟨ug4 143 (by decide +kernel) rfl, ug4 144 (by decide +kernel) rfl, ug4 145 (by decide +kernel) rfl⟩
theorem mvL_96 : MV RL 96 yX6_undo := ⟨ug4 151 (by decide +kernel) rfl, ug4 152 (by decide +kernel) rfl, ug4 153 (by decide +kernel) rfl⟩
theorem mvL_99 : MV RL 99 yX6_ifLeast := ⟨ug4 163 (by decide +kernel) rfl, ug4 164 (by decide +kernel) rfl, ug4 165 (by decide +kernel) rfl⟩
theorem mvL_102 : MV RL 102 yX6_leastFor := ⟨ug4 175 (by decide +kernel) rfl, ug4 176 (by decide +kernel) rfl, ug4 177 (by decide +kernel) rfl⟩
theorem mvL_105 : MV RL 105 yX6_bestMove := ⟨ug4 183 (by decide +kernel) rfl, ug4 184 (by decide +kernel) rfl, ug4 185 (by decide +kernel) rfl⟩
theorem mvL_108 : MV RL 108 yX6_save := ⟨ug4 197 (by decide +kernel) rfl, ug4 198 (by decide +kernel) rfl, ug4 199 (by decide +kernel) rfl⟩
theorem mvL_111 : MV RL 111 yX6_restore := ⟨ug4 204 (by decide +kernel) rfl, ug4 205 (by decide +kernel) rfl, ug4 206 (by decide +kernel) rfl⟩
theorem mvL_114 : MS RL 114 yL_tryAppend := ⟨Or.inl (ug2 19 (by decide +kernel) rfl), ug2 20 (by decide +kernel) rfl⟩
theorem mvL_120 : MS RL 120 yL_tryLoad := ⟨Or.inl (ug2 129 (by decide +kernel) rfl), ug2 130 (by decide +kernel) rfl⟩
theorem mvL_124 : MS RL 124 yL_tryAbout := ⟨Or.inl (ug3 33 (by decide +kernel) rfl), ug3 34 (by decide +kernel) rfl⟩
theorem mvL_127 : MS RL 127 yL_tryCell := ⟨Or.inl (ug3 161 (by decide +kernel) rfl), ug3 162 (by decide +kernel) rfl⟩
theorem mvL_131 : MS RL 131 yL_tryPart := ⟨Or.inl (ug3 206 (by decide +kernel) rfl), ug3 207 (by decide +kernel) rfl⟩
theorem mvL_134 : MS RL 134 yL_tryIsle := ⟨Or.inl (ug3 217 (by decide +kernel) rfl), ug3 218 (by decide +kernel) rfl⟩
theorem mvL_138 : MS RL 138 yL_tryBorder := ⟨Or.inl (ug4 9 (by decide +kernel) rfl), ug4 10 (by decide +kernel) rfl⟩
theorem mvL_141 : MS RL 141 yL_tryOutline := ⟨Or.inl (ug4 20 (by decide +kernel) rfl), ug4 21 (by decide +kernel) rfl⟩
theorem mvL_144 : MS RL 144 yL_tryWay := ⟨Or.inl (ug4 47 (by decide +kernel) rfl), ug4 48 (by decide +kernel) rfl⟩
theorem mvL_147 : MS RL 147 yL_tryBand := ⟨Or.inl (ug4 54 (by decide +kernel) rfl), ug4 55 (by decide +kernel) rfl⟩
theorem mvL_150 : MS RL 150 yL_tryPlate := ⟨Or.inl (ug4 70 (by decide +kernel) rfl), ug4 71 (by decide +kernel) rfl⟩
theorem mvL_153 : MS RL 153 yL_tryPaint := ⟨Or.inl (ug4 92 (by decide +kernel) rfl), ug4 93 (by decide +kernel) rfl⟩
theorem mvL_156 : MS RL 156 yL_tryShare := ⟨Or.inl (ug4 100 (by decide +kernel) rfl), ug4 101 (by decide +kernel) rfl⟩
theorem mvL_159 : MS RL 159 yL_tryLeast := ⟨Or.inl (ug4 119 (by decide +kernel) rfl), ug4 120 (by decide +kernel) rfl⟩
theorem mvL_162 : MS RL 162 yL_tryHatch := ⟨Or.inl (ug4 126 (by decide +kernel) rfl), ug4 127 (by decide +kernel) rfl⟩
theorem mvL_165 : MS RL 165 yL_tryLine := ⟨Or.inl (ug4 133 (by decide +kernel) rfl), ug4 134 (by decide +kernel) rfl⟩
theorem mvL_168 : MS RL 168 yL_trySpread := ⟨Or.inl (ug4 140 (by decide +kernel) rfl), ug4 141 (by decide +kernel) rfl⟩
theorem mvL_171 : MS RL 171 yL_tryUndo := ⟨Or.inl (ug4 148 (by decide +kernel) rfl), ug4 149 (by decide +kernel) rfl⟩
theorem mvL_174 : MS RL 174 yL_tryIf := ⟨Or.inl (ug4 160 (by decide +kernel) rfl), ug4 161 (by decide +kernel) rfl⟩
theorem mvL_177 : MS RL 177 yL_tryFor := ⟨Or.inl (ug4 172 (by decide +kernel) rfl), ug4 173 (by decide +kernel) rfl⟩
theorem mvL_180 : MS RL 180 yL_tryBest := ⟨Or.inl (ug4 180 (by decide +kernel) rfl), ug4 181 (by decide +kernel) rfl⟩
theorem mvL_183 : MS RL 183 yL_tryKeep := ⟨Or.inl (ug4 194 (by decide +kernel) rfl), ug4 195 (by decide +kernel) rfl⟩
theorem mvL_186 : MS RL 186 yL_tryBack := ⟨Or.inl (ug4 201 (by decide +kernel) rfl), ug4 202 (by decide +kernel) rfl⟩
theorem mvL_191 : MS RL 191 yL_call := ⟨Or.inl (ug2 16 (by decide +kernel) rfl), ug2 17 (by decide +kernel) rfl⟩
theorem mvL_195 : MS RL 195 yL_boxes := ⟨Or.inl (ug4 209 (by decide +kernel) rfl), ug4 210 (by decide +kernel) rfl⟩
theorem mvL_199 : MS RL 199 yL_parts := ⟨Or.inl (ug4 218 (by decide +kernel) rfl), ug4 219 (by decide +kernel) rfl⟩
theorem mvL_203 : MS RL 203 yL_noises := ⟨Or.inl (ug4 228 (by decide +kernel) rfl), ug4 229 (by decide +kernel) rfl⟩
theorem mvL_207 : MS RL 207 yL_would := ⟨Or.inl (ug5 3 (by decide +kernel) rfl), ug5 4 (by decide +kernel) rfl⟩
theorem mvL_210 : MS RL 210 yL_doScript := ⟨Or.inl (ug5 14 (by decide +kernel) rfl), ug5 15 (by decide +kernel) rfl⟩
theorem mvL_216 : MS RL 216 yL_doSimulate := ⟨Or.inl (ug5 35 (by decide +kernel) rfl), ug5 36 (by decide +kernel) rfl⟩
theorem mvL_219 : MS RL 219 yL_pair := ⟨Or.inl (ug5 51 (by decide +kernel) rfl), ug5 52 (by decide +kernel) rfl⟩
theorem mvL_223 : MV RL 223 yX6_ink := ⟨ug5 54 (by decide +kernel) rfl, ug5 55 (by decide +kernel) rfl, ug5 56 (by decide +kernel) rfl⟩
theorem mvL_226 : MV RL 226 yX6_blur := ⟨ug5 61 (by decide +kernel) rfl, ug5 62 (by decide +kernel) rfl, ug5 63 (by decide +kernel) rfl⟩
theorem mvL_229 : MV RL 229 yX6_invert := ⟨ug5 65 (by decide +kernel) rfl, ug5 66 (by decide +kernel) rfl, ug5 67 (by decide +kernel) rfl⟩
theorem mvL_233 : MS RL 233 yL_cell := ⟨Or.inl (ug2 8 (by decide +kernel) rfl), ug2 9 (by decide +kernel) rfl⟩
theorem mvL_236 : MS RL 236 yL_act := ⟨Or.inl (ug5 58 (by decide +kernel) rfl), ug5 59 (by decide +kernel) rfl⟩
theorem mvL_240 : MS RL 240 yL_refuses := ⟨Or.inl (ug2 13 (by decide +kernel) rfl), ug2 14 (by decide +kernel) rfl⟩
theorem mvL_244 : MS RL 244 yL_alike := ⟨Or.inl (ug5 69 (by decide +kernel) rfl), ug5 70 (by decide +kernel) rfl⟩
theorem mvL_248 : MS RL 248 yL_holds := ⟨Or.inl (ug5 48 (by decide +kernel) rfl), ug5 49 (by decide +kernel) rfl⟩
theorem mvL_252 : MS RL 252 yL_leasts := ⟨Or.inl (ug5 72 (by decide +kernel) rfl), ug5 73 (by decide +kernel) rfl⟩
theorem mvL_255 : MS RL 255 yL_paints := ⟨Or.inl (ug5 78 (by decide +kernel) rfl), ug5 79 (by decide +kernel) rfl⟩
theorem mvL_258 : MS RL 258 yL_moves := ⟨Or.inl (ug5 81 (by decide +kernel) rfl), ug5 82 (by decide +kernel) rfl⟩
theorem mvL_261 : MS RL 261 yL_thrown := ⟨Or.inl (ug5 75 (by decide +kernel) rfl), ug5 76 (by decide +kernel) rfl⟩
def rmX0_init : Room := { frames := 2, cells := 0, slots := 0, locals := 60 }
def rmX0_survey : Room := { frames := 5, cells := 0, slots := 0, locals := 134 }
def rmX0_mergeBelow : Room := { frames := 4, cells := 0, slots := 0, locals := 108 }
def rmX0_smallestBelow : Room := { frames := 0, cells := 0, slots := 0, locals := 0 }
def rmX0_takerOf : Room := { frames := 3, cells := 0, slots := 0, locals := 85 }
def rmX0_isBetterTaker : Room := { frames := 2, cells := 0, slots := 0, locals := 60 }
def rmX0_measureBorders : Room := { frames := 1, cells := 0, slots := 0, locals := 23 }
def rmX0_gather : Room := { frames := 2, cells := 0, slots := 0, locals := 60 }
def rmX0_enqueue : Room := { frames := 0, cells := 0, slots := 0, locals := 0 }
def rmX0_giveNumbers : Room := { frames := 0, cells := 0, slots := 0, locals := 0 }
def rmX0_neighbour : Room := { frames := 0, cells := 0, slots := 0, locals := 0 }
def rmX0_isOnPlate : Room := { frames := 0, cells := 0, slots := 0, locals := 0 }
def rmX0_isAtEdge : Room := { frames := 0, cells := 0, slots := 0, locals := 0 }
def rmX0_has : Room := { frames := 0, cells := 0, slots := 0, locals := 0 }
def rmX0_islandAt : Room := { frames := 0, cells := 0, slots := 0, locals := 0 }
def rmX0_isFirstCell : Room := { frames := 0, cells := 0, slots := 0, locals := 0 }
def rmX0_bandAt : Room := { frames := 0, cells := 0, slots := 0, locals := 0 }
def rmX0_firstCell : Room := { frames := 0, cells := 0, slots := 0, locals := 0 }
def rmX0_size : Room := { frames := 0, cells := 0, slots := 0, locals := 0 }
def rmX0_bandOf : Room := { frames := 0, cells := 0, slots := 0, locals := 0 }
def rmX0_otherSidesAt : Room := { frames := 1, cells := 0, slots := 0, locals := 22 }
def rmX0_sidesToOthers : Room := { frames := 2, cells := 0, slots := 0, locals := 47 }
def rmX0_neighbourCount : Room := { frames := 2, cells := 0, slots := 0, locals := 47 }
def rmX0_commonSides : Room := { frames := 2, cells := 0, slots := 0, locals := 47 }
def rmX0_sidesAtEdge : Room := { frames := 1, cells := 0, slots := 0, locals := 22 }
def rmX0_allSides : Room := { frames := 2, cells := 0, slots := 0, locals := 46 }
def rmX0_cellsOffTheirGrey : Room := { frames := 1, cells := 0, slots := 0, locals := 23 }
def rmX0_cellsOtherThan : Room := { frames := 0, cells := 0, slots := 0, locals := 0 }
def rmX0_cellsOfBand : Room := { frames := 0, cells := 0, slots := 0, locals := 0 }
def rmX0_islandsOfBand : Room := { frames := 1, cells := 0, slots := 0, locals := 21 }
def rmX0_inkNeeded : Room := { frames := 3, cells := 0, slots := 0, locals := 68 }
def rmX1_init : Room := { frames := 4, cells := 0, slots := 0, locals := 88 }
def rmX1_remember : Room := { frames := 3, cells := 0, slots := 0, locals := 81 }
def rmX1_takeBack : Room := { frames := 3, cells := 0, slots := 0, locals := 81 }
def rmX1_forgetAll : Room := { frames := 0, cells := 0, slots := 0, locals := 0 }
def rmX2_init : Room := { frames := 2, cells := 0, slots := 0, locals := 60 }
def rmX2_explore : Room := { frames := 3, cells := 0, slots := 0, locals := 76 }
def rmX2_allHoles : Room := { frames := 0, cells := 0, slots := 0, locals := 0 }
def rmX2_findHoles : Room := { frames := 2, cells := 0, slots := 0, locals := 52 }
def rmX2_gatherAround : Room := { frames := 1, cells := 0, slots := 0, locals := 22 }
def rmX2_reachesEdge : Room := { frames := 1, cells := 0, slots := 0, locals := 23 }
def rmX2_takeHole : Room := { frames := 1, cells := 0, slots := 0, locals := 21 }
def rmX3_init : Room := { frames := 2, cells := 0, slots := 0, locals := 60 }
def rmX3_follow : Room := { frames := 3, cells := 0, slots := 0, locals := 74 }
def rmX3_turned : Room := { frames := 2, cells := 0, slots := 0, locals := 48 }
def rmX3_isOfIsland : Room := { frames := 1, cells := 0, slots := 0, locals := 22 }
def rmX3_eastOf : Room := { frames := 0, cells := 0, slots := 0, locals := 0 }
def rmX3_southOf : Room := { frames := 0, cells := 0, slots := 0, locals := 0 }
def rmX4_init : Room := { frames := 3, cells := 0, slots := 0, locals := 68 }
def rmX4_reset : Room := { frames := 2, cells := 0, slots := 0, locals := 45 }
def rmX4_takePlate : Room := { frames := 1, cells := 0, slots := 0, locals := 23 }
def rmX4_copyFrom : Room := { frames := 2, cells := 0, slots := 0, locals := 60 }
def rmX4_cellCount : Room := { frames := 0, cells := 0, slots := 0, locals := 0 }
def rmX4_hasCell : Room := { frames := 0, cells := 0, slots := 0, locals := 0 }
def rmX4_cellNumber : Room := { frames := 0, cells := 0, slots := 0, locals := 0 }
def rmX4_greyAt : Room := { frames := 0, cells := 0, slots := 0, locals := 0 }
def rmX4_hasGrey : Room := { frames := 1, cells := 0, slots := 0, locals := 20 }
def rmX4_sumOfGreys : Room := { frames := 1, cells := 0, slots := 0, locals := 20 }
def rmX4_setGrey : Room := { frames := 1, cells := 0, slots := 0, locals := 22 }
def rmX4_trySetGrey : Room := { frames := 2, cells := 0, slots := 0, locals := 47 }
def rmX4_fillBox : Room := { frames := 2, cells := 0, slots := 0, locals := 47 }
def rmX4_tryFillBox : Room := { frames := 3, cells := 0, slots := 0, locals := 75 }
def rmX4_hasThreshold : Room := { frames := 0, cells := 0, slots := 0, locals := 0 }
def rmX4_indexOfThreshold : Room := { frames := 0, cells := 0, slots := 0, locals := 0 }
def rmX4_canChangeThreshold : Room := { frames := 1, cells := 0, slots := 0, locals := 22 }
def rmX4_changeThreshold : Room := { frames := 1, cells := 0, slots := 0, locals := 23 }
def rmX4_tryChangeThreshold : Room := { frames := 2, cells := 0, slots := 0, locals := 45 }
def rmX4_putThreshold : Room := { frames := 0, cells := 0, slots := 0, locals := 0 }
def rmX4_takeThreshold : Room := { frames := 0, cells := 0, slots := 0, locals := 0 }
def rmX4_shareThresholds : Room := { frames := 3, cells := 0, slots := 0, locals := 66 }
def rmX4_leastAbove : Room := { frames := 2, cells := 0, slots := 0, locals := 44 }
def rmX4_cellsBelow : Room := { frames := 1, cells := 0, slots := 0, locals := 20 }
def rmX4_bandOfGrey : Room := { frames := 0, cells := 0, slots := 0, locals := 0 }
def rmX4_distanceToOtherBand : Room := { frames := 0, cells := 0, slots := 0, locals := 0 }
def rmX4_trySetLeast : Room := { frames := 1, cells := 0, slots := 0, locals := 22 }
def rmX4_blurGreys : Room := { frames := 2, cells := 0, slots := 0, locals := 60 }
def rmX4_blurredGrey : Room := { frames := 1, cells := 0, slots := 0, locals := 22 }
def rmX4_invertGreys : Room := { frames := 1, cells := 0, slots := 0, locals := 20 }
def rmX4_spreadGreys : Room := { frames := 1, cells := 0, slots := 0, locals := 21 }
def rmX4_spreadOut : Room := { frames := 0, cells := 0, slots := 0, locals := 0 }
def rmX4_trySpread : Room := { frames := 2, cells := 0, slots := 0, locals := 46 }
def rmX4_addNoise : Room := { frames := 2, cells := 0, slots := 0, locals := 60 }
def rmX5_init : Room := { frames := 2, cells := 0, slots := 0, locals := 60 }
def rmX5_isFull : Room := { frames := 0, cells := 0, slots := 0, locals := 0 }
def rmX5_add : Room := { frames := 1, cells := 0, slots := 0, locals := 20 }
def rmX5_signAt : Room := { frames := 0, cells := 0, slots := 0, locals := 0 }
def rmX5_numberAt : Room := { frames := 1, cells := 0, slots := 0, locals := 21 }
def rmX5_wordEnd : Room := { frames := 2, cells := 0, slots := 0, locals := 60 }
def rmX5_firstError : Room := { frames := 4, cells := 0, slots := 0, locals := 106 }
def rmX5_errorInWord : Room := { frames := 3, cells := 0, slots := 0, locals := 81 }
def rmX5_isDigitAllowed : Room := { frames := 2, cells := 0, slots := 0, locals := 42 }
def rmX5_numbersOf : Room := { frames := 0, cells := 0, slots := 0, locals := 0 }
def rmX5_lowestNumber : Room := { frames := 0, cells := 0, slots := 0, locals := 0 }
def rmX5_highestNumber : Room := { frames := 0, cells := 0, slots := 0, locals := 0 }
def rmX6_init : Room := { frames := 5, cells := 0, slots := 0, locals := 109 }
def rmX6_append : Room := { frames := 7, cells := 0, slots := 0, locals := 122 }
def rmX6_load : Room := { frames := 6, cells := 0, slots := 0, locals := 129 }
def rmX6_obeysWord : Room := { frames := 4, cells := 0, slots := 0, locals := 100 }
def rmX6_about : Room := { frames := 8, cells := 0, slots := 0, locals := 198 }
def rmX6_cellOf : Room := { frames := 7, cells := 0, slots := 0, locals := 177 }
def rmX6_thresholdAt : Room := { frames := 7, cells := 0, slots := 0, locals := 120 }
def rmX6_island : Room := { frames := 8, cells := 0, slots := 0, locals := 198 }
def rmX6_border : Room := { frames := 7, cells := 0, slots := 0, locals := 177 }
def rmX6_outline : Room := { frames := 7, cells := 0, slots := 0, locals := 177 }
def rmX6_outlineWay : Room := { frames := 7, cells := 0, slots := 0, locals := 177 }
def rmX6_band : Room := { frames := 7, cells := 0, slots := 0, locals := 177 }
def rmX6_ink : Room := { frames := 7, cells := 0, slots := 0, locals := 177 }
def rmX6_plate : Room := { frames := 7, cells := 0, slots := 0, locals := 122 }
def rmX6_cell : Room := { frames := 7, cells := 0, slots := 0, locals := 122 }
def rmX6_box : Room := { frames := 7, cells := 0, slots := 0, locals := 122 }
def rmX6_threshold : Room := { frames := 7, cells := 0, slots := 0, locals := 122 }
def rmX6_share : Room := { frames := 7, cells := 0, slots := 0, locals := 122 }
def rmX6_least : Room := { frames := 7, cells := 0, slots := 0, locals := 122 }
def rmX6_hatch : Room := { frames := 7, cells := 0, slots := 0, locals := 122 }
def rmX6_line : Room := { frames := 7, cells := 0, slots := 0, locals := 122 }
def rmX6_blur : Room := { frames := 5, cells := 0, slots := 0, locals := 122 }
def rmX6_invert : Room := { frames := 5, cells := 0, slots := 0, locals := 122 }
def rmX6_spread : Room := { frames := 7, cells := 0, slots := 0, locals := 122 }
def rmX6_noise : Room := { frames := 7, cells := 0, slots := 0, locals := 122 }
def rmX6_undo : Room := { frames := 6, cells := 0, slots := 0, locals := 102 }
def rmX6_beginAction : Room := { frames := 4, cells := 0, slots := 0, locals := 102 }
def rmX6_ifLeast : Room := { frames := 7, cells := 0, slots := 0, locals := 157 }
def rmX6_leastFor : Room := { frames := 7, cells := 0, slots := 0, locals := 157 }
def rmX6_bestMove : Room := { frames := 7, cells := 0, slots := 0, locals := 157 }
def rmX6_ifCell : Room := { frames := 7, cells := 0, slots := 0, locals := 177 }
def rmX6_runScript : Room := { frames := 7, cells := 0, slots := 0, locals := 183 }
def rmX6_obeysGroup : Room := { frames := 6, cells := 0, slots := 0, locals := 157 }
def rmX6_holdsGroup : Room := { frames := 1, cells := 0, slots := 0, locals := 22 }
def rmX6_simulate : Room := { frames := 7, cells := 0, slots := 0, locals := 157 }
def rmX6_takeTurn : Room := { frames := 4, cells := 0, slots := 0, locals := 100 }
def rmX6_save : Room := { frames := 7, cells := 0, slots := 0, locals := 120 }
def rmX6_restore : Room := { frames := 7, cells := 0, slots := 0, locals := 120 }
def rmX6_present : Room := { frames := 6, cells := 0, slots := 0, locals := 157 }
def rmX6_presentNest : Room := { frames := 7, cells := 0, slots := 0, locals := 177 }
def rmX6_forgetFindings : Room := { frames := 0, cells := 0, slots := 0, locals := 0 }
def rmX6_isWithin : Room := { frames := 0, cells := 0, slots := 0, locals := 0 }
def rmX6_mustBeWithin : Room := { frames := 6, cells := 0, slots := 0, locals := 100 }
def rmX6_mustExist : Room := { frames := 6, cells := 0, slots := 0, locals := 100 }
def rmAF_fill : Room := { frames := 0, cells := 0, slots := 0, locals := 0 }
