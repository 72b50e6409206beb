/-! LINKS: printed by wip/whole/gen/mk06.py out of the tables words. -/
theorem ug0 (i : Nat) {w : Cond} (h : (k2_sels lw_privs)[i]? = some w) (g : goodWord w = true) : w ∈ UG := List.mem_filter.mpr ⟨List.mem_append_left _ (List.mem_of_getElem? h), g⟩
theorem tb1 (i : Nat) {w : Cond} (h : tables_1_1[i]? = some w) : w ∈ tables_1 := by unfold tables_1; exact List.mem_append_left _ (List.mem_of_getElem? h)
theorem ug1 (i : Nat) {w : Cond} (h : tables_1_1[i]? = some w) (g : goodWord w = true) : w ∈ UG := List.mem_filter.mpr ⟨List.mem_append_right _ (tb1 i h), g⟩
theorem nw1 (i : Nat) {w : Cond} (h : tables_1_1[i]? = some w) (g : isNest w = true) : w ∈ nwL := List.mem_filter.mpr ⟨tb1 i h, g⟩
theorem tb2 (i : Nat) {w : Cond} (h : tables_1_2[i]? = some w) : w ∈ tables_1 := by unfold tables_1; exact List.mem_append_right _ (List.mem_append_left _ (List.mem_of_getElem? h))
theorem ug2 (i : Nat) {w : Cond} (h : tables_1_2[i]? = some w) (g : goodWord w = true) : w ∈ UG := List.mem_filter.mpr ⟨List.mem_append_right _ (tb2 i h), g⟩
theorem nw2 (i : Nat) {w : Cond} (h : tables_1_2[i]? = some w) (g : isNest w = true) : w ∈ nwL := List.mem_filter.mpr ⟨tb2 i h, g⟩
theorem tb3 (i : Nat) {w : Cond} (h : tables_1_3[i]? = some w) : w ∈ tables_1 := by unfold tables_1; exact List.mem_append_right _ (List.mem_append_right _ (List.mem_append_left _ (List.mem_of_getElem? h)))
theorem ug3 (i : Nat) {w : Cond} (h : tables_1_3[i]? = some w) (g : goodWord w = true) : w ∈ UG := List.mem_filter.mpr ⟨List.mem_append_right _ (tb3 i h), g⟩
theorem nw3 (i : Nat) {w : Cond} (h : tables_1_3[i]? = some w) (g : isNest w = true) : w ∈ nwL := List.mem_filter.mpr ⟨tb3 i h, g⟩
theorem tb4 (i : Nat) {w : Cond} (h : tables_1_4[i]? = some w) : w ∈ tables_1 := by unfold tables_1; exact List.mem_append_right _ (List.mem_append_right _ (List.mem_append_right _ (List.mem_append_left _ (List.mem_of_getElem? h))))
theorem ug4 (i : Nat) {w : Cond} (h : tables_1_4[i]? = some w) (g : goodWord w = true) : w ∈ UG := List.mem_filter.mpr ⟨List.mem_append_right _ (tb4 i h), g⟩
theorem nw4 (i : Nat) {w : Cond} (h : tables_1_4[i]? = some w) (g : isNest w = true) : w ∈ nwL := List.mem_filter.mpr ⟨tb4 i h, g⟩
theorem tb5 (i : Nat) {w : Cond} (h : tables_1_5[i]? = some w) : w ∈ tables_1 := by unfold tables_1; exact List.mem_append_right _ (List.mem_append_right _ (List.mem_append_right _ (List.mem_append_right _ (List.mem_append_left _ (List.mem_of_getElem? h)))))
theorem ug5 (i : Nat) {w : Cond} (h : tables_1_5[i]? = some w) (g : goodWord w = true) : w ∈ UG := List.mem_filter.mpr ⟨List.mem_append_right _ (tb5 i h), g⟩
theorem nw5 (i : Nat) {w : Cond} (h : tables_1_5[i]? = some w) (g : isNest w = true) : w ∈ nwL := List.mem_filter.mpr ⟨tb5 i h, g⟩
theorem tb6 (i : Nat) {w : Cond} (h : tables_1_6[i]? = some w) : w ∈ tables_1 := by unfold tables_1; exact List.mem_append_right _ (List.mem_append_right _ (List.mem_append_right _ (List.mem_append_right _ (List.mem_append_right _ (List.mem_append_left _ (List.mem_of_getElem? h))))))
theorem ug6 (i : Nat) {w : Cond} (h : tables_1_6[i]? = some w) (g : goodWord w = true) : w ∈ UG := List.mem_filter.mpr ⟨List.mem_append_right _ (tb6 i h), g⟩
theorem nw6 (i : Nat) {w : Cond} (h : tables_1_6[i]? = some w) (g : isNest w = true) : w ∈ nwL := List.mem_filter.mpr ⟨tb6 i h, g⟩
theorem tb7 (i : Nat) {w : Cond} (h : tables_1_7[i]? = some w) : w ∈ tables_1 := by unfold tables_1; exact List.mem_append_right _ (List.mem_append_right _ (List.mem_append_right _ (List.mem_append_right _ (List.mem_append_right _ (List.mem_append_right _ (List.mem_of_getElem? h))))))
theorem ug7 (i : Nat) {w : Cond} (h : tables_1_7[i]? = some w) (g : goodWord w = true) : w ∈ UG := List.mem_filter.mpr ⟨List.mem_append_right _ (tb7 i h), g⟩
theorem nw7 (i : Nat) {w : Cond} (h : tables_1_7[i]? = some w) (g : isNest w = true) : w ∈ nwL := List.mem_filter.mpr ⟨tb7 i h, g⟩
theorem inX0 : ∀ w ∈ u_ws RX0 TX0 11, w ∈ UG := by
  intro w hw
  obtain ⟨k, hk, rfl⟩ := List.mem_map.mp hw
  have hk := List.mem_range.mp hk
  match k, hk with
  | 0, _ => exact ug1 137 (by decide +kernel) (by decide +kernel)
  | 1, _ => exact ug1 139 (by decide +kernel) (by decide +kernel)
  | 2, _ => exact ug1 141 (by decide +kernel) (by decide +kernel)
  | 3, _ => exact ug1 143 (by decide +kernel) (by decide +kernel)
  | 4, _ => exact ug1 145 (by decide +kernel) (by decide +kernel)
  | 5, _ => exact ug1 147 (by decide +kernel) (by decide +kernel)
  | 6, _ => exact ug1 149 (by decide +kernel) (by decide +kernel)
  | 7, _ => exact ug1 151 (by decide +kernel) (by decide +kernel)
  | 8, _ => exact ug1 153 (by decide +kernel) (by decide +kernel)
  | 9, _ => exact ug1 155 (by decide +kernel) (by decide +kernel)
  | 10, _ => exact ug1 157 (by decide +kernel) (by decide +kernel)
  | k + 11, h => exact absurd h (by omega)
theorem inX1 : ∀ w ∈ u_ws RX1 TX1 3, w ∈ UG := by
  intro w hw
  obtain ⟨k, hk, rfl⟩ := List.mem_map.mp hw
  have hk := List.mem_range.mp hk
  match k, hk with
  | 0, _ => exact ug1 108 (by decide +kernel) (by decide +kernel)
  | 1, _ => exact ug1 110 (by decide +kernel) (by decide +kernel)
  | 2, _ => exact ug1 112 (by decide +kernel) (by decide +kernel)
  | k + 3, h => exact absurd h (by omega)
theorem inX2 : ∀ w ∈ u_ws RX2 TX2 5, w ∈ UG := by
  intro w hw
  obtain ⟨k, hk, rfl⟩ := List.mem_map.mp hw
  have hk := List.mem_range.mp hk
  match k, hk with
  | 0, _ => exact ug1 175 (by decide +kernel) (by decide +kernel)
  | 1, _ => exact ug1 177 (by decide +kernel) (by decide +kernel)
  | 2, _ => exact ug1 179 (by decide +kernel) (by decide +kernel)
  | 3, _ => exact ug1 181 (by decide +kernel) (by decide +kernel)
  | 4, _ => exact ug1 183 (by decide +kernel) (by decide +kernel)
  | k + 5, h => exact absurd h (by omega)
theorem inX3 : ∀ w ∈ u_ws RX3 TX3 4, w ∈ UG := by
  intro w hw
  obtain ⟨k, hk, rfl⟩ := List.mem_map.mp hw
  have hk := List.mem_range.mp hk
  match k, hk with
  | 0, _ => exact ug1 200 (by decide +kernel) (by decide +kernel)
  | 1, _ => exact ug1 202 (by decide +kernel) (by decide +kernel)
  | 2, _ => exact ug1 204 (by decide +kernel) (by decide +kernel)
  | 3, _ => exact ug1 206 (by decide +kernel) (by decide +kernel)
  | k + 4, h => exact absurd h (by omega)
theorem inX4 : ∀ w ∈ u_ws RX4 TX4 8, w ∈ UG := by
  intro w hw
  obtain ⟨k, hk, rfl⟩ := List.mem_map.mp hw
  have hk := List.mem_range.mp hk
  match k, hk with
  | 0, _ => exact ug1 78 (by decide +kernel) (by decide +kernel)
  | 1, _ => exact ug1 80 (by decide +kernel) (by decide +kernel)
  | 2, _ => exact ug1 82 (by decide +kernel) (by decide +kernel)
  | 3, _ => exact ug1 84 (by decide +kernel) (by decide +kernel)
  | 4, _ => exact ug1 86 (by decide +kernel) (by decide +kernel)
  | 5, _ => exact ug1 88 (by decide +kernel) (by decide +kernel)
  | 6, _ => exact ug1 90 (by decide +kernel) (by decide +kernel)
  | 7, _ => exact ug1 92 (by decide +kernel) (by decide +kernel)
  | k + 8, h => exact absurd h (by omega)
theorem inX5 : ∀ w ∈ u_ws RX5 TX5 2, w ∈ UG := by
  intro w hw
  obtain ⟨k, hk, rfl⟩ := List.mem_map.mp hw
  have hk := List.mem_range.mp hk
  match k, hk with
  | 0, _ => exact ug1 35 (by decide +kernel) (by decide +kernel)
  | 1, _ => exact ug1 37 (by decide +kernel) (by decide +kernel)
  | k + 2, h => exact absurd h (by omega)
theorem inX6 : ∀ w ∈ u_ws RX6 TX6 13, w ∈ UG := by
  intro w hw
  obtain ⟨k, hk, rfl⟩ := List.mem_map.mp hw
  have hk := List.mem_range.mp hk
  match k, hk with
  | 0, _ => exact ug1 222 (by decide +kernel) (by decide +kernel)
  | 1, _ => exact ug1 224 (by decide +kernel) (by decide +kernel)
  | 2, _ => exact ug1 226 (by decide +kernel) (by decide +kernel)
  | 3, _ => exact ug1 228 (by decide +kernel) (by decide +kernel)
  | 4, _ => exact ug1 230 (by decide +kernel) (by decide +kernel)
  | 5, _ => exact ug1 232 (by decide +kernel) (by decide +kernel)
  | 6, _ => exact ug1 234 (by decide +kernel) (by decide +kernel)
  | 7, _ => exact ug1 236 (by decide +kernel) (by decide +kernel)
  | 8, _ => exact ug1 238 (by decide +kernel) (by decide +kernel)
  | 9, _ => exact ug2 0 (by decide +kernel) (by decide +kernel)
  | 10, _ => exact ug2 2 (by decide +kernel) (by decide +kernel)
  | 11, _ => exact ug2 4 (by decide +kernel) (by decide +kernel)
  | 12, _ => exact ug2 6 (by decide +kernel) (by decide +kernel)
  | k + 13, h => exact absurd h (by omega)
theorem inX7 : ∀ w ∈ u_ws RX7 TX7 25, w ∈ UG := by
  intro w hw
  obtain ⟨k, hk, rfl⟩ := List.mem_map.mp hw
  have hk := List.mem_range.mp hk
  match k, hk with
  | 0, _ => exact ug5 95 (by decide +kernel) (by decide +kernel)
  | 1, _ => exact ug5 97 (by decide +kernel) (by decide +kernel)
  | 2, _ => exact ug5 99 (by decide +kernel) (by decide +kernel)
  | 3, _ => exact ug5 101 (by decide +kernel) (by decide +kernel)
  | 4, _ => exact ug5 103 (by decide +kernel) (by decide +kernel)
  | 5, _ => exact ug5 105 (by decide +kernel) (by decide +kernel)
  | 6, _ => exact ug5 107 (by decide +kernel) (by decide +kernel)
  | 7, _ => exact ug5 109 (by decide +kernel) (by decide +kernel)
  | 8, _ => exact ug5 111 (by decide +kernel) (by decide +kernel)
  | 9, _ => exact ug5 113 (by decide +kernel) (by decide +kernel)
  | 10, _ => exact ug5 115 (by decide +kernel) (by decide +kernel)
  | 11, _ => exact ug5 117 (by decide +kernel) (by decide +kernel)
  | 12, _ => exact ug5 119 (by decide +kernel) (by decide +kernel)
  | 13, _ => exact ug5 121 (by decide +kernel) (by decide +kernel)
  | 14, _ => exact ug5 123 (by decide +kernel) (by decide +kernel)
  | 15, _ => exact ug5 125 (by decide +kernel) (by decide +kernel)
  | 16, _ => exact ug5 127 (by decide +kernel) (by decide +kernel)
  | 17, _ => exact ug5 129 (by decide +kernel) (by decide +kernel)
  | 18, _ => exact ug5 131 (by decide +kernel) (by decide +kernel)
  | 19, _ => exact ug5 133 (by decide +kernel) (by decide +kernel)
  | 20, _ => exact ug5 135 (by decide +kernel) (by decide +kernel)
  | 21, _ => exact ug5 137 (by decide +kernel) (by decide +kernel)
  | 22, _ => exact ug5 139 (by decide +kernel) (by decide +kernel)
  | 23, _ => exact ug5 141 (by decide +kernel) (by decide +kernel)
  | 24, _ => exact ug5 143 (by decide +kernel) (by decide +kernel)
  | k + 25, h => exact absurd h (by omega)
theorem fl6_10 : FL RX6 10 6 0 := ⟨RX6, TX6, 13, rfl, inX6, by decide, rfl, (Or.inl (ug1 209 (by decide +kernel) rfl))⟩
theorem fl6_19 : FL RX6 19 6 1 := ⟨RX6, TX6, 13, rfl, inX6, by decide, rfl, (Or.inl (ug1 210 (by decide +kernel) rfl))⟩
theorem fl6_26 : FL RX6 26 6 2 := ⟨RX6, TX6, 13, rfl, inX6, by decide, rfl, (Or.inl (ug1 211 (by decide +kernel) rfl))⟩
theorem fl6_30 : FL RX6 30 6 3 := ⟨RX6, TX6, 13, rfl, inX6, by decide, rfl, (Or.inl (ug1 212 (by decide +kernel) rfl))⟩
theorem fl6_34 : FL RX6 34 6 4 := ⟨RX6, TX6, 13, rfl, inX6, by decide, rfl, (Or.inl (ug1 213 (by decide +kernel) rfl))⟩
theorem fl6_41 : FL RX6 41 6 5 := ⟨RX6, TX6, 13, rfl, inX6, by decide, rfl, (Or.inl (ug1 214 (by decide +kernel) rfl))⟩
theorem fl6_48 : FL RX6 48 6 6 := ⟨RX6, TX6, 13, rfl, inX6, by decide, rfl, (Or.inl (ug1 215 (by decide +kernel) rfl))⟩
theorem fl6_52 : FL RX6 52 6 7 := ⟨RX6, TX6, 13, rfl, inX6, by decide, rfl, (Or.inl (ug1 216 (by decide +kernel) rfl))⟩
theorem fp6_52 : FP RX6 52 6 7 .boolean := ⟨RX6, TX6, 13, tyX6, rfl, inX6, by decide, rfl, tyX6_ok, nmX6, rfl, by decide +kernel, (Or.inl (ug1 216 (by decide +kernel) rfl))⟩
theorem fl6_56 : FL RX6 56 6 8 := ⟨RX6, TX6, 13, rfl, inX6, by decide, rfl, (Or.inl (ug1 217 (by decide +kernel) rfl))⟩
theorem fp6_56 : FP RX6 56 6 8 .boolean := ⟨RX6, TX6, 13, tyX6, rfl, inX6, by decide, rfl, tyX6_ok, nmX6, rfl, by decide +kernel, (Or.inl (ug1 217 (by decide +kernel) rfl))⟩
theorem fl6_59 : FL RX6 59 6 9 := ⟨RX6, TX6, 13, rfl, inX6, by decide, rfl, (Or.inl (ug1 218 (by decide +kernel) rfl))⟩
theorem fl6_62 : FL RX6 62 6 10 := ⟨RX6, TX6, 13, rfl, inX6, by decide, rfl, (Or.inl (ug1 219 (by decide +kernel) rfl))⟩
theorem fl6_68 : FL RX6 68 6 11 := ⟨RX6, TX6, 13, rfl, inX6, by decide, rfl, (Or.inl (ug1 220 (by decide +kernel) rfl))⟩
theorem fl6_72 : FL RX6 72 6 12 := ⟨RX6, TX6, 13, rfl, inX6, by decide, rfl, (Or.inl (ug1 221 (by decide +kernel) rfl))⟩
theorem fl6_120 : FL RX6 120 5 1 := ⟨RX5, TX5, 2, rfl, inX5, by decide, rfl, (Or.inr ⟨_, nw1 34 (w := .fieldLinkNest RX6 120 RX5 "length" "I" "BandEngraver") (by decide +kernel) rfl⟩)⟩
theorem fl6_156 : FL RX6 156 4 0 := ⟨RX4, TX4, 8, rfl, inX4, by decide, rfl, (Or.inr ⟨_, nw1 60 (w := .fieldLinkNest RX6 156 RX4 "columns" "I" "BandEngraver") (by decide +kernel) rfl⟩)⟩
theorem fl6_159 : FL RX6 159 4 1 := ⟨RX4, TX4, 8, rfl, inX4, by decide, rfl, (Or.inr ⟨_, nw1 63 (w := .fieldLinkNest RX6 159 RX4 "rows" "I" "BandEngraver") (by decide +kernel) rfl⟩)⟩
theorem fl6_162 : FL RX6 162 4 4 := ⟨RX4, TX4, 8, rfl, inX4, by decide, rfl, (Or.inr ⟨_, nw1 69 (w := .fieldLinkNest RX6 162 RX4 "thresholdCount" "I" "BandEngraver") (by decide +kernel) rfl⟩)⟩
theorem fl6_165 : FL RX6 165 4 5 := ⟨RX4, TX4, 8, rfl, inX4, by decide, rfl, (Or.inr ⟨_, nw1 71 (w := .fieldLinkNest RX6 165 RX4 "leastSize" "I" "BandEngraver") (by decide +kernel) rfl⟩)⟩
theorem fp6_165 : FP RX6 165 4 5 .int := ⟨RX4, TX4, 8, tyX4, rfl, inX4, by decide, rfl, tyX4_ok, nmX4, rfl, by decide +kernel, (Or.inr ⟨_, nw1 71 (w := .fieldLinkNest RX6 165 RX4 "leastSize" "I" "BandEngraver") (by decide +kernel) rfl⟩)⟩
theorem fl6_172 : FL RX6 172 0 3 := ⟨RX0, TX0, 11, rfl, inX0, by decide, rfl, (Or.inr ⟨_, nw1 129 (w := .fieldLinkNest RX6 172 RX0 "count" "I" "BandEngraver") (by decide +kernel) rfl⟩)⟩
theorem fl6_193 : FL RX6 193 4 7 := ⟨RX4, TX4, 8, rfl, inX4, by decide, rfl, (Or.inr ⟨_, nw1 76 (w := .fieldLinkNest RX6 193 RX4 "lineInk" "I" "BandEngraver") (by decide +kernel) rfl⟩)⟩
theorem fp6_193 : FP RX6 193 4 7 .int := ⟨RX4, TX4, 8, tyX4, rfl, inX4, by decide, rfl, tyX4_ok, nmX4, rfl, by decide +kernel, (Or.inr ⟨_, nw1 76 (w := .fieldLinkNest RX6 193 RX4 "lineInk" "I" "BandEngraver") (by decide +kernel) rfl⟩)⟩
theorem fl6_232 : FL RX6 232 4 3 := ⟨RX4, TX4, 8, rfl, inX4, by decide, rfl, (Or.inr ⟨_, nw1 67 (w := .fieldLinkNest RX6 232 RX4 "thresholds" "[I" "BandEngraver") (by decide +kernel) rfl⟩)⟩
theorem fl6_256 : FL RX6 256 2 0 := ⟨RX2, TX2, 5, rfl, inX2, by decide, rfl, (Or.inr ⟨_, nw1 168 (w := .fieldLinkNest RX6 256 RX2 "holes" "[I" "BandEngraver") (by decide +kernel) rfl⟩)⟩
theorem fl6_259 : FL RX6 259 2 1 := ⟨RX2, TX2, 5, rfl, inX2, by decide, rfl, (Or.inr ⟨_, nw1 170 (w := .fieldLinkNest RX6 259 RX2 "mothers" "[I" "BandEngraver") (by decide +kernel) rfl⟩)⟩
theorem fl6_262 : FL RX6 262 2 2 := ⟨RX2, TX2, 5, rfl, inX2, by decide, rfl, (Or.inr ⟨_, nw1 172 (w := .fieldLinkNest RX6 262 RX2 "inside" "[I" "BandEngraver") (by decide +kernel) rfl⟩)⟩
theorem fl6_272 : FL RX6 272 3 0 := ⟨RX3, TX3, 4, rfl, inX3, by decide, rfl, (Or.inr ⟨_, nw1 193 (w := .fieldLinkNest RX6 272 RX3 "sides" "I" "BandEngraver") (by decide +kernel) rfl⟩)⟩
theorem fl6_275 : FL RX6 275 3 1 := ⟨RX3, TX3, 4, rfl, inX3, by decide, rfl, (Or.inr ⟨_, nw1 195 (w := .fieldLinkNest RX6 275 RX3 "rightTurns" "I" "BandEngraver") (by decide +kernel) rfl⟩)⟩
theorem fl6_278 : FL RX6 278 3 2 := ⟨RX3, TX3, 4, rfl, inX3, by decide, rfl, (Or.inr ⟨_, nw1 197 (w := .fieldLinkNest RX6 278 RX3 "leftTurns" "I" "BandEngraver") (by decide +kernel) rfl⟩)⟩
theorem fl6_281 : FL RX6 281 3 3 := ⟨RX3, TX3, 4, rfl, inX3, by decide, rfl, (Or.inr ⟨_, nw1 199 (w := .fieldLinkNest RX6 281 RX3 "wayAsked" "I" "BandEngraver") (by decide +kernel) rfl⟩)⟩
theorem fl6_284 : FL RX6 284 4 6 := ⟨RX4, TX4, 8, rfl, inX4, by decide, rfl, (Or.inr ⟨_, nw1 73 (w := .fieldLinkNest RX6 284 RX4 "hatchings" "[I" "BandEngraver") (by decide +kernel) rfl⟩)⟩
theorem fl6_340 : FL RX6 340 1 1 := ⟨RX1, TX1, 3, rfl, inX1, by decide, rfl, (Or.inr ⟨_, nw1 106 (w := .fieldLinkNest RX6 340 RX1 "count" "I" "BandEngraver") (by decide +kernel) rfl⟩)⟩
theorem fl0_9 : FL RX0 9 0 0 := ⟨RX0, TX0, 11, rfl, inX0, by decide, rfl, (Or.inl (ug1 121 (by decide +kernel) rfl))⟩
theorem fp0_9 : FP RX0 9 0 0 .int := ⟨RX0, TX0, 11, tyX0, rfl, inX0, by decide, rfl, tyX0_ok, nmX0, rfl, by decide +kernel, (Or.inl (ug1 121 (by decide +kernel) rfl))⟩
theorem fl0_15 : FL RX0 15 0 1 := ⟨RX0, TX0, 11, rfl, inX0, by decide, rfl, (Or.inl (ug1 124 (by decide +kernel) rfl))⟩
theorem fp0_15 : FP RX0 15 0 1 .int := ⟨RX0, TX0, 11, tyX0, rfl, inX0, by decide, rfl, tyX0_ok, nmX0, rfl, by decide +kernel, (Or.inl (ug1 124 (by decide +kernel) rfl))⟩
theorem fl0_18 : FL RX0 18 0 2 := ⟨RX0, TX0, 11, rfl, inX0, by decide, rfl, (Or.inl (ug1 125 (by decide +kernel) rfl))⟩
theorem fp0_18 : FP RX0 18 0 2 .int := ⟨RX0, TX0, 11, tyX0, rfl, inX0, by decide, rfl, tyX0_ok, nmX0, rfl, by decide +kernel, (Or.inl (ug1 125 (by decide +kernel) rfl))⟩
theorem fl0_21 : FL RX0 21 0 3 := ⟨RX0, TX0, 11, rfl, inX0, by decide, rfl, (Or.inl (ug1 127 (by decide +kernel) rfl))⟩
theorem fp0_21 : FP RX0 21 0 3 .int := ⟨RX0, TX0, 11, tyX0, rfl, inX0, by decide, rfl, tyX0_ok, nmX0, rfl, by decide +kernel, (Or.inl (ug1 127 (by decide +kernel) rfl))⟩
theorem fl0_24 : FL RX0 24 0 4 := ⟨RX0, TX0, 11, rfl, inX0, by decide, rfl, (Or.inl (ug1 130 (by decide +kernel) rfl))⟩
theorem fl0_28 : FL RX0 28 0 5 := ⟨RX0, TX0, 11, rfl, inX0, by decide, rfl, (Or.inl (ug1 131 (by decide +kernel) rfl))⟩
theorem fl0_31 : FL RX0 31 0 6 := ⟨RX0, TX0, 11, rfl, inX0, by decide, rfl, (Or.inl (ug1 132 (by decide +kernel) rfl))⟩
theorem fl0_34 : FL RX0 34 0 7 := ⟨RX0, TX0, 11, rfl, inX0, by decide, rfl, (Or.inl (ug1 133 (by decide +kernel) rfl))⟩
theorem fl0_37 : FL RX0 37 0 8 := ⟨RX0, TX0, 11, rfl, inX0, by decide, rfl, (Or.inl (ug1 134 (by decide +kernel) rfl))⟩
theorem fl0_40 : FL RX0 40 0 9 := ⟨RX0, TX0, 11, rfl, inX0, by decide, rfl, (Or.inl (ug1 135 (by decide +kernel) rfl))⟩
theorem fl0_43 : FL RX0 43 0 10 := ⟨RX0, TX0, 11, rfl, inX0, by decide, rfl, (Or.inl (ug1 136 (by decide +kernel) rfl))⟩
theorem fl0_46 : FL RX0 46 4 0 := ⟨RX4, TX4, 8, rfl, inX4, by decide, rfl, (Or.inr ⟨_, nw1 58 (w := .fieldLinkNest RX0 46 RX4 "columns" "I" "BandEngraver") (by decide +kernel) rfl⟩)⟩
theorem fl0_49 : FL RX0 49 4 1 := ⟨RX4, TX4, 8, rfl, inX4, by decide, rfl, (Or.inr ⟨_, nw1 61 (w := .fieldLinkNest RX0 49 RX4 "rows" "I" "BandEngraver") (by decide +kernel) rfl⟩)⟩
theorem fl0_54 : FL RX0 54 4 2 := ⟨RX4, TX4, 8, rfl, inX4, by decide, rfl, (Or.inr ⟨_, nw1 65 (w := .fieldLinkNest RX0 54 RX4 "greys" "[I" "BandEngraver") (by decide +kernel) rfl⟩)⟩
theorem fl0_111 : FL RX0 111 4 7 := ⟨RX4, TX4, 8, rfl, inX4, by decide, rfl, (Or.inr ⟨_, nw1 77 (w := .fieldLinkNest RX0 111 RX4 "lineInk" "I" "BandEngraver") (by decide +kernel) rfl⟩)⟩
theorem fl0_117 : FL RX0 117 4 6 := ⟨RX4, TX4, 8, rfl, inX4, by decide, rfl, (Or.inr ⟨_, nw1 74 (w := .fieldLinkNest RX0 117 RX4 "hatchings" "[I" "BandEngraver") (by decide +kernel) rfl⟩)⟩
theorem fl1_11 : FL RX1 11 1 0 := ⟨RX1, TX1, 3, rfl, inX1, by decide, rfl, (Or.inl (ug1 104 (by decide +kernel) rfl))⟩
theorem fl1_17 : FL RX1 17 1 1 := ⟨RX1, TX1, 3, rfl, inX1, by decide, rfl, (Or.inl (ug1 105 (by decide +kernel) rfl))⟩
theorem fp1_17 : FP RX1 17 1 1 .int := ⟨RX1, TX1, 3, tyX1, rfl, inX1, by decide, rfl, tyX1_ok, nmX1, rfl, by decide +kernel, (Or.inl (ug1 105 (by decide +kernel) rfl))⟩
theorem fl1_21 : FL RX1 21 1 2 := ⟨RX1, TX1, 3, rfl, inX1, by decide, rfl, (Or.inl (ug1 107 (by decide +kernel) rfl))⟩
theorem fp1_21 : FP RX1 21 1 2 .int := ⟨RX1, TX1, 3, tyX1, rfl, inX1, by decide, rfl, tyX1_ok, nmX1, rfl, by decide +kernel, (Or.inl (ug1 107 (by decide +kernel) rfl))⟩
theorem fl2_9 : FL RX2 9 2 0 := ⟨RX2, TX2, 5, rfl, inX2, by decide, rfl, (Or.inl (ug1 167 (by decide +kernel) rfl))⟩
theorem fl2_15 : FL RX2 15 2 1 := ⟨RX2, TX2, 5, rfl, inX2, by decide, rfl, (Or.inl (ug1 169 (by decide +kernel) rfl))⟩
theorem fl2_18 : FL RX2 18 2 2 := ⟨RX2, TX2, 5, rfl, inX2, by decide, rfl, (Or.inl (ug1 171 (by decide +kernel) rfl))⟩
theorem fl2_21 : FL RX2 21 2 3 := ⟨RX2, TX2, 5, rfl, inX2, by decide, rfl, (Or.inl (ug1 173 (by decide +kernel) rfl))⟩
theorem fl2_24 : FL RX2 24 2 4 := ⟨RX2, TX2, 5, rfl, inX2, by decide, rfl, (Or.inl (ug1 174 (by decide +kernel) rfl))⟩
theorem fl2_33 : FL RX2 33 0 3 := ⟨RX0, TX0, 11, rfl, inX0, by decide, rfl, (Or.inr ⟨_, nw1 128 (w := .fieldLinkNest RX2 33 RX0 "count" "I" "BandEngraver") (by decide +kernel) rfl⟩)⟩
theorem fl2_47 : FL RX2 47 0 2 := ⟨RX0, TX0, 11, rfl, inX0, by decide, rfl, (Or.inr ⟨_, nw1 126 (w := .fieldLinkNest RX2 47 RX0 "cells" "I" "BandEngraver") (by decide +kernel) rfl⟩)⟩
theorem fl2_65 : FL RX2 65 0 0 := ⟨RX0, TX0, 11, rfl, inX0, by decide, rfl, (Or.inr ⟨_, nw1 123 (w := .fieldLinkNest RX2 65 RX0 "columns" "I" "BandEngraver") (by decide +kernel) rfl⟩)⟩
theorem fl3_9 : FL RX3 9 3 0 := ⟨RX3, TX3, 4, rfl, inX3, by decide, rfl, (Or.inl (ug1 192 (by decide +kernel) rfl))⟩
theorem fp3_9 : FP RX3 9 3 0 .int := ⟨RX3, TX3, 4, tyX3, rfl, inX3, by decide, rfl, tyX3_ok, nmX3, rfl, by decide +kernel, (Or.inl (ug1 192 (by decide +kernel) rfl))⟩
theorem fl3_15 : FL RX3 15 3 1 := ⟨RX3, TX3, 4, rfl, inX3, by decide, rfl, (Or.inl (ug1 194 (by decide +kernel) rfl))⟩
theorem fp3_15 : FP RX3 15 3 1 .int := ⟨RX3, TX3, 4, tyX3, rfl, inX3, by decide, rfl, tyX3_ok, nmX3, rfl, by decide +kernel, (Or.inl (ug1 194 (by decide +kernel) rfl))⟩
theorem fl3_18 : FL RX3 18 3 2 := ⟨RX3, TX3, 4, rfl, inX3, by decide, rfl, (Or.inl (ug1 196 (by decide +kernel) rfl))⟩
theorem fp3_18 : FP RX3 18 3 2 .int := ⟨RX3, TX3, 4, tyX3, rfl, inX3, by decide, rfl, tyX3_ok, nmX3, rfl, by decide +kernel, (Or.inl (ug1 196 (by decide +kernel) rfl))⟩
theorem fp3_21 : FP RX3 21 3 3 .int := ⟨RX3, TX3, 4, tyX3, rfl, inX3, by decide, rfl, tyX3_ok, nmX3, rfl, by decide +kernel, (Or.inl (ug1 198 (by decide +kernel) rfl))⟩
theorem fl3_30 : FL RX3 30 0 0 := ⟨RX0, TX0, 11, rfl, inX0, by decide, rfl, (Or.inr ⟨_, nw1 122 (w := .fieldLinkNest RX3 30 RX0 "columns" "I" "BandEngraver") (by decide +kernel) rfl⟩)⟩
theorem fl4_9 : FL RX4 9 4 2 := ⟨RX4, TX4, 8, rfl, inX4, by decide, rfl, (Or.inl (ug1 64 (by decide +kernel) rfl))⟩
theorem fl4_15 : FL RX4 15 4 3 := ⟨RX4, TX4, 8, rfl, inX4, by decide, rfl, (Or.inl (ug1 66 (by decide +kernel) rfl))⟩
theorem fl4_18 : FL RX4 18 4 6 := ⟨RX4, TX4, 8, rfl, inX4, by decide, rfl, (Or.inl (ug1 72 (by decide +kernel) rfl))⟩
theorem fl4_28 : FL RX4 28 4 4 := ⟨RX4, TX4, 8, rfl, inX4, by decide, rfl, (Or.inl (ug1 68 (by decide +kernel) rfl))⟩
theorem fp4_28 : FP RX4 28 4 4 .int := ⟨RX4, TX4, 8, tyX4, rfl, inX4, by decide, rfl, tyX4_ok, nmX4, rfl, by decide +kernel, (Or.inl (ug1 68 (by decide +kernel) rfl))⟩
theorem fl4_32 : FL RX4 32 4 5 := ⟨RX4, TX4, 8, rfl, inX4, by decide, rfl, (Or.inl (ug1 70 (by decide +kernel) rfl))⟩
theorem fp4_32 : FP RX4 32 4 5 .int := ⟨RX4, TX4, 8, tyX4, rfl, inX4, by decide, rfl, tyX4_ok, nmX4, rfl, by decide +kernel, (Or.inl (ug1 70 (by decide +kernel) rfl))⟩
theorem fl4_35 : FL RX4 35 4 7 := ⟨RX4, TX4, 8, rfl, inX4, by decide, rfl, (Or.inl (ug1 75 (by decide +kernel) rfl))⟩
theorem fp4_35 : FP RX4 35 4 7 .int := ⟨RX4, TX4, 8, tyX4, rfl, inX4, by decide, rfl, tyX4_ok, nmX4, rfl, by decide +kernel, (Or.inl (ug1 75 (by decide +kernel) rfl))⟩
theorem fl4_38 : FL RX4 38 4 0 := ⟨RX4, TX4, 8, rfl, inX4, by decide, rfl, (Or.inl (ug1 59 (by decide +kernel) rfl))⟩
theorem fp4_38 : FP RX4 38 4 0 .int := ⟨RX4, TX4, 8, tyX4, rfl, inX4, by decide, rfl, tyX4_ok, nmX4, rfl, by decide +kernel, (Or.inl (ug1 59 (by decide +kernel) rfl))⟩
theorem fl4_41 : FL RX4 41 4 1 := ⟨RX4, TX4, 8, rfl, inX4, by decide, rfl, (Or.inl (ug1 62 (by decide +kernel) rfl))⟩
theorem fp4_41 : FP RX4 41 4 1 .int := ⟨RX4, TX4, 8, tyX4, rfl, inX4, by decide, rfl, tyX4_ok, nmX4, rfl, by decide +kernel, (Or.inl (ug1 62 (by decide +kernel) rfl))⟩
theorem fl5_9 : FL RX5 9 5 0 := ⟨RX5, TX5, 2, rfl, inX5, by decide, rfl, (Or.inl (ug1 32 (by decide +kernel) rfl))⟩
theorem fl5_15 : FL RX5 15 5 1 := ⟨RX5, TX5, 2, rfl, inX5, by decide, rfl, (Or.inl (ug1 33 (by decide +kernel) rfl))⟩
theorem fp5_15 : FP RX5 15 5 1 .int := ⟨RX5, TX5, 2, tyX5, rfl, inX5, by decide, rfl, tyX5_ok, nmX5, rfl, by decide +kernel, (Or.inl (ug1 33 (by decide +kernel) rfl))⟩
theorem fl7_7 : FL RX7 7 7 1 := ⟨RX7, TX7, 25, rfl, inX7, by decide, rfl, (Or.inl (ug5 71 (by decide +kernel) rfl))⟩
theorem fl7_13 : FL RX7 13 7 3 := ⟨RX7, TX7, 25, rfl, inX7, by decide, rfl, (Or.inl (ug5 73 (by decide +kernel) rfl))⟩
theorem fl7_16 : FL RX7 16 7 4 := ⟨RX7, TX7, 25, rfl, inX7, by decide, rfl, (Or.inl (ug5 74 (by decide +kernel) rfl))⟩
theorem fl7_19 : FL RX7 19 7 5 := ⟨RX7, TX7, 25, rfl, inX7, by decide, rfl, (Or.inl (ug5 75 (by decide +kernel) rfl))⟩
theorem fl7_22 : FL RX7 22 7 7 := ⟨RX7, TX7, 25, rfl, inX7, by decide, rfl, (Or.inl (ug5 77 (by decide +kernel) rfl))⟩
theorem fl7_25 : FL RX7 25 7 8 := ⟨RX7, TX7, 25, rfl, inX7, by decide, rfl, (Or.inl (ug5 78 (by decide +kernel) rfl))⟩
theorem fl7_29 : FL RX7 29 7 9 := ⟨RX7, TX7, 25, rfl, inX7, by decide, rfl, (Or.inl (ug5 79 (by decide +kernel) rfl))⟩
theorem fl7_32 : FL RX7 32 7 10 := ⟨RX7, TX7, 25, rfl, inX7, by decide, rfl, (Or.inl (ug5 80 (by decide +kernel) rfl))⟩
theorem fl7_35 : FL RX7 35 7 12 := ⟨RX7, TX7, 25, rfl, inX7, by decide, rfl, (Or.inl (ug5 82 (by decide +kernel) rfl))⟩
theorem fl7_38 : FL RX7 38 7 13 := ⟨RX7, TX7, 25, rfl, inX7, by decide, rfl, (Or.inl (ug5 83 (by decide +kernel) rfl))⟩
theorem fl7_41 : FL RX7 41 7 14 := ⟨RX7, TX7, 25, rfl, inX7, by decide, rfl, (Or.inl (ug5 84 (by decide +kernel) rfl))⟩
theorem fl7_44 : FL RX7 44 7 15 := ⟨RX7, TX7, 25, rfl, inX7, by decide, rfl, (Or.inl (ug5 85 (by decide +kernel) rfl))⟩
theorem fl7_47 : FL RX7 47 7 16 := ⟨RX7, TX7, 25, rfl, inX7, by decide, rfl, (Or.inl (ug5 86 (by decide +kernel) rfl))⟩
theorem fl7_50 : FL RX7 50 7 17 := ⟨RX7, TX7, 25, rfl, inX7, by decide, rfl, (Or.inl (ug5 87 (by decide +kernel) rfl))⟩
theorem fl7_53 : FL RX7 53 7 18 := ⟨RX7, TX7, 25, rfl, inX7, by decide, rfl, (Or.inl (ug5 88 (by decide +kernel) rfl))⟩
theorem fl7_64 : FL RX7 64 7 0 := ⟨RX7, TX7, 25, rfl, inX7, by decide, rfl, (Or.inl (ug5 70 (by decide +kernel) rfl))⟩
theorem fp7_64 : FP RX7 64 7 0 .int := ⟨RX7, TX7, 25, tyX7, rfl, inX7, by decide, rfl, tyX7_ok, nmX7, rfl, by decide +kernel, (Or.inl (ug5 70 (by decide +kernel) rfl))⟩
theorem fl7_78 : FL RX7 78 7 11 := ⟨RX7, TX7, 25, rfl, inX7, by decide, rfl, (Or.inl (ug5 81 (by decide +kernel) rfl))⟩
theorem fp7_78 : FP RX7 78 7 11 .int := ⟨RX7, TX7, 25, tyX7, rfl, inX7, by decide, rfl, tyX7_ok, nmX7, rfl, by decide +kernel, (Or.inl (ug5 81 (by decide +kernel) rfl))⟩
theorem fl7_142 : FL RX7 142 7 19 := ⟨RX7, TX7, 25, rfl, inX7, by decide, rfl, (Or.inl (ug5 89 (by decide +kernel) rfl))⟩
theorem fp7_142 : FP RX7 142 7 19 .int := ⟨RX7, TX7, 25, tyX7, rfl, inX7, by decide, rfl, tyX7_ok, nmX7, rfl, by decide +kernel, (Or.inl (ug5 89 (by decide +kernel) rfl))⟩
theorem fl7_145 : FL RX7 145 7 20 := ⟨RX7, TX7, 25, rfl, inX7, by decide, rfl, (Or.inl (ug5 90 (by decide +kernel) rfl))⟩
theorem fp7_145 : FP RX7 145 7 20 .int := ⟨RX7, TX7, 25, tyX7, rfl, inX7, by decide, rfl, tyX7_ok, nmX7, rfl, by decide +kernel, (Or.inl (ug5 90 (by decide +kernel) rfl))⟩
theorem fl7_148 : FL RX7 148 7 21 := ⟨RX7, TX7, 25, rfl, inX7, by decide, rfl, (Or.inl (ug5 91 (by decide +kernel) rfl))⟩
theorem fp7_148 : FP RX7 148 7 21 .int := ⟨RX7, TX7, 25, tyX7, rfl, inX7, by decide, rfl, tyX7_ok, nmX7, rfl, by decide +kernel, (Or.inl (ug5 91 (by decide +kernel) rfl))⟩
theorem fl7_151 : FL RX7 151 7 22 := ⟨RX7, TX7, 25, rfl, inX7, by decide, rfl, (Or.inl (ug5 92 (by decide +kernel) rfl))⟩
theorem fp7_151 : FP RX7 151 7 22 .int := ⟨RX7, TX7, 25, tyX7, rfl, inX7, by decide, rfl, tyX7_ok, nmX7, rfl, by decide +kernel, (Or.inl (ug5 92 (by decide +kernel) rfl))⟩
theorem fl7_189 : FL RX7 189 7 2 := ⟨RX7, TX7, 25, rfl, inX7, by decide, rfl, (Or.inl (ug5 72 (by decide +kernel) rfl))⟩
theorem fp7_189 : FP RX7 189 7 2 .int := ⟨RX7, TX7, 25, tyX7, rfl, inX7, by decide, rfl, tyX7_ok, nmX7, rfl, by decide +kernel, (Or.inl (ug5 72 (by decide +kernel) rfl))⟩
theorem fl7_196 : FL RX7 196 7 23 := ⟨RX7, TX7, 25, rfl, inX7, by decide, rfl, (Or.inl (ug5 93 (by decide +kernel) rfl))⟩
theorem fp7_196 : FP RX7 196 7 23 .int := ⟨RX7, TX7, 25, tyX7, rfl, inX7, by decide, rfl, tyX7_ok, nmX7, rfl, by decide +kernel, (Or.inl (ug5 93 (by decide +kernel) rfl))⟩
theorem fl7_201 : FL RX7 201 7 24 := ⟨RX7, TX7, 25, rfl, inX7, by decide, rfl, (Or.inl (ug5 94 (by decide +kernel) rfl))⟩
theorem fp7_201 : FP RX7 201 7 24 .int := ⟨RX7, TX7, 25, tyX7, rfl, inX7, by decide, rfl, tyX7_ok, nmX7, rfl, by decide +kernel, (Or.inl (ug5 94 (by decide +kernel) rfl))⟩
theorem fl7_250 : FL RX7 250 7 6 := ⟨RX7, TX7, 25, rfl, inX7, by decide, rfl, (Or.inl (ug5 76 (by decide +kernel) rfl))⟩
theorem fp7_250 : FP RX7 250 7 6 .int := ⟨RX7, TX7, 25, tyX7, rfl, inX7, by decide, rfl, tyX7_ok, nmX7, rfl, by decide +kernel, (Or.inl (ug5 76 (by decide +kernel) rfl))⟩
def yAF_fill : MethodName := ⟨"java/util/Arrays", "fill", "([II)V"⟩
abbrev cAF_fill : ByteArray := prog_19_method_103_code
theorem miX0_init : MI yX0_init cX0_init 1 none 0 := ⟨ug1 119 (by decide +kernel) rfl, by decide +kernel, by decide +kernel, ug1 6 (by decide +kernel) rfl⟩
theorem miX0_survey : MI yX0_survey cX0_survey 4 none 2 := ⟨ug2 71 (by decide +kernel) rfl, by decide +kernel, by decide +kernel, ug1 6 (by decide +kernel) rfl⟩
theorem miX0_mergeBelow : MI yX0_mergeBelow cX0_mergeBelow 7 none 1 := ⟨ug2 98 (by decide +kernel) rfl, by decide +kernel, by decide +kernel, ug1 6 (by decide +kernel) rfl⟩
theorem miX0_smallestBelow : MI yX0_smallestBelow cX0_smallestBelow 4 (some .int) 1 := ⟨ug2 102 (by decide +kernel) rfl, by decide +kernel, by decide +kernel, ug1 6 (by decide +kernel) rfl⟩
theorem miX0_takerOf : MI yX0_takerOf cX0_takerOf 4 (some .int) 1 := ⟨ug2 106 (by decide +kernel) rfl, by decide +kernel, by decide +kernel, ug1 6 (by decide +kernel) rfl⟩
theorem miX0_isBetterTaker : MI yX0_isBetterTaker cX0_isBetterTaker 6 (some .boolean) 3 := ⟨ug2 115 (by decide +kernel) rfl, by decide +kernel, by decide +kernel, ug1 6 (by decide +kernel) rfl⟩
theorem miX0_measureBorders : MI yX0_measureBorders cX0_measureBorders 5 none 1 := ⟨ug2 110 (by decide +kernel) rfl, by decide +kernel, by decide +kernel, ug1 6 (by decide +kernel) rfl⟩
theorem miX0_gather : MI yX0_gather cX0_gather 9 none 1 := ⟨ug2 83 (by decide +kernel) rfl, by decide +kernel, by decide +kernel, ug1 6 (by decide +kernel) rfl⟩
theorem miX0_enqueue : MI yX0_enqueue cX0_enqueue 3 (some .int) 2 := ⟨ug2 87 (by decide +kernel) rfl, by decide +kernel, by decide +kernel, ug1 6 (by decide +kernel) rfl⟩
theorem miX0_giveNumbers : MI yX0_giveNumbers cX0_giveNumbers 3 none 0 := ⟨ug2 122 (by decide +kernel) rfl, by decide +kernel, by decide +kernel, ug1 6 (by decide +kernel) rfl⟩
theorem miX0_neighbour : MI yX0_neighbour cX0_neighbour 3 (some .int) 2 := ⟨ug2 94 (by decide +kernel) rfl, by decide +kernel, by decide +kernel, ug1 6 (by decide +kernel) rfl⟩
theorem miX0_isOnPlate : MI yX0_isOnPlate cX0_isOnPlate 3 (some .boolean) 2 := ⟨ug3 170 (by decide +kernel) rfl, by decide +kernel, by decide +kernel, ug1 6 (by decide +kernel) rfl⟩
theorem miX0_isAtEdge : MI yX0_isAtEdge cX0_isAtEdge 4 (some .boolean) 1 := ⟨ug3 178 (by decide +kernel) rfl, by decide +kernel, by decide +kernel, ug1 6 (by decide +kernel) rfl⟩
theorem miX0_has : MI yX0_has cX0_has 2 (some .boolean) 1 := ⟨ug4 16 (by decide +kernel) rfl, by decide +kernel, by decide +kernel, ug1 6 (by decide +kernel) rfl⟩
theorem miX0_islandAt : MI yX0_islandAt cX0_islandAt 2 (some .int) 1 := ⟨ug3 162 (by decide +kernel) rfl, by decide +kernel, by decide +kernel, ug1 6 (by decide +kernel) rfl⟩
theorem miX0_isFirstCell : MI yX0_isFirstCell cX0_isFirstCell 2 (some .boolean) 1 := ⟨ug3 186 (by decide +kernel) rfl, by decide +kernel, by decide +kernel, ug1 6 (by decide +kernel) rfl⟩
theorem miX0_bandAt : MI yX0_bandAt cX0_bandAt 2 (some .int) 1 := ⟨ug3 228 (by decide +kernel) rfl, by decide +kernel, by decide +kernel, ug1 6 (by decide +kernel) rfl⟩
theorem miX0_firstCell : MI yX0_firstCell cX0_firstCell 2 (some .int) 1 := ⟨ug4 20 (by decide +kernel) rfl, by decide +kernel, by decide +kernel, ug1 6 (by decide +kernel) rfl⟩
theorem miX0_size : MI yX0_size cX0_size 2 (some .int) 1 := ⟨ug3 154 (by decide +kernel) rfl, by decide +kernel, by decide +kernel, ug1 6 (by decide +kernel) rfl⟩
theorem miX0_bandOf : MI yX0_bandOf cX0_bandOf 2 (some .int) 1 := ⟨ug4 25 (by decide +kernel) rfl, by decide +kernel, by decide +kernel, ug1 6 (by decide +kernel) rfl⟩
theorem miX0_otherSidesAt : MI yX0_otherSidesAt cX0_otherSidesAt 5 (some .int) 1 := ⟨ug2 134 (by decide +kernel) rfl, by decide +kernel, by decide +kernel, ug1 6 (by decide +kernel) rfl⟩
theorem miX0_sidesToOthers : MI yX0_sidesToOthers cX0_sidesToOthers 4 (some .int) 1 := ⟨ug4 29 (by decide +kernel) rfl, by decide +kernel, by decide +kernel, ug1 6 (by decide +kernel) rfl⟩
theorem miX0_neighbourCount : MI yX0_neighbourCount cX0_neighbourCount 4 (some .int) 1 := ⟨ug4 37 (by decide +kernel) rfl, by decide +kernel, by decide +kernel, ug1 6 (by decide +kernel) rfl⟩
theorem miX0_commonSides : MI yX0_commonSides cX0_commonSides 3 (some .int) 2 := ⟨ug4 48 (by decide +kernel) rfl, by decide +kernel, by decide +kernel, ug1 6 (by decide +kernel) rfl⟩
theorem miX0_sidesAtEdge : MI yX0_sidesAtEdge cX0_sidesAtEdge 5 (some .int) 1 := ⟨ug4 33 (by decide +kernel) rfl, by decide +kernel, by decide +kernel, ug1 6 (by decide +kernel) rfl⟩
theorem miX0_allSides : MI yX0_allSides cX0_allSides 3 (some .int) 0 := ⟨ug2 130 (by decide +kernel) rfl, by decide +kernel, by decide +kernel, ug1 6 (by decide +kernel) rfl⟩
theorem miX0_cellsOffTheirGrey : MI yX0_cellsOffTheirGrey cX0_cellsOffTheirGrey 4 (some .int) 1 := ⟨ug3 140 (by decide +kernel) rfl, by decide +kernel, by decide +kernel, ug1 6 (by decide +kernel) rfl⟩
theorem miX0_cellsOtherThan : MI yX0_cellsOtherThan cX0_cellsOtherThan 4 (some .int) 1 := ⟨ug5 9 (by decide +kernel) rfl, by decide +kernel, by decide +kernel, ug1 6 (by decide +kernel) rfl⟩
theorem miX0_cellsOfBand : MI yX0_cellsOfBand cX0_cellsOfBand 4 (some .int) 1 := ⟨ug4 93 (by decide +kernel) rfl, by decide +kernel, by decide +kernel, ug1 6 (by decide +kernel) rfl⟩
theorem miX0_islandsOfBand : MI yX0_islandsOfBand cX0_islandsOfBand 4 (some .int) 1 := ⟨ug4 97 (by decide +kernel) rfl, by decide +kernel, by decide +kernel, ug1 6 (by decide +kernel) rfl⟩
theorem miX0_inkNeeded : MI yX0_inkNeeded cX0_inkNeeded 4 (some .int) 1 := ⟨ug2 126 (by decide +kernel) rfl, by decide +kernel, by decide +kernel, ug1 6 (by decide +kernel) rfl⟩
theorem miX1_init : MI yX1_init cX1_init 2 none 0 := ⟨ug1 99 (by decide +kernel) rfl, by decide +kernel, by decide +kernel, ug1 5 (by decide +kernel) rfl⟩
theorem miX1_remember : MI yX1_remember cX1_remember 2 none 1 := ⟨ug2 146 (by decide +kernel) rfl, by decide +kernel, by decide +kernel, ug1 5 (by decide +kernel) rfl⟩
theorem miX1_takeBack : MI yX1_takeBack cX1_takeBack 2 none 1 := ⟨ug4 209 (by decide +kernel) rfl, by decide +kernel, by decide +kernel, ug1 5 (by decide +kernel) rfl⟩
theorem miX1_forgetAll : MI yX1_forgetAll cX1_forgetAll 1 none 0 := ⟨ug3 65 (by decide +kernel) rfl, by decide +kernel, by decide +kernel, ug1 5 (by decide +kernel) rfl⟩
theorem miX2_init : MI yX2_init cX2_init 1 none 0 := ⟨ug1 165 (by decide +kernel) rfl, by decide +kernel, by decide +kernel, ug1 7 (by decide +kernel) rfl⟩
theorem miX2_explore : MI yX2_explore cX2_explore 3 none 1 := ⟨ug3 149 (by decide +kernel) rfl, by decide +kernel, by decide +kernel, ug1 7 (by decide +kernel) rfl⟩
theorem miX2_allHoles : MI yX2_allHoles cX2_allHoles 3 (some .int) 0 := ⟨ug3 190 (by decide +kernel) rfl, by decide +kernel, by decide +kernel, ug1 7 (by decide +kernel) rfl⟩
theorem miX2_findHoles : MI yX2_findHoles cX2_findHoles 5 none 2 := ⟨ug3 158 (by decide +kernel) rfl, by decide +kernel, by decide +kernel, ug1 7 (by decide +kernel) rfl⟩
theorem miX2_gatherAround : MI yX2_gatherAround cX2_gatherAround 11 (some .int) 3 := ⟨ug3 166 (by decide +kernel) rfl, by decide +kernel, by decide +kernel, ug1 7 (by decide +kernel) rfl⟩
theorem miX2_reachesEdge : MI yX2_reachesEdge cX2_reachesEdge 4 (some .boolean) 2 := ⟨ug3 174 (by decide +kernel) rfl, by decide +kernel, by decide +kernel, ug1 7 (by decide +kernel) rfl⟩
theorem miX2_takeHole : MI yX2_takeHole cX2_takeHole 7 none 3 := ⟨ug3 182 (by decide +kernel) rfl, by decide +kernel, by decide +kernel, ug1 7 (by decide +kernel) rfl⟩
theorem miX3_init : MI yX3_init cX3_init 1 none 0 := ⟨ug1 190 (by decide +kernel) rfl, by decide +kernel, by decide +kernel, ug1 8 (by decide +kernel) rfl⟩
theorem miX3_follow : MI yX3_follow cX3_follow 10 none 3 := ⟨ug4 59 (by decide +kernel) rfl, by decide +kernel, by decide +kernel, ug1 8 (by decide +kernel) rfl⟩
theorem miX3_turned : MI yX3_turned cX3_turned 7 (some .int) 5 := ⟨ug4 70 (by decide +kernel) rfl, by decide +kernel, by decide +kernel, ug1 8 (by decide +kernel) rfl⟩
theorem miX3_isOfIsland : MI yX3_isOfIsland cX3_isOfIsland 7 (some .boolean) 5 := ⟨ug4 73 (by decide +kernel) rfl, by decide +kernel, by decide +kernel, ug1 8 (by decide +kernel) rfl⟩
theorem miX3_eastOf : MI yX3_eastOf cX3_eastOf 1 (some .int) 1 := ⟨ug4 63 (by decide +kernel) rfl, by decide +kernel, by decide +kernel, ug1 8 (by decide +kernel) rfl⟩
theorem miX3_southOf : MI yX3_southOf cX3_southOf 1 (some .int) 1 := ⟨ug4 66 (by decide +kernel) rfl, by decide +kernel, by decide +kernel, ug1 8 (by decide +kernel) rfl⟩
theorem miX4_init : MI yX4_init cX4_init 1 none 0 := ⟨ug1 45 (by decide +kernel) rfl, by decide +kernel, by decide +kernel, ug1 3 (by decide +kernel) rfl⟩
theorem miX4_reset : MI yX4_reset cX4_reset 4 none 2 := ⟨ug1 50 (by decide +kernel) rfl, by decide +kernel, by decide +kernel, ug1 3 (by decide +kernel) rfl⟩
theorem miX4_takePlate : MI yX4_takePlate cX4_takePlate 3 none 2 := ⟨ug1 54 (by decide +kernel) rfl, by decide +kernel, by decide +kernel, ug1 3 (by decide +kernel) rfl⟩
theorem miX4_copyFrom : MI yX4_copyFrom cX4_copyFrom 2 none 1 := ⟨ug2 150 (by decide +kernel) rfl, by decide +kernel, by decide +kernel, ug1 3 (by decide +kernel) rfl⟩
theorem miX4_cellCount : MI yX4_cellCount cX4_cellCount 1 (some .int) 0 := ⟨ug2 75 (by decide +kernel) rfl, by decide +kernel, by decide +kernel, ug1 3 (by decide +kernel) rfl⟩
theorem miX4_hasCell : MI yX4_hasCell cX4_hasCell 3 (some .boolean) 2 := ⟨ug3 81 (by decide +kernel) rfl, by decide +kernel, by decide +kernel, ug1 3 (by decide +kernel) rfl⟩
theorem miX4_cellNumber : MI yX4_cellNumber cX4_cellNumber 3 (some .int) 2 := ⟨ug2 170 (by decide +kernel) rfl, by decide +kernel, by decide +kernel, ug1 3 (by decide +kernel) rfl⟩
theorem miX4_greyAt : MI yX4_greyAt cX4_greyAt 3 (some .int) 2 := ⟨ug3 222 (by decide +kernel) rfl, by decide +kernel, by decide +kernel, ug1 3 (by decide +kernel) rfl⟩
theorem miX4_hasGrey : MI yX4_hasGrey cX4_hasGrey 4 (some .boolean) 1 := ⟨ug4 236 (by decide +kernel) rfl, by decide +kernel, by decide +kernel, ug1 3 (by decide +kernel) rfl⟩
theorem miX4_sumOfGreys : MI yX4_sumOfGreys cX4_sumOfGreys 4 (some .int) 0 := ⟨ug2 187 (by decide +kernel) rfl, by decide +kernel, by decide +kernel, ug1 3 (by decide +kernel) rfl⟩
theorem miX4_setGrey : MI yX4_setGrey cX4_setGrey 6 (some .int) 3 := ⟨ug2 174 (by decide +kernel) rfl, by decide +kernel, by decide +kernel, ug1 3 (by decide +kernel) rfl⟩
theorem miX4_trySetGrey : MI yX4_trySetGrey cX4_trySetGrey 4 (some .boolean) 3 := ⟨ug3 77 (by decide +kernel) rfl, by decide +kernel, by decide +kernel, ug1 3 (by decide +kernel) rfl⟩
theorem miX4_fillBox : MI yX4_fillBox cX4_fillBox 9 (some .int) 5 := ⟨ug3 90 (by decide +kernel) rfl, by decide +kernel, by decide +kernel, ug1 3 (by decide +kernel) rfl⟩
theorem miX4_tryFillBox : MI yX4_tryFillBox cX4_tryFillBox 6 (some .boolean) 5 := ⟨ug3 86 (by decide +kernel) rfl, by decide +kernel, by decide +kernel, ug1 3 (by decide +kernel) rfl⟩
theorem miX4_hasThreshold : MI yX4_hasThreshold cX4_hasThreshold 2 (some .boolean) 1 := ⟨ug4 5 (by decide +kernel) rfl, by decide +kernel, by decide +kernel, ug1 3 (by decide +kernel) rfl⟩
theorem miX4_indexOfThreshold : MI yX4_indexOfThreshold cX4_indexOfThreshold 3 (some .int) 1 := ⟨ug3 102 (by decide +kernel) rfl, by decide +kernel, by decide +kernel, ug1 3 (by decide +kernel) rfl⟩
theorem miX4_canChangeThreshold : MI yX4_canChangeThreshold cX4_canChangeThreshold 4 (some .boolean) 2 := ⟨ug3 98 (by decide +kernel) rfl, by decide +kernel, by decide +kernel, ug1 3 (by decide +kernel) rfl⟩
theorem miX4_changeThreshold : MI yX4_changeThreshold cX4_changeThreshold 3 (some .int) 2 := ⟨ug3 106 (by decide +kernel) rfl, by decide +kernel, by decide +kernel, ug1 3 (by decide +kernel) rfl⟩
theorem miX4_tryChangeThreshold : MI yX4_tryChangeThreshold cX4_tryChangeThreshold 3 (some .boolean) 2 := ⟨ug3 94 (by decide +kernel) rfl, by decide +kernel, by decide +kernel, ug1 3 (by decide +kernel) rfl⟩
theorem miX4_putThreshold : MI yX4_putThreshold cX4_putThreshold 3 none 1 := ⟨ug3 110 (by decide +kernel) rfl, by decide +kernel, by decide +kernel, ug1 3 (by decide +kernel) rfl⟩
theorem miX4_takeThreshold : MI yX4_takeThreshold cX4_takeThreshold 4 none 1 := ⟨ug3 114 (by decide +kernel) rfl, by decide +kernel, by decide +kernel, ug1 3 (by decide +kernel) rfl⟩
theorem miX4_shareThresholds : MI yX4_shareThresholds cX4_shareThresholds 4 (some .int) 1 := ⟨ug4 145 (by decide +kernel) rfl, by decide +kernel, by decide +kernel, ug1 3 (by decide +kernel) rfl⟩
theorem miX4_leastAbove : MI yX4_leastAbove cX4_leastAbove 3 (some .int) 1 := ⟨ug4 149 (by decide +kernel) rfl, by decide +kernel, by decide +kernel, ug1 3 (by decide +kernel) rfl⟩
theorem miX4_cellsBelow : MI yX4_cellsBelow cX4_cellsBelow 5 (some .int) 1 := ⟨ug4 153 (by decide +kernel) rfl, by decide +kernel, by decide +kernel, ug1 3 (by decide +kernel) rfl⟩
theorem miX4_bandOfGrey : MI yX4_bandOfGrey cX4_bandOfGrey 4 (some .int) 1 := ⟨ug2 79 (by decide +kernel) rfl, by decide +kernel, by decide +kernel, ug1 3 (by decide +kernel) rfl⟩
theorem miX4_distanceToOtherBand : MI yX4_distanceToOtherBand cX4_distanceToOtherBand 6 (some .int) 1 := ⟨ug3 234 (by decide +kernel) rfl, by decide +kernel, by decide +kernel, ug1 3 (by decide +kernel) rfl⟩
theorem miX4_trySetLeast : MI yX4_trySetLeast cX4_trySetLeast 2 (some .boolean) 1 := ⟨ug3 118 (by decide +kernel) rfl, by decide +kernel, by decide +kernel, ug1 3 (by decide +kernel) rfl⟩
theorem miX4_blurGreys : MI yX4_blurGreys cX4_blurGreys 6 (some .int) 1 := ⟨ug2 162 (by decide +kernel) rfl, by decide +kernel, by decide +kernel, ug1 3 (by decide +kernel) rfl⟩
theorem miX4_blurredGrey : MI yX4_blurredGrey cX4_blurredGrey 7 (some .int) 3 := ⟨ug2 166 (by decide +kernel) rfl, by decide +kernel, by decide +kernel, ug1 3 (by decide +kernel) rfl⟩
theorem miX4_invertGreys : MI yX4_invertGreys cX4_invertGreys 3 (some .boolean) 0 := ⟨ug2 182 (by decide +kernel) rfl, by decide +kernel, by decide +kernel, ug1 3 (by decide +kernel) rfl⟩
theorem miX4_spreadGreys : MI yX4_spreadGreys cX4_spreadGreys 6 (some .int) 1 := ⟨ug3 126 (by decide +kernel) rfl, by decide +kernel, by decide +kernel, ug1 3 (by decide +kernel) rfl⟩
theorem miX4_spreadOut : MI yX4_spreadOut cX4_spreadOut 2 (some .int) 2 := ⟨ug3 129 (by decide +kernel) rfl, by decide +kernel, by decide +kernel, ug1 3 (by decide +kernel) rfl⟩
theorem miX4_trySpread : MI yX4_trySpread cX4_trySpread 2 (some .boolean) 1 := ⟨ug3 122 (by decide +kernel) rfl, by decide +kernel, by decide +kernel, ug1 3 (by decide +kernel) rfl⟩
theorem miX4_addNoise : MI yX4_addNoise cX4_addNoise 10 (some .int) 2 := ⟨ug4 193 (by decide +kernel) rfl, by decide +kernel, by decide +kernel, ug1 3 (by decide +kernel) rfl⟩
theorem miX5_init : MI yX5_init cX5_init 1 none 0 := ⟨ug1 30 (by decide +kernel) rfl, by decide +kernel, by decide +kernel, ug1 2 (by decide +kernel) rfl⟩
theorem miX5_isFull : MI yX5_isFull cX5_isFull 1 (some .boolean) 0 := ⟨ug3 32 (by decide +kernel) rfl, by decide +kernel, by decide +kernel, ug1 2 (by decide +kernel) rfl⟩
theorem miX5_add : MI yX5_add cX5_add 2 (some .int) 1 := ⟨ug3 52 (by decide +kernel) rfl, by decide +kernel, by decide +kernel, ug1 2 (by decide +kernel) rfl⟩
theorem miX5_empty : MI yX5_empty cX5_empty 2 (some .int) 0 := ⟨ug2 16 (by decide +kernel) rfl, by decide +kernel, by decide +kernel, ug1 2 (by decide +kernel) rfl⟩
theorem miX5_signAt : MI yX5_signAt cX5_signAt 2 (some .int) 1 := ⟨ug2 32 (by decide +kernel) rfl, by decide +kernel, by decide +kernel, ug1 2 (by decide +kernel) rfl⟩
theorem miX5_numberAt : MI yX5_numberAt cX5_numberAt 2 (some .int) 1 := ⟨ug2 59 (by decide +kernel) rfl, by decide +kernel, by decide +kernel, ug1 2 (by decide +kernel) rfl⟩
theorem miX5_wordEnd : MI yX5_wordEnd cX5_wordEnd 2 (some .int) 1 := ⟨ug2 39 (by decide +kernel) rfl, by decide +kernel, by decide +kernel, ug1 2 (by decide +kernel) rfl⟩
theorem miX5_firstError : MI yX5_firstError cX5_firstError 4 (some .int) 0 := ⟨ug2 24 (by decide +kernel) rfl, by decide +kernel, by decide +kernel, ug1 2 (by decide +kernel) rfl⟩
theorem miX5_errorInWord : MI yX5_errorInWord cX5_errorInWord 6 (some .int) 2 := ⟨ug2 28 (by decide +kernel) rfl, by decide +kernel, by decide +kernel, ug1 2 (by decide +kernel) rfl⟩
theorem miX5_isDigitAllowed : MI yX5_isDigitAllowed cX5_isDigitAllowed 8 (some .boolean) 3 := ⟨ug2 46 (by decide +kernel) rfl, by decide +kernel, by decide +kernel, ug1 2 (by decide +kernel) rfl⟩
theorem miX5_numbersOf : MI yX5_numbersOf cX5_numbersOf 1 (some .int) 1 := ⟨ug2 35 (by decide +kernel) rfl, by decide +kernel, by decide +kernel, ug1 2 (by decide +kernel) rfl⟩
theorem miX5_lowestNumber : MI yX5_lowestNumber cX5_lowestNumber 1 (some .int) 1 := ⟨ug2 52 (by decide +kernel) rfl, by decide +kernel, by decide +kernel, ug1 2 (by decide +kernel) rfl⟩
theorem miX5_highestNumber : MI yX5_highestNumber cX5_highestNumber 2 (some .int) 2 := ⟨ug2 55 (by decide +kernel) rfl, by decide +kernel, by decide +kernel, ug1 2 (by decide +kernel) rfl⟩
theorem miX6_init : MI yX6_init cX6_init 2 none 0 := ⟨ug1 22 (by decide +kernel) rfl, by decide +kernel, by decide +kernel, ug1 1 (by decide +kernel) rfl⟩
theorem miX6_append : MI yX6_append cX6_append 2 (some .int) 1 := ⟨ug2 196 (by decide +kernel) rfl, by decide +kernel, by decide +kernel, ug1 1 (by decide +kernel) rfl⟩
theorem miX6_clearText : MI yX6_clearText cX6_clearText 1 (some .int) 0 := ⟨ug2 12 (by decide +kernel) rfl, by decide +kernel, by decide +kernel, ug1 1 (by decide +kernel) rfl⟩
theorem miX6_errorPosition : MI yX6_errorPosition cX6_errorPosition 1 (some .int) 0 := ⟨ug2 20 (by decide +kernel) rfl, by decide +kernel, by decide +kernel, ug1 1 (by decide +kernel) rfl⟩
theorem miX6_load : MI yX6_load cX6_load 4 (some .int) 0 := ⟨ug3 60 (by decide +kernel) rfl, by decide +kernel, by decide +kernel, ug1 1 (by decide +kernel) rfl⟩
theorem miX6_obeysWord : MI yX6_obeysWord cX6_obeysWord 5 (some .boolean) 1 := ⟨ug3 72 (by decide +kernel) rfl, by decide +kernel, by decide +kernel, ug1 1 (by decide +kernel) rfl⟩
theorem miX6_about : MI yX6_about cX6_about 2 (some .int) 1 := ⟨ug3 136 (by decide +kernel) rfl, by decide +kernel, by decide +kernel, ug1 1 (by decide +kernel) rfl⟩
theorem miX6_cellOf : MI yX6_cellOf cX6_cellOf 5 (some .int) 3 := ⟨ug3 198 (by decide +kernel) rfl, by decide +kernel, by decide +kernel, ug1 1 (by decide +kernel) rfl⟩
theorem miX6_thresholdAt : MI yX6_thresholdAt cX6_thresholdAt 2 (some .int) 1 := ⟨ug4 1 (by decide +kernel) rfl, by decide +kernel, by decide +kernel, ug1 1 (by decide +kernel) rfl⟩
theorem miX6_island : MI yX6_island cX6_island 4 (some .int) 2 := ⟨ug4 12 (by decide +kernel) rfl, by decide +kernel, by decide +kernel, ug1 1 (by decide +kernel) rfl⟩
theorem miX6_border : MI yX6_border cX6_border 4 (some .int) 2 := ⟨ug4 44 (by decide +kernel) rfl, by decide +kernel, by decide +kernel, ug1 1 (by decide +kernel) rfl⟩
theorem miX6_outline : MI yX6_outline cX6_outline 4 (some .int) 2 := ⟨ug4 55 (by decide +kernel) rfl, by decide +kernel, by decide +kernel, ug1 1 (by decide +kernel) rfl⟩
theorem miX6_outlineWay : MI yX6_outlineWay cX6_outlineWay 4 (some .int) 2 := ⟨ug4 82 (by decide +kernel) rfl, by decide +kernel, by decide +kernel, ug1 1 (by decide +kernel) rfl⟩
theorem miX6_band : MI yX6_band cX6_band 3 (some .int) 2 := ⟨ug4 89 (by decide +kernel) rfl, by decide +kernel, by decide +kernel, ug1 1 (by decide +kernel) rfl⟩
theorem miX6_ink : MI yX6_ink cX6_ink 1 (some .int) 0 := ⟨ug2 63 (by decide +kernel) rfl, by decide +kernel, by decide +kernel, ug1 1 (by decide +kernel) rfl⟩
theorem miX6_plate : MI yX6_plate cX6_plate 3 (some .int) 2 := ⟨ug4 105 (by decide +kernel) rfl, by decide +kernel, by decide +kernel, ug1 1 (by decide +kernel) rfl⟩
theorem miX6_cell : MI yX6_cell cX6_cell 4 (some .int) 3 := ⟨ug4 114 (by decide +kernel) rfl, by decide +kernel, by decide +kernel, ug1 1 (by decide +kernel) rfl⟩
theorem miX6_box : MI yX6_box cX6_box 6 (some .int) 5 := ⟨ug4 122 (by decide +kernel) rfl, by decide +kernel, by decide +kernel, ug1 1 (by decide +kernel) rfl⟩
theorem miX6_threshold : MI yX6_threshold cX6_threshold 3 (some .int) 2 := ⟨ug4 131 (by decide +kernel) rfl, by decide +kernel, by decide +kernel, ug1 1 (by decide +kernel) rfl⟩
theorem miX6_share : MI yX6_share cX6_share 2 (some .int) 1 := ⟨ug4 141 (by decide +kernel) rfl, by decide +kernel, by decide +kernel, ug1 1 (by decide +kernel) rfl⟩
theorem miX6_least : MI yX6_least cX6_least 3 (some .int) 1 := ⟨ug4 160 (by decide +kernel) rfl, by decide +kernel, by decide +kernel, ug1 1 (by decide +kernel) rfl⟩
theorem miX6_hatch : MI yX6_hatch cX6_hatch 4 (some .int) 2 := ⟨ug4 167 (by decide +kernel) rfl, by decide +kernel, by decide +kernel, ug1 1 (by decide +kernel) rfl⟩
theorem miX6_line : MI yX6_line cX6_line 3 (some .int) 1 := ⟨ug4 174 (by decide +kernel) rfl, by decide +kernel, by decide +kernel, ug1 1 (by decide +kernel) rfl⟩
theorem miX6_blur : MI yX6_blur cX6_blur 1 (some .int) 0 := ⟨ug2 138 (by decide +kernel) rfl, by decide +kernel, by decide +kernel, ug1 1 (by decide +kernel) rfl⟩
theorem miX6_invert : MI yX6_invert cX6_invert 1 (some .int) 0 := ⟨ug2 178 (by decide +kernel) rfl, by decide +kernel, by decide +kernel, ug1 1 (by decide +kernel) rfl⟩
theorem miX6_spread : MI yX6_spread cX6_spread 2 (some .int) 1 := ⟨ug4 181 (by decide +kernel) rfl, by decide +kernel, by decide +kernel, ug1 1 (by decide +kernel) rfl⟩
theorem miX6_noise : MI yX6_noise cX6_noise 4 (some .int) 2 := ⟨ug4 189 (by decide +kernel) rfl, by decide +kernel, by decide +kernel, ug1 1 (by decide +kernel) rfl⟩
theorem miX6_undo : MI yX6_undo cX6_undo 1 (some .int) 0 := ⟨ug4 204 (by decide +kernel) rfl, by decide +kernel, by decide +kernel, ug1 1 (by decide +kernel) rfl⟩
theorem miX6_beginAction : MI yX6_beginAction cX6_beginAction 1 none 0 := ⟨ug2 142 (by decide +kernel) rfl, by decide +kernel, by decide +kernel, ug1 1 (by decide +kernel) rfl⟩
theorem miX6_ifLeast : MI yX6_ifLeast cX6_ifLeast 3 (some .int) 2 := ⟨ug4 216 (by decide +kernel) rfl, by decide +kernel, by decide +kernel, ug1 1 (by decide +kernel) rfl⟩
theorem miX6_leastFor : MI yX6_leastFor cX6_leastFor 3 (some .int) 1 := ⟨ug4 223 (by decide +kernel) rfl, by decide +kernel, by decide +kernel, ug1 1 (by decide +kernel) rfl⟩
theorem miX6_bestMove : MI yX6_bestMove cX6_bestMove 9 (some .int) 1 := ⟨ug4 231 (by decide +kernel) rfl, by decide +kernel, by decide +kernel, ug1 1 (by decide +kernel) rfl⟩
theorem miX6_ifCell : MI yX6_ifCell cX6_ifCell 5 (some .int) 4 := ⟨ug5 5 (by decide +kernel) rfl, by decide +kernel, by decide +kernel, ug1 1 (by decide +kernel) rfl⟩
theorem miX6_runScript : MI yX6_runScript cX6_runScript 9 (some .int) 2 := ⟨ug5 16 (by decide +kernel) rfl, by decide +kernel, by decide +kernel, ug1 1 (by decide +kernel) rfl⟩
theorem miX6_obeysGroup : MI yX6_obeysGroup cX6_obeysGroup 7 (some .boolean) 1 := ⟨ug5 23 (by decide +kernel) rfl, by decide +kernel, by decide +kernel, ug1 1 (by decide +kernel) rfl⟩
theorem miX6_holdsGroup : MI yX6_holdsGroup cX6_holdsGroup 6 (some .boolean) 1 := ⟨ug5 29 (by decide +kernel) rfl, by decide +kernel, by decide +kernel, ug1 1 (by decide +kernel) rfl⟩
theorem miX6_simulate : MI yX6_simulate cX6_simulate 7 (some .int) 2 := ⟨ug5 36 (by decide +kernel) rfl, by decide +kernel, by decide +kernel, ug1 1 (by decide +kernel) rfl⟩
theorem miX6_takeTurn : MI yX6_takeTurn cX6_takeTurn 5 none 1 := ⟨ug5 42 (by decide +kernel) rfl, by decide +kernel, by decide +kernel, ug1 1 (by decide +kernel) rfl⟩
theorem miX6_save : MI yX6_save cX6_save 2 (some .int) 1 := ⟨ug5 49 (by decide +kernel) rfl, by decide +kernel, by decide +kernel, ug1 1 (by decide +kernel) rfl⟩
theorem miX6_restore : MI yX6_restore cX6_restore 2 (some .int) 1 := ⟨ug5 56 (by decide +kernel) rfl, by decide +kernel, by decide +kernel, ug1 1 (by decide +kernel) rfl⟩
theorem miX6_present : MI yX6_present cX6_present 1 (some (.object "BandEngraver$Islands")) 0 := ⟨ug2 67 (by decide +kernel) rfl, by decide +kernel, by decide +kernel, ug1 1 (by decide +kernel) rfl⟩
theorem miX6_presentNest : MI yX6_presentNest cX6_presentNest 2 (some (.object "BandEngraver$Nest")) 0 := ⟨ug3 145 (by decide +kernel) rfl, by decide +kernel, by decide +kernel, ug1 1 (by decide +kernel) rfl⟩
theorem miX6_forgetFindings : MI yX6_forgetFindings cX6_forgetFindings 1 none 0 := ⟨ug2 158 (by decide +kernel) rfl, by decide +kernel, by decide +kernel, ug1 1 (by decide +kernel) rfl⟩
theorem miX6_isWithin : MI yX6_isWithin cX6_isWithin 3 (some .boolean) 3 := ⟨ug2 49 (by decide +kernel) rfl, by decide +kernel, by decide +kernel, ug1 1 (by decide +kernel) rfl⟩
theorem miX6_mustBeWithin : MI yX6_mustBeWithin cX6_mustBeWithin 3 none 3 := ⟨ug2 199 (by decide +kernel) rfl, by decide +kernel, by decide +kernel, ug1 1 (by decide +kernel) rfl⟩
theorem miX6_mustExist : MI yX6_mustExist cX6_mustExist 1 none 1 := ⟨ug3 202 (by decide +kernel) rfl, by decide +kernel, by decide +kernel, ug1 1 (by decide +kernel) rfl⟩
theorem miX7_init : MI yX7_init cX7_init 1 none 0 := ⟨ug5 62 (by decide +kernel) rfl, by decide +kernel, by decide +kernel, ug1 9 (by decide +kernel) rfl⟩
theorem miX7_thrown : MI yX7_thrown cX7_thrown 1 (some .int) 0 := ⟨ug5 149 (by decide +kernel) rfl, by decide +kernel, by decide +kernel, ug1 9 (by decide +kernel) rfl⟩
theorem miX7_refused : MI yX7_refused cX7_refused 2 (some .boolean) 1 := ⟨ug5 161 (by decide +kernel) rfl, by decide +kernel, by decide +kernel, ug1 9 (by decide +kernel) rfl⟩
theorem miX7_in : MI yX7_in cX7_in 6 (some .boolean) 3 := ⟨ug5 157 (by decide +kernel) rfl, by decide +kernel, by decide +kernel, ug1 9 (by decide +kernel) rfl⟩
theorem miX7_copyState : MI yX7_copyState cX7_copyState 5 none 4 := ⟨ug6 15 (by decide +kernel) rfl, by decide +kernel, by decide +kernel, ug1 9 (by decide +kernel) rfl⟩
theorem miX7_clear : MI yX7_clear cX7_clear 4 none 3 := ⟨ug5 66 (by decide +kernel) rfl, by decide +kernel, by decide +kernel, ug1 9 (by decide +kernel) rfl⟩
theorem miX7_firstSettings : MI yX7_firstSettings cX7_firstSettings 2 none 1 := ⟨ug5 69 (by decide +kernel) rfl, by decide +kernel, by decide +kernel, ug1 9 (by decide +kernel) rfl⟩
theorem miX7_cells : MI yX7_cells cX7_cells 1 (some .int) 1 := ⟨ug5 231 (by decide +kernel) rfl, by decide +kernel, by decide +kernel, ug1 9 (by decide +kernel) rfl⟩
theorem miX7_isColumn : MI yX7_isColumn cX7_isColumn 2 (some .boolean) 2 := ⟨ug5 189 (by decide +kernel) rfl, by decide +kernel, by decide +kernel, ug1 9 (by decide +kernel) rfl⟩
theorem miX7_isRow : MI yX7_isRow cX7_isRow 2 (some .boolean) 2 := ⟨ug5 192 (by decide +kernel) rfl, by decide +kernel, by decide +kernel, ug1 9 (by decide +kernel) rfl⟩
theorem miX7_isGrey : MI yX7_isGrey cX7_isGrey 1 (some .boolean) 1 := ⟨ug6 174 (by decide +kernel) rfl, by decide +kernel, by decide +kernel, ug1 9 (by decide +kernel) rfl⟩
theorem miX7_isPart : MI yX7_isPart cX7_isPart 1 (some .boolean) 1 := ⟨ug6 186 (by decide +kernel) rfl, by decide +kernel, by decide +kernel, ug1 9 (by decide +kernel) rfl⟩
theorem miX7_at : MI yX7_at cX7_at 3 (some .int) 3 := ⟨ug5 195 (by decide +kernel) rfl, by decide +kernel, by decide +kernel, ug1 9 (by decide +kernel) rfl⟩
theorem miX7_sum : MI yX7_sum cX7_sum 3 (some .int) 1 := ⟨ug6 4 (by decide +kernel) rfl, by decide +kernel, by decide +kernel, ug1 9 (by decide +kernel) rfl⟩
theorem miX7_bandOf : MI yX7_bandOf cX7_bandOf 3 (some .int) 2 := ⟨ug6 35 (by decide +kernel) rfl, by decide +kernel, by decide +kernel, ug1 9 (by decide +kernel) rfl⟩
theorem miX7_next : MI yX7_next cX7_next 5 (some .int) 3 := ⟨ug5 234 (by decide +kernel) rfl, by decide +kernel, by decide +kernel, ug1 9 (by decide +kernel) rfl⟩
theorem miX7_flood : MI yX7_flood cX7_flood 8 none 2 := ⟨ug6 43 (by decide +kernel) rfl, by decide +kernel, by decide +kernel, ug1 9 (by decide +kernel) rfl⟩
theorem miX7_mark : MI yX7_mark cX7_mark 3 none 1 := ⟨ug6 39 (by decide +kernel) rfl, by decide +kernel, by decide +kernel, ug1 9 (by decide +kernel) rfl⟩
theorem miX7_markGreys : MI yX7_markGreys cX7_markGreys 3 none 1 := ⟨ug6 32 (by decide +kernel) rfl, by decide +kernel, by decide +kernel, ug1 9 (by decide +kernel) rfl⟩
theorem miX7_meet : MI yX7_meet cX7_meet 6 none 2 := ⟨ug6 51 (by decide +kernel) rfl, by decide +kernel, by decide +kernel, ug1 9 (by decide +kernel) rfl⟩
theorem miX7_bandOfIsle : MI yX7_bandOfIsle cX7_bandOfIsle 2 (some .int) 1 := ⟨ug6 59 (by decide +kernel) rfl, by decide +kernel, by decide +kernel, ug1 9 (by decide +kernel) rfl⟩
theorem miX7_isBetter : MI yX7_isBetter cX7_isBetter 7 (some .boolean) 3 := ⟨ug6 55 (by decide +kernel) rfl, by decide +kernel, by decide +kernel, ug1 9 (by decide +kernel) rfl⟩
theorem miX7_smallest : MI yX7_smallest cX7_smallest 4 (some .int) 1 := ⟨ug6 47 (by decide +kernel) rfl, by decide +kernel, by decide +kernel, ug1 9 (by decide +kernel) rfl⟩
theorem miX7_find : MI yX7_find cX7_find 7 none 2 := ⟨ug6 28 (by decide +kernel) rfl, by decide +kernel, by decide +kernel, ug1 9 (by decide +kernel) rfl⟩
theorem miX7_findAs : MI yX7_findAs cX7_findAs 2 none 1 := ⟨ug6 24 (by decide +kernel) rfl, by decide +kernel, by decide +kernel, ug1 9 (by decide +kernel) rfl⟩
theorem miX7_otherBands : MI yX7_otherBands cX7_otherBands 4 (some .int) 1 := ⟨ug6 63 (by decide +kernel) rfl, by decide +kernel, by decide +kernel, ug1 9 (by decide +kernel) rfl⟩
theorem miX7_sidesOf : MI yX7_sidesOf cX7_sidesOf 6 (some .int) 2 := ⟨ug6 71 (by decide +kernel) rfl, by decide +kernel, by decide +kernel, ug1 9 (by decide +kernel) rfl⟩
theorem miX7_allSides : MI yX7_allSides cX7_allSides 4 (some .int) 1 := ⟨ug6 67 (by decide +kernel) rfl, by decide +kernel, by decide +kernel, ug1 9 (by decide +kernel) rfl⟩
theorem miX7_inkOf : MI yX7_inkOf cX7_inkOf 4 (some .int) 1 := ⟨ug6 158 (by decide +kernel) rfl, by decide +kernel, by decide +kernel, ug1 9 (by decide +kernel) rfl⟩
theorem miX7_floodHole : MI yX7_floodHole cX7_floodHole 12 (some .boolean) 3 := ⟨ug6 83 (by decide +kernel) rfl, by decide +kernel, by decide +kernel, ug1 9 (by decide +kernel) rfl⟩
theorem miX7_noMarks : MI yX7_noMarks cX7_noMarks 2 none 0 := ⟨ug6 79 (by decide +kernel) rfl, by decide +kernel, by decide +kernel, ug1 9 (by decide +kernel) rfl⟩
theorem miX7_holes : MI yX7_holes cX7_holes 5 (some .int) 2 := ⟨ug6 75 (by decide +kernel) rfl, by decide +kernel, by decide +kernel, ug1 9 (by decide +kernel) rfl⟩
theorem miX7_liesIn : MI yX7_liesIn cX7_liesIn 4 (some .boolean) 3 := ⟨ug6 120 (by decide +kernel) rfl, by decide +kernel, by decide +kernel, ug1 9 (by decide +kernel) rfl⟩
theorem miX7_motherOf : MI yX7_motherOf cX7_motherOf 5 (some .int) 2 := ⟨ug6 116 (by decide +kernel) rfl, by decide +kernel, by decide +kernel, ug1 9 (by decide +kernel) rfl⟩
theorem miX7_inIt : MI yX7_inIt cX7_inIt 5 (some .int) 2 := ⟨ug6 124 (by decide +kernel) rfl, by decide +kernel, by decide +kernel, ug1 9 (by decide +kernel) rfl⟩
theorem miX7_isOf : MI yX7_isOf cX7_isOf 5 (some .boolean) 4 := ⟨ug6 141 (by decide +kernel) rfl, by decide +kernel, by decide +kernel, ug1 9 (by decide +kernel) rfl⟩
theorem miX7_walk : MI yX7_walk cX7_walk 14 none 3 := ⟨ug6 137 (by decide +kernel) rfl, by decide +kernel, by decide +kernel, ug1 9 (by decide +kernel) rfl⟩
theorem miX7_cellOn : MI yX7_cellOn cX7_cellOn 4 (some .int) 3 := ⟨ug5 198 (by decide +kernel) rfl, by decide +kernel, by decide +kernel, ug1 9 (by decide +kernel) rfl⟩
theorem miX7_canBox : MI yX7_canBox cX7_canBox 5 (some .boolean) 5 := ⟨ug5 209 (by decide +kernel) rfl, by decide +kernel, by decide +kernel, ug1 9 (by decide +kernel) rfl⟩
theorem miX7_boxOn : MI yX7_boxOn cX7_boxOn 9 (some .int) 6 := ⟨ug5 212 (by decide +kernel) rfl, by decide +kernel, by decide +kernel, ug1 9 (by decide +kernel) rfl⟩
theorem miX7_placeOf : MI yX7_placeOf cX7_placeOf 3 (some .int) 2 := ⟨ug5 221 (by decide +kernel) rfl, by decide +kernel, by decide +kernel, ug1 9 (by decide +kernel) rfl⟩
theorem miX7_isThere : MI yX7_isThere cX7_isThere 3 (some .boolean) 2 := ⟨ug5 218 (by decide +kernel) rfl, by decide +kernel, by decide +kernel, ug1 9 (by decide +kernel) rfl⟩
theorem miX7_canPart : MI yX7_canPart cX7_canPart 3 (some .boolean) 3 := ⟨ug5 215 (by decide +kernel) rfl, by decide +kernel, by decide +kernel, ug1 9 (by decide +kernel) rfl⟩
theorem miX7_partOn : MI yX7_partOn cX7_partOn 5 (some .int) 3 := ⟨ug5 224 (by decide +kernel) rfl, by decide +kernel, by decide +kernel, ug1 9 (by decide +kernel) rfl⟩
theorem miX7_below : MI yX7_below cX7_below 4 (some .int) 2 := ⟨ug6 196 (by decide +kernel) rfl, by decide +kernel, by decide +kernel, ug1 9 (by decide +kernel) rfl⟩
theorem miX7_shareOn : MI yX7_shareOn cX7_shareOn 4 (some .int) 2 := ⟨ug6 193 (by decide +kernel) rfl, by decide +kernel, by decide +kernel, ug1 9 (by decide +kernel) rfl⟩
theorem miX7_takeOver : MI yX7_takeOver cX7_takeOver 4 (some .int) 1 := ⟨ug5 238 (by decide +kernel) rfl, by decide +kernel, by decide +kernel, ug1 9 (by decide +kernel) rfl⟩
theorem miX7_blurOn : MI yX7_blurOn cX7_blurOn 7 (some .int) 1 := ⟨ug5 228 (by decide +kernel) rfl, by decide +kernel, by decide +kernel, ug1 9 (by decide +kernel) rfl⟩
theorem miX7_invertOn : MI yX7_invertOn cX7_invertOn 2 (some .int) 1 := ⟨ug6 1 (by decide +kernel) rfl, by decide +kernel, by decide +kernel, ug1 9 (by decide +kernel) rfl⟩
theorem miX7_held : MI yX7_held cX7_held 1 (some .int) 1 := ⟨ug7 0 (by decide +kernel) rfl, by decide +kernel, by decide +kernel, ug1 9 (by decide +kernel) rfl⟩
theorem miX7_spreadOn : MI yX7_spreadOn cX7_spreadOn 5 (some .int) 2 := ⟨ug6 8 (by decide +kernel) rfl, by decide +kernel, by decide +kernel, ug1 9 (by decide +kernel) rfl⟩
theorem miX7_noiseOn : MI yX7_noiseOn cX7_noiseOn 8 (some .int) 3 := ⟨ug6 235 (by decide +kernel) rfl, by decide +kernel, by decide +kernel, ug1 9 (by decide +kernel) rfl⟩
theorem miX7_append : MI yX7_append cX7_append 2 (some .int) 1 := ⟨ug5 153 (by decide +kernel) rfl, by decide +kernel, by decide +kernel, ug1 9 (by decide +kernel) rfl⟩
theorem miX7_clearText : MI yX7_clearText cX7_clearText 2 (some .int) 0 := ⟨ug5 165 (by decide +kernel) rfl, by decide +kernel, by decide +kernel, ug1 9 (by decide +kernel) rfl⟩
theorem miX7_figures : MI yX7_figures cX7_figures 8 (some .int) 3 := ⟨ug5 177 (by decide +kernel) rfl, by decide +kernel, by decide +kernel, ug1 9 (by decide +kernel) rfl⟩
theorem miX7_done : MI yX7_done cX7_done 2 (some .boolean) 1 := ⟨ug5 202 (by decide +kernel) rfl, by decide +kernel, by decide +kernel, ug1 9 (by decide +kernel) rfl⟩
theorem miX7_readBox : MI yX7_readBox cX7_readBox 7 (some .boolean) 1 := ⟨ug5 206 (by decide +kernel) rfl, by decide +kernel, by decide +kernel, ug1 9 (by decide +kernel) rfl⟩
theorem miX7_readCell : MI yX7_readCell cX7_readCell 5 (some .boolean) 1 := ⟨ug5 186 (by decide +kernel) rfl, by decide +kernel, by decide +kernel, ug1 9 (by decide +kernel) rfl⟩
theorem miX7_readCommand : MI yX7_readCommand cX7_readCommand 4 (some .boolean) 1 := ⟨ug5 182 (by decide +kernel) rfl, by decide +kernel, by decide +kernel, ug1 9 (by decide +kernel) rfl⟩
theorem miX7_readText : MI yX7_readText cX7_readText 4 (some .int) 1 := ⟨ug5 173 (by decide +kernel) rfl, by decide +kernel, by decide +kernel, ug1 9 (by decide +kernel) rfl⟩
theorem miX7_errorPosition : MI yX7_errorPosition cX7_errorPosition 1 (some .int) 0 := ⟨ug5 169 (by decide +kernel) rfl, by decide +kernel, by decide +kernel, ug1 9 (by decide +kernel) rfl⟩
theorem miX7_load : MI yX7_load cX7_load 1 (some .int) 0 := ⟨ug6 12 (by decide +kernel) rfl, by decide +kernel, by decide +kernel, ug1 9 (by decide +kernel) rfl⟩
theorem miX7_about : MI yX7_about cX7_about 4 (some .int) 1 := ⟨ug6 19 (by decide +kernel) rfl, by decide +kernel, by decide +kernel, ug1 9 (by decide +kernel) rfl⟩
theorem miX7_toOther : MI yX7_toOther cX7_toOther 5 (some .int) 2 := ⟨ug6 91 (by decide +kernel) rfl, by decide +kernel, by decide +kernel, ug1 9 (by decide +kernel) rfl⟩
theorem miX7_cellOf : MI yX7_cellOf cX7_cellOf 5 (some .int) 3 := ⟨ug6 87 (by decide +kernel) rfl, by decide +kernel, by decide +kernel, ug1 9 (by decide +kernel) rfl⟩
theorem miX7_thresholdAt : MI yX7_thresholdAt cX7_thresholdAt 2 (some .int) 1 := ⟨ug6 95 (by decide +kernel) rfl, by decide +kernel, by decide +kernel, ug1 9 (by decide +kernel) rfl⟩
theorem miX7_isIsle : MI yX7_isIsle cX7_isIsle 2 (some .boolean) 1 := ⟨ug6 103 (by decide +kernel) rfl, by decide +kernel, by decide +kernel, ug1 9 (by decide +kernel) rfl⟩
theorem miX7_sidesOfIsle : MI yX7_sidesOfIsle cX7_sidesOfIsle 7 (some .int) 2 := ⟨ug6 108 (by decide +kernel) rfl, by decide +kernel, by decide +kernel, ug1 9 (by decide +kernel) rfl⟩
theorem miX7_near : MI yX7_near cX7_near 4 (some .int) 1 := ⟨ug6 112 (by decide +kernel) rfl, by decide +kernel, by decide +kernel, ug1 9 (by decide +kernel) rfl⟩
theorem miX7_island : MI yX7_island cX7_island 3 (some .int) 2 := ⟨ug6 99 (by decide +kernel) rfl, by decide +kernel, by decide +kernel, ug1 9 (by decide +kernel) rfl⟩
theorem miX7_border : MI yX7_border cX7_border 3 (some .int) 2 := ⟨ug6 128 (by decide +kernel) rfl, by decide +kernel, by decide +kernel, ug1 9 (by decide +kernel) rfl⟩
theorem miX7_outline : MI yX7_outline cX7_outline 3 (some .int) 2 := ⟨ug6 132 (by decide +kernel) rfl, by decide +kernel, by decide +kernel, ug1 9 (by decide +kernel) rfl⟩
theorem miX7_outlineWay : MI yX7_outlineWay cX7_outlineWay 4 (some .int) 2 := ⟨ug6 145 (by decide +kernel) rfl, by decide +kernel, by decide +kernel, ug1 9 (by decide +kernel) rfl⟩
theorem miX7_band : MI yX7_band cX7_band 6 (some .int) 2 := ⟨ug6 149 (by decide +kernel) rfl, by decide +kernel, by decide +kernel, ug1 9 (by decide +kernel) rfl⟩
theorem miX7_ink : MI yX7_ink cX7_ink 1 (some .int) 0 := ⟨ug6 154 (by decide +kernel) rfl, by decide +kernel, by decide +kernel, ug1 9 (by decide +kernel) rfl⟩
theorem miX7_remember : MI yX7_remember cX7_remember 2 none 0 := ⟨ug6 167 (by decide +kernel) rfl, by decide +kernel, by decide +kernel, ug1 9 (by decide +kernel) rfl⟩
theorem miX7_plate : MI yX7_plate cX7_plate 3 (some .int) 2 := ⟨ug6 162 (by decide +kernel) rfl, by decide +kernel, by decide +kernel, ug1 9 (by decide +kernel) rfl⟩
theorem miX7_cell : MI yX7_cell cX7_cell 4 (some .int) 3 := ⟨ug6 171 (by decide +kernel) rfl, by decide +kernel, by decide +kernel, ug1 9 (by decide +kernel) rfl⟩
theorem miX7_box : MI yX7_box cX7_box 7 (some .int) 5 := ⟨ug6 179 (by decide +kernel) rfl, by decide +kernel, by decide +kernel, ug1 9 (by decide +kernel) rfl⟩
theorem miX7_threshold : MI yX7_threshold cX7_threshold 3 (some .int) 2 := ⟨ug6 183 (by decide +kernel) rfl, by decide +kernel, by decide +kernel, ug1 9 (by decide +kernel) rfl⟩
theorem miX7_share : MI yX7_share cX7_share 2 (some .int) 1 := ⟨ug6 190 (by decide +kernel) rfl, by decide +kernel, by decide +kernel, ug1 9 (by decide +kernel) rfl⟩
theorem miX7_change : MI yX7_change cX7_change 4 (some .int) 2 := ⟨ug6 205 (by decide +kernel) rfl, by decide +kernel, by decide +kernel, ug1 9 (by decide +kernel) rfl⟩
theorem miX7_least : MI yX7_least cX7_least 2 (some .int) 1 := ⟨ug6 200 (by decide +kernel) rfl, by decide +kernel, by decide +kernel, ug1 9 (by decide +kernel) rfl⟩
theorem miX7_hatch : MI yX7_hatch cX7_hatch 3 (some .int) 2 := ⟨ug6 209 (by decide +kernel) rfl, by decide +kernel, by decide +kernel, ug1 9 (by decide +kernel) rfl⟩
theorem miX7_line : MI yX7_line cX7_line 2 (some .int) 1 := ⟨ug6 213 (by decide +kernel) rfl, by decide +kernel, by decide +kernel, ug1 9 (by decide +kernel) rfl⟩
theorem miX7_blur : MI yX7_blur cX7_blur 1 (some .int) 0 := ⟨ug6 217 (by decide +kernel) rfl, by decide +kernel, by decide +kernel, ug1 9 (by decide +kernel) rfl⟩
theorem miX7_invert : MI yX7_invert cX7_invert 1 (some .int) 0 := ⟨ug6 221 (by decide +kernel) rfl, by decide +kernel, by decide +kernel, ug1 9 (by decide +kernel) rfl⟩
theorem miX7_spread : MI yX7_spread cX7_spread 2 (some .int) 1 := ⟨ug6 225 (by decide +kernel) rfl, by decide +kernel, by decide +kernel, ug1 9 (by decide +kernel) rfl⟩
theorem miX7_noise : MI yX7_noise cX7_noise 4 (some .int) 2 := ⟨ug6 230 (by decide +kernel) rfl, by decide +kernel, by decide +kernel, ug1 9 (by decide +kernel) rfl⟩
theorem miX7_undo : MI yX7_undo cX7_undo 1 (some .int) 0 := ⟨ug7 4 (by decide +kernel) rfl, by decide +kernel, by decide +kernel, ug1 9 (by decide +kernel) rfl⟩
theorem miX7_ifLeast : MI yX7_ifLeast cX7_ifLeast 3 (some .int) 2 := ⟨ug7 8 (by decide +kernel) rfl, by decide +kernel, by decide +kernel, ug1 9 (by decide +kernel) rfl⟩
theorem miX7_leastFor : MI yX7_leastFor cX7_leastFor 3 (some .int) 1 := ⟨ug7 12 (by decide +kernel) rfl, by decide +kernel, by decide +kernel, ug1 9 (by decide +kernel) rfl⟩
theorem miX7_bestMove : MI yX7_bestMove cX7_bestMove 9 (some .int) 1 := ⟨ug7 17 (by decide +kernel) rfl, by decide +kernel, by decide +kernel, ug1 9 (by decide +kernel) rfl⟩
theorem miX7_ifCell : MI yX7_ifCell cX7_ifCell 7 (some .int) 4 := ⟨ug7 21 (by decide +kernel) rfl, by decide +kernel, by decide +kernel, ug1 9 (by decide +kernel) rfl⟩
theorem miX7_paints : MI yX7_paints cX7_paints 4 (some .boolean) 3 := ⟨ug7 36 (by decide +kernel) rfl, by decide +kernel, by decide +kernel, ug1 9 (by decide +kernel) rfl⟩
theorem miX7_boxes : MI yX7_boxes cX7_boxes 6 (some .boolean) 5 := ⟨ug7 40 (by decide +kernel) rfl, by decide +kernel, by decide +kernel, ug1 9 (by decide +kernel) rfl⟩
theorem miX7_parts : MI yX7_parts cX7_parts 3 (some .boolean) 2 := ⟨ug7 44 (by decide +kernel) rfl, by decide +kernel, by decide +kernel, ug1 9 (by decide +kernel) rfl⟩
theorem miX7_setsLeast : MI yX7_setsLeast cX7_setsLeast 3 (some .boolean) 1 := ⟨ug7 48 (by decide +kernel) rfl, by decide +kernel, by decide +kernel, ug1 9 (by decide +kernel) rfl⟩
theorem miX7_command : MI yX7_command cX7_command 8 (some .boolean) 2 := ⟨ug7 31 (by decide +kernel) rfl, by decide +kernel, by decide +kernel, ug1 9 (by decide +kernel) rfl⟩
theorem miX7_runScript : MI yX7_runScript cX7_runScript 8 (some .int) 2 := ⟨ug7 25 (by decide +kernel) rfl, by decide +kernel, by decide +kernel, ug1 9 (by decide +kernel) rfl⟩
theorem miX7_turn : MI yX7_turn cX7_turn 3 none 1 := ⟨ug7 57 (by decide +kernel) rfl, by decide +kernel, by decide +kernel, ug1 9 (by decide +kernel) rfl⟩
theorem miX7_simulate : MI yX7_simulate cX7_simulate 7 (some .int) 2 := ⟨ug7 52 (by decide +kernel) rfl, by decide +kernel, by decide +kernel, ug1 9 (by decide +kernel) rfl⟩
theorem miX7_save : MI yX7_save cX7_save 2 (some .int) 1 := ⟨ug7 61 (by decide +kernel) rfl, by decide +kernel, by decide +kernel, ug1 9 (by decide +kernel) rfl⟩
theorem miX7_restore : MI yX7_restore cX7_restore 2 (some .int) 1 := ⟨ug7 65 (by decide +kernel) rfl, by decide +kernel, by decide +kernel, ug1 9 (by decide +kernel) rfl⟩
theorem miAF_fill : MI yAF_fill cAF_fill 4 none 2 := ⟨ug1 57 (by decide +kernel) rfl, by decide +kernel, by decide +kernel, ug1 4 (by decide +kernel) rfl⟩
theorem mv0_50 : MV RX0 50 yX4_cellCount := ⟨ug2 72 (by decide +kernel) rfl, ug2 73 (by decide +kernel) rfl, ug2 74 (by decide +kernel) rfl⟩
theorem mv0_57 : MV RX0 57 yX4_bandOfGrey := ⟨ug2 76 (by decide +kernel) rfl, ug2 77 (by decide +kernel) rfl, ug2 78 (by decide +kernel) rfl⟩
theorem mv0_61 : MV RX0 61 yX0_gather := ⟨ug2 80 (by decide +kernel) rfl, ug2 82 (by decide +kernel) rfl, ug0 3 (by decide +kernel) rfl⟩
theorem mv0_65 : MV RX0 65 yX0_mergeBelow := ⟨ug2 95 (by decide +kernel) rfl, ug2 96 (by decide +kernel) rfl, ug2 97 (by decide +kernel) rfl⟩
theorem mv0_68 : MV RX0 68 yX0_giveNumbers := ⟨ug2 119 (by decide +kernel) rfl, ug2 121 (by decide +kernel) rfl, ug0 10 (by decide +kernel) rfl⟩
theorem mv0_71 : MV RX0 71 yX0_smallestBelow := ⟨ug2 99 (by decide +kernel) rfl, ug2 101 (by decide +kernel) rfl, ug0 6 (by decide +kernel) rfl⟩
theorem mv0_74 : MV RX0 74 yX0_takerOf := ⟨ug2 103 (by decide +kernel) rfl, ug2 105 (by decide +kernel) rfl, ug0 7 (by decide +kernel) rfl⟩
theorem mv0_77 : MV RX0 77 yX0_measureBorders := ⟨ug2 107 (by decide +kernel) rfl, ug2 109 (by decide +kernel) rfl, ug0 8 (by decide +kernel) rfl⟩
theorem mv0_80 : MV RX0 80 yX0_isBetterTaker := ⟨ug2 112 (by decide +kernel) rfl, ug2 114 (by decide +kernel) rfl, ug0 9 (by decide +kernel) rfl⟩
theorem mv0_89 : MS RX0 89 yAF_fill := ⟨Or.inl (ug2 111 (by decide +kernel) rfl), ug1 56 (by decide +kernel) rfl⟩
theorem mv0_95 : MV RX0 95 yX0_neighbour := ⟨ug2 91 (by decide +kernel) rfl, ug2 93 (by decide +kernel) rfl, ug0 5 (by decide +kernel) rfl⟩
theorem mv0_99 : MV RX0 99 yX0_enqueue := ⟨ug2 84 (by decide +kernel) rfl, ug2 86 (by decide +kernel) rfl, ug0 4 (by decide +kernel) rfl⟩
theorem mv0_105 : MV RX0 105 yX0_otherSidesAt := ⟨ug2 131 (by decide +kernel) rfl, ug2 132 (by decide +kernel) rfl, ug2 133 (by decide +kernel) rfl⟩
theorem mv0_108 : MV RX0 108 yX0_bandOf := ⟨ug4 98 (by decide +kernel) rfl, ug4 23 (by decide +kernel) rfl, ug4 24 (by decide +kernel) rfl⟩
theorem mv0_114 : MV RX0 114 yX0_allSides := ⟨ug2 127 (by decide +kernel) rfl, ug2 128 (by decide +kernel) rfl, ug2 129 (by decide +kernel) rfl⟩
theorem mv1_25 : MV RX1 25 yX4_copyFrom := ⟨ug2 147 (by decide +kernel) rfl, ug2 148 (by decide +kernel) rfl, ug2 149 (by decide +kernel) rfl⟩
theorem mv2_27 : MS RX2 27 yAF_fill := ⟨Or.inl (ug3 150 (by decide +kernel) rfl), ug1 56 (by decide +kernel) rfl⟩
theorem mv2_39 : MV RX2 39 yX0_size := ⟨ug3 151 (by decide +kernel) rfl, ug3 152 (by decide +kernel) rfl, ug3 153 (by decide +kernel) rfl⟩
theorem mv2_43 : MV RX2 43 yX2_findHoles := ⟨ug3 155 (by decide +kernel) rfl, ug3 157 (by decide +kernel) rfl, ug0 19 (by decide +kernel) rfl⟩
theorem mv2_50 : MV RX2 50 yX0_islandAt := ⟨ug3 159 (by decide +kernel) rfl, ug3 160 (by decide +kernel) rfl, ug3 161 (by decide +kernel) rfl⟩
theorem mv2_53 : MV RX2 53 yX2_gatherAround := ⟨ug3 163 (by decide +kernel) rfl, ug3 165 (by decide +kernel) rfl, ug0 20 (by decide +kernel) rfl⟩
theorem mv2_57 : MV RX2 57 yX2_reachesEdge := ⟨ug3 171 (by decide +kernel) rfl, ug3 173 (by decide +kernel) rfl, ug0 21 (by decide +kernel) rfl⟩
theorem mv2_61 : MV RX2 61 yX2_takeHole := ⟨ug3 179 (by decide +kernel) rfl, ug3 181 (by decide +kernel) rfl, ug0 22 (by decide +kernel) rfl⟩
theorem mv2_68 : MV RX2 68 yX0_isOnPlate := ⟨ug3 167 (by decide +kernel) rfl, ug3 168 (by decide +kernel) rfl, ug3 169 (by decide +kernel) rfl⟩
theorem mv2_72 : MV RX2 72 yX0_isAtEdge := ⟨ug3 175 (by decide +kernel) rfl, ug3 176 (by decide +kernel) rfl, ug3 177 (by decide +kernel) rfl⟩
theorem mv2_76 : MV RX2 76 yX0_isFirstCell := ⟨ug3 183 (by decide +kernel) rfl, ug3 184 (by decide +kernel) rfl, ug3 185 (by decide +kernel) rfl⟩
theorem mv3_24 : MV RX3 24 yX0_firstCell := ⟨ug4 60 (by decide +kernel) rfl, ug4 18 (by decide +kernel) rfl, ug4 19 (by decide +kernel) rfl⟩
theorem mv3_33 : MS RX3 33 yX3_eastOf := ⟨Or.inl (ug4 61 (by decide +kernel) rfl), ug4 62 (by decide +kernel) rfl⟩
theorem mv3_36 : MS RX3 36 yX3_southOf := ⟨Or.inl (ug4 64 (by decide +kernel) rfl), ug4 65 (by decide +kernel) rfl⟩
theorem mv3_39 : MV RX3 39 yX3_turned := ⟨ug4 67 (by decide +kernel) rfl, ug4 69 (by decide +kernel) rfl, ug0 23 (by decide +kernel) rfl⟩
theorem mv3_43 : MS RX3 43 yX3_isOfIsland := ⟨Or.inl (ug4 71 (by decide +kernel) rfl), ug4 72 (by decide +kernel) rfl⟩
theorem mv3_47 : MV RX3 47 yX0_isOnPlate := ⟨ug4 74 (by decide +kernel) rfl, ug3 168 (by decide +kernel) rfl, ug3 169 (by decide +kernel) rfl⟩
theorem mv3_51 : MV RX3 51 yX0_islandAt := ⟨ug4 75 (by decide +kernel) rfl, ug3 160 (by decide +kernel) rfl, ug3 161 (by decide +kernel) rfl⟩
theorem mv4_21 : MV RX4 21 yX4_reset := ⟨ug1 47 (by decide +kernel) rfl, ug1 48 (by decide +kernel) rfl, ug1 49 (by decide +kernel) rfl⟩
theorem mv4_25 : MV RX4 25 yX4_takePlate := ⟨ug1 51 (by decide +kernel) rfl, ug1 52 (by decide +kernel) rfl, ug1 53 (by decide +kernel) rfl⟩
theorem mv4_44 : MS RX4 44 yAF_fill := ⟨Or.inl (ug1 55 (by decide +kernel) rfl), ug1 56 (by decide +kernel) rfl⟩
theorem mv4_56 : MV RX4 56 yX4_cellCount := ⟨ug2 183 (by decide +kernel) rfl, ug2 73 (by decide +kernel) rfl, ug2 74 (by decide +kernel) rfl⟩
theorem mv4_60 : MV RX4 60 yX4_cellNumber := ⟨ug2 167 (by decide +kernel) rfl, ug2 168 (by decide +kernel) rfl, ug2 169 (by decide +kernel) rfl⟩
theorem mv4_64 : MV RX4 64 yX4_hasCell := ⟨ug3 78 (by decide +kernel) rfl, ug3 79 (by decide +kernel) rfl, ug3 80 (by decide +kernel) rfl⟩
theorem mv4_68 : MS RX4 68 yX6_isWithin := ⟨Or.inr ⟨"BandEngraver", nw3 82 (by decide +kernel) rfl⟩, ug2 48 (by decide +kernel) rfl⟩
theorem mv4_72 : MV RX4 72 yX4_setGrey := ⟨ug2 171 (by decide +kernel) rfl, ug2 172 (by decide +kernel) rfl, ug2 173 (by decide +kernel) rfl⟩
theorem mv4_76 : MV RX4 76 yX4_fillBox := ⟨ug3 87 (by decide +kernel) rfl, ug3 88 (by decide +kernel) rfl, ug3 89 (by decide +kernel) rfl⟩
theorem mv4_80 : MV RX4 80 yX4_indexOfThreshold := ⟨ug3 99 (by decide +kernel) rfl, ug3 100 (by decide +kernel) rfl, ug3 101 (by decide +kernel) rfl⟩
theorem mv4_84 : MV RX4 84 yX4_putThreshold := ⟨ug3 107 (by decide +kernel) rfl, ug3 109 (by decide +kernel) rfl, ug0 16 (by decide +kernel) rfl⟩
theorem mv4_88 : MV RX4 88 yX4_takeThreshold := ⟨ug3 111 (by decide +kernel) rfl, ug3 113 (by decide +kernel) rfl, ug0 17 (by decide +kernel) rfl⟩
theorem mv4_91 : MV RX4 91 yX4_canChangeThreshold := ⟨ug3 95 (by decide +kernel) rfl, ug3 96 (by decide +kernel) rfl, ug3 97 (by decide +kernel) rfl⟩
theorem mv4_95 : MV RX4 95 yX4_changeThreshold := ⟨ug3 103 (by decide +kernel) rfl, ug3 104 (by decide +kernel) rfl, ug3 105 (by decide +kernel) rfl⟩
theorem mv4_99 : MV RX4 99 yX4_leastAbove := ⟨ug4 146 (by decide +kernel) rfl, ug4 148 (by decide +kernel) rfl, ug0 24 (by decide +kernel) rfl⟩
theorem mv4_102 : MV RX4 102 yX4_cellsBelow := ⟨ug4 150 (by decide +kernel) rfl, ug4 152 (by decide +kernel) rfl, ug0 25 (by decide +kernel) rfl⟩
theorem mv4_105 : MV RX4 105 yX4_blurredGrey := ⟨ug2 163 (by decide +kernel) rfl, ug2 165 (by decide +kernel) rfl, ug0 13 (by decide +kernel) rfl⟩
theorem mv4_109 : MS RX4 109 yX4_spreadOut := ⟨Or.inl (ug3 127 (by decide +kernel) rfl), ug3 128 (by decide +kernel) rfl⟩
theorem mv4_112 : MV RX4 112 yX4_spreadGreys := ⟨ug3 123 (by decide +kernel) rfl, ug3 124 (by decide +kernel) rfl, ug3 125 (by decide +kernel) rfl⟩
theorem mv5_19 : MV RX5 19 yX5_isFull := ⟨ug3 53 (by decide +kernel) rfl, ug3 30 (by decide +kernel) rfl, ug3 31 (by decide +kernel) rfl⟩
theorem mv5_23 : MV RX5 23 yX5_signAt := ⟨ug2 29 (by decide +kernel) rfl, ug2 30 (by decide +kernel) rfl, ug2 31 (by decide +kernel) rfl⟩
theorem mv5_27 : MS RX5 27 yX5_numbersOf := ⟨Or.inl (ug2 33 (by decide +kernel) rfl), ug2 34 (by decide +kernel) rfl⟩
theorem mv5_36 : MV RX5 36 yX5_errorInWord := ⟨ug2 25 (by decide +kernel) rfl, ug2 27 (by decide +kernel) rfl, ug0 0 (by decide +kernel) rfl⟩
theorem mv5_40 : MV RX5 40 yX5_wordEnd := ⟨ug2 36 (by decide +kernel) rfl, ug2 37 (by decide +kernel) rfl, ug2 38 (by decide +kernel) rfl⟩
theorem mv5_43 : MV RX5 43 yX5_isDigitAllowed := ⟨ug2 43 (by decide +kernel) rfl, ug2 45 (by decide +kernel) rfl, ug0 1 (by decide +kernel) rfl⟩
theorem mv5_47 : MS RX5 47 yX6_isWithin := ⟨Or.inr ⟨"BandEngraver", nw2 47 (by decide +kernel) rfl⟩, ug2 48 (by decide +kernel) rfl⟩
theorem mv5_50 : MS RX5 50 yX5_lowestNumber := ⟨Or.inl (ug2 50 (by decide +kernel) rfl), ug2 51 (by decide +kernel) rfl⟩
theorem mv5_53 : MS RX5 53 yX5_highestNumber := ⟨Or.inl (ug2 53 (by decide +kernel) rfl), ug2 54 (by decide +kernel) rfl⟩
theorem mv5_56 : MV RX5 56 yX5_numberAt := ⟨ug2 56 (by decide +kernel) rfl, ug2 57 (by decide +kernel) rfl, ug2 58 (by decide +kernel) rfl⟩
theorem mv6_76 : MS RX6 76 yX6_mustBeWithin := ⟨Or.inl (ug2 197 (by decide +kernel) rfl), ug2 198 (by decide +kernel) rfl⟩
theorem mv6_80 : MV RX6 80 yX5_isFull := ⟨ug3 29 (by decide +kernel) rfl, ug3 30 (by decide +kernel) rfl, ug3 31 (by decide +kernel) rfl⟩
theorem mv6_91 : MV RX6 91 yX5_add := ⟨ug3 49 (by decide +kernel) rfl, ug3 50 (by decide +kernel) rfl, ug3 51 (by decide +kernel) rfl⟩
theorem mv6_95 : MV RX6 95 yX5_empty := ⟨ug2 13 (by decide +kernel) rfl, ug2 14 (by decide +kernel) rfl, ug2 15 (by decide +kernel) rfl⟩
theorem mv6_99 : MV RX6 99 yX5_firstError := ⟨ug2 21 (by decide +kernel) rfl, ug2 22 (by decide +kernel) rfl, ug2 23 (by decide +kernel) rfl⟩
theorem mv6_104 : MV RX6 104 yX1_forgetAll := ⟨ug3 62 (by decide +kernel) rfl, ug3 63 (by decide +kernel) rfl, ug3 64 (by decide +kernel) rfl⟩
theorem mv6_107 : MV RX6 107 yX6_forgetFindings := ⟨ug2 155 (by decide +kernel) rfl, ug2 157 (by decide +kernel) rfl, ug0 12 (by decide +kernel) rfl⟩
theorem mv6_110 : MV RX6 110 yX5_numberAt := ⟨ug3 66 (by decide +kernel) rfl, ug2 57 (by decide +kernel) rfl, ug2 58 (by decide +kernel) rfl⟩
theorem mv6_113 : MV RX6 113 yX4_reset := ⟨ug3 67 (by decide +kernel) rfl, ug1 48 (by decide +kernel) rfl, ug1 49 (by decide +kernel) rfl⟩
theorem mv6_117 : MV RX6 117 yX5_wordEnd := ⟨ug3 68 (by decide +kernel) rfl, ug2 37 (by decide +kernel) rfl, ug2 38 (by decide +kernel) rfl⟩
theorem mv6_124 : MV RX6 124 yX6_obeysWord := ⟨ug3 69 (by decide +kernel) rfl, ug3 71 (by decide +kernel) rfl, ug0 15 (by decide +kernel) rfl⟩
theorem mv6_128 : MV RX6 128 yX5_signAt := ⟨ug3 73 (by decide +kernel) rfl, ug2 30 (by decide +kernel) rfl, ug2 31 (by decide +kernel) rfl⟩
theorem mv6_131 : MV RX6 131 yX4_trySetGrey := ⟨ug3 74 (by decide +kernel) rfl, ug3 75 (by decide +kernel) rfl, ug3 76 (by decide +kernel) rfl⟩
theorem mv6_135 : MV RX6 135 yX4_tryFillBox := ⟨ug3 83 (by decide +kernel) rfl, ug3 84 (by decide +kernel) rfl, ug3 85 (by decide +kernel) rfl⟩
theorem mv6_139 : MV RX6 139 yX4_tryChangeThreshold := ⟨ug3 91 (by decide +kernel) rfl, ug3 92 (by decide +kernel) rfl, ug3 93 (by decide +kernel) rfl⟩
theorem mv6_143 : MV RX6 143 yX4_trySetLeast := ⟨ug3 115 (by decide +kernel) rfl, ug3 116 (by decide +kernel) rfl, ug3 117 (by decide +kernel) rfl⟩
theorem mv6_146 : MV RX6 146 yX4_trySpread := ⟨ug3 119 (by decide +kernel) rfl, ug3 120 (by decide +kernel) rfl, ug3 121 (by decide +kernel) rfl⟩
theorem mv6_149 : MV RX6 149 yX4_blurGreys := ⟨ug2 159 (by decide +kernel) rfl, ug2 160 (by decide +kernel) rfl, ug2 161 (by decide +kernel) rfl⟩
theorem mv6_153 : MV RX6 153 yX4_invertGreys := ⟨ug2 179 (by decide +kernel) rfl, ug2 180 (by decide +kernel) rfl, ug2 181 (by decide +kernel) rfl⟩
theorem mv6_168 : MV RX6 168 yX6_present := ⟨ug2 64 (by decide +kernel) rfl, ug2 66 (by decide +kernel) rfl, ug0 2 (by decide +kernel) rfl⟩
theorem mv6_175 : MV RX6 175 yX0_survey := ⟨ug2 68 (by decide +kernel) rfl, ug2 69 (by decide +kernel) rfl, ug2 70 (by decide +kernel) rfl⟩
theorem mv6_179 : MV RX6 179 yX0_cellsOffTheirGrey := ⟨ug3 137 (by decide +kernel) rfl, ug3 138 (by decide +kernel) rfl, ug3 139 (by decide +kernel) rfl⟩
theorem mv6_183 : MV RX6 183 yX0_allSides := ⟨ug3 141 (by decide +kernel) rfl, ug2 128 (by decide +kernel) rfl, ug2 129 (by decide +kernel) rfl⟩
theorem mv6_186 : MV RX6 186 yX6_presentNest := ⟨ug3 142 (by decide +kernel) rfl, ug3 144 (by decide +kernel) rfl, ug0 18 (by decide +kernel) rfl⟩
theorem mv6_190 : MV RX6 190 yX2_allHoles := ⟨ug3 187 (by decide +kernel) rfl, ug3 188 (by decide +kernel) rfl, ug3 189 (by decide +kernel) rfl⟩
theorem mv6_196 : MV RX6 196 yX4_sumOfGreys := ⟨ug2 184 (by decide +kernel) rfl, ug2 185 (by decide +kernel) rfl, ug2 186 (by decide +kernel) rfl⟩
theorem mv6_199 : MV RX6 199 yX4_hasCell := ⟨ug3 199 (by decide +kernel) rfl, ug3 79 (by decide +kernel) rfl, ug3 80 (by decide +kernel) rfl⟩
theorem mv6_203 : MS RX6 203 yX6_mustExist := ⟨Or.inl (ug3 200 (by decide +kernel) rfl), ug3 201 (by decide +kernel) rfl⟩
theorem mv6_207 : MV RX6 207 yX4_greyAt := ⟨ug3 219 (by decide +kernel) rfl, ug3 220 (by decide +kernel) rfl, ug3 221 (by decide +kernel) rfl⟩
theorem mv6_211 : MV RX6 211 yX4_bandOfGrey := ⟨ug3 223 (by decide +kernel) rfl, ug2 77 (by decide +kernel) rfl, ug2 78 (by decide +kernel) rfl⟩
theorem mv6_214 : MV RX6 214 yX4_cellNumber := ⟨ug3 224 (by decide +kernel) rfl, ug2 168 (by decide +kernel) rfl, ug2 169 (by decide +kernel) rfl⟩
theorem mv6_217 : MV RX6 217 yX0_bandAt := ⟨ug3 225 (by decide +kernel) rfl, ug3 226 (by decide +kernel) rfl, ug3 227 (by decide +kernel) rfl⟩
theorem mv6_220 : MV RX6 220 yX0_islandAt := ⟨ug3 229 (by decide +kernel) rfl, ug3 160 (by decide +kernel) rfl, ug3 161 (by decide +kernel) rfl⟩
theorem mv6_223 : MV RX6 223 yX0_otherSidesAt := ⟨ug3 230 (by decide +kernel) rfl, ug2 132 (by decide +kernel) rfl, ug2 133 (by decide +kernel) rfl⟩
theorem mv6_226 : MV RX6 226 yX4_distanceToOtherBand := ⟨ug3 231 (by decide +kernel) rfl, ug3 232 (by decide +kernel) rfl, ug3 233 (by decide +kernel) rfl⟩
theorem mv6_229 : MV RX6 229 yX4_hasThreshold := ⟨ug4 2 (by decide +kernel) rfl, ug4 3 (by decide +kernel) rfl, ug4 4 (by decide +kernel) rfl⟩
theorem mv6_235 : MV RX6 235 yX0_has := ⟨ug4 13 (by decide +kernel) rfl, ug4 14 (by decide +kernel) rfl, ug4 15 (by decide +kernel) rfl⟩
theorem mv6_238 : MV RX6 238 yX0_firstCell := ⟨ug4 17 (by decide +kernel) rfl, ug4 18 (by decide +kernel) rfl, ug4 19 (by decide +kernel) rfl⟩
theorem mv6_241 : MV RX6 241 yX0_size := ⟨ug4 21 (by decide +kernel) rfl, ug3 152 (by decide +kernel) rfl, ug3 153 (by decide +kernel) rfl⟩
theorem mv6_244 : MV RX6 244 yX0_bandOf := ⟨ug4 22 (by decide +kernel) rfl, ug4 23 (by decide +kernel) rfl, ug4 24 (by decide +kernel) rfl⟩
theorem mv6_247 : MV RX6 247 yX0_sidesToOthers := ⟨ug4 26 (by decide +kernel) rfl, ug4 27 (by decide +kernel) rfl, ug4 28 (by decide +kernel) rfl⟩
theorem mv6_250 : MV RX6 250 yX0_sidesAtEdge := ⟨ug4 30 (by decide +kernel) rfl, ug4 31 (by decide +kernel) rfl, ug4 32 (by decide +kernel) rfl⟩
theorem mv6_253 : MV RX6 253 yX0_neighbourCount := ⟨ug4 34 (by decide +kernel) rfl, ug4 35 (by decide +kernel) rfl, ug4 36 (by decide +kernel) rfl⟩
theorem mv6_265 : MV RX6 265 yX0_commonSides := ⟨ug4 45 (by decide +kernel) rfl, ug4 46 (by decide +kernel) rfl, ug4 47 (by decide +kernel) rfl⟩
theorem mv6_268 : MV RX6 268 yX3_follow := ⟨ug4 56 (by decide +kernel) rfl, ug4 57 (by decide +kernel) rfl, ug4 58 (by decide +kernel) rfl⟩
theorem mv6_287 : MV RX6 287 yX0_cellsOfBand := ⟨ug4 90 (by decide +kernel) rfl, ug4 91 (by decide +kernel) rfl, ug4 92 (by decide +kernel) rfl⟩
theorem mv6_290 : MV RX6 290 yX0_islandsOfBand := ⟨ug4 94 (by decide +kernel) rfl, ug4 95 (by decide +kernel) rfl, ug4 96 (by decide +kernel) rfl⟩
theorem mv6_293 : MV RX6 293 yX0_inkNeeded := ⟨ug2 123 (by decide +kernel) rfl, ug2 124 (by decide +kernel) rfl, ug2 125 (by decide +kernel) rfl⟩
theorem mv6_296 : MV RX6 296 yX6_beginAction := ⟨ug2 139 (by decide +kernel) rfl, ug2 141 (by decide +kernel) rfl, ug0 11 (by decide +kernel) rfl⟩
theorem mv6_299 : MV RX6 299 yX4_takePlate := ⟨ug4 106 (by decide +kernel) rfl, ug1 52 (by decide +kernel) rfl, ug1 53 (by decide +kernel) rfl⟩
theorem mv6_302 : MV RX6 302 yX4_cellCount := ⟨ug4 107 (by decide +kernel) rfl, ug2 73 (by decide +kernel) rfl, ug2 74 (by decide +kernel) rfl⟩
theorem mv6_305 : MV RX6 305 yX4_setGrey := ⟨ug4 115 (by decide +kernel) rfl, ug2 172 (by decide +kernel) rfl, ug2 173 (by decide +kernel) rfl⟩
theorem mv6_314 : MV RX6 314 yX4_fillBox := ⟨ug4 124 (by decide +kernel) rfl, ug3 88 (by decide +kernel) rfl, ug3 89 (by decide +kernel) rfl⟩
theorem mv6_318 : MV RX6 318 yX4_canChangeThreshold := ⟨ug4 132 (by decide +kernel) rfl, ug3 96 (by decide +kernel) rfl, ug3 97 (by decide +kernel) rfl⟩
theorem mv6_323 : MV RX6 323 yX4_changeThreshold := ⟨ug4 134 (by decide +kernel) rfl, ug3 104 (by decide +kernel) rfl, ug3 105 (by decide +kernel) rfl⟩
theorem mv6_327 : MV RX6 327 yX4_shareThresholds := ⟨ug4 142 (by decide +kernel) rfl, ug4 143 (by decide +kernel) rfl, ug4 144 (by decide +kernel) rfl⟩
theorem mv6_330 : MS RX6 330 yX6_isWithin := ⟨Or.inl (ug2 200 (by decide +kernel) rfl), ug2 48 (by decide +kernel) rfl⟩
theorem mv6_333 : MV RX6 333 yX4_spreadGreys := ⟨ug4 182 (by decide +kernel) rfl, ug3 124 (by decide +kernel) rfl, ug3 125 (by decide +kernel) rfl⟩
theorem mv6_336 : MV RX6 336 yX4_addNoise := ⟨ug4 190 (by decide +kernel) rfl, ug4 191 (by decide +kernel) rfl, ug4 192 (by decide +kernel) rfl⟩
theorem mv6_343 : MV RX6 343 yX1_takeBack := ⟨ug4 206 (by decide +kernel) rfl, ug4 207 (by decide +kernel) rfl, ug4 208 (by decide +kernel) rfl⟩
theorem mv6_347 : MV RX6 347 yX1_remember := ⟨ug2 143 (by decide +kernel) rfl, ug2 144 (by decide +kernel) rfl, ug2 145 (by decide +kernel) rfl⟩
theorem mv6_350 : MV RX6 350 yX0_mergeBelow := ⟨ug4 224 (by decide +kernel) rfl, ug2 96 (by decide +kernel) rfl, ug2 97 (by decide +kernel) rfl⟩
theorem mv6_354 : MV RX6 354 yX4_copyFrom := ⟨ug4 232 (by decide +kernel) rfl, ug2 148 (by decide +kernel) rfl, ug2 149 (by decide +kernel) rfl⟩
theorem mv6_357 : MV RX6 357 yX4_hasGrey := ⟨ug4 233 (by decide +kernel) rfl, ug4 234 (by decide +kernel) rfl, ug4 235 (by decide +kernel) rfl⟩
theorem mv6_360 : MV RX6 360 yX4_indexOfThreshold := ⟨ug4 237 (by decide +kernel) rfl, ug3 100 (by decide +kernel) rfl, ug3 101 (by decide +kernel) rfl⟩
theorem mv6_368 : MV RX6 368 yX0_cellsOtherThan := ⟨ug5 6 (by decide +kernel) rfl, ug5 7 (by decide +kernel) rfl, ug5 8 (by decide +kernel) rfl⟩
theorem mv6_378 : MV RX6 378 yX6_obeysGroup := ⟨ug5 20 (by decide +kernel) rfl, ug5 22 (by decide +kernel) rfl, ug0 26 (by decide +kernel) rfl⟩
theorem mv6_383 : MV RX6 383 yX6_holdsGroup := ⟨ug5 26 (by decide +kernel) rfl, ug5 28 (by decide +kernel) rfl, ug0 27 (by decide +kernel) rfl⟩
theorem mv6_390 : MV RX6 390 yX6_takeTurn := ⟨ug5 39 (by decide +kernel) rfl, ug5 41 (by decide +kernel) rfl, ug0 28 (by decide +kernel) rfl⟩
theorem mv6_395 : MV RX6 395 yX2_explore := ⟨ug3 146 (by decide +kernel) rfl, ug3 147 (by decide +kernel) rfl, ug3 148 (by decide +kernel) rfl⟩
theorem mv7_56 : MS RX7 56 yX7_clear := ⟨Or.inl (ug5 64 (by decide +kernel) rfl), ug5 65 (by decide +kernel) rfl⟩
theorem mv7_60 : MS RX7 60 yX7_firstSettings := ⟨Or.inl (ug5 67 (by decide +kernel) rfl), ug5 68 (by decide +kernel) rfl⟩
theorem mv7_68 : MS RX7 68 yX7_in := ⟨Or.inl (ug5 155 (by decide +kernel) rfl), ug5 156 (by decide +kernel) rfl⟩
theorem mv7_74 : MS RX7 74 yX7_cells := ⟨Or.inl (ug5 229 (by decide +kernel) rfl), ug5 230 (by decide +kernel) rfl⟩
theorem mv7_81 : MS RX7 81 yX7_next := ⟨Or.inl (ug5 232 (by decide +kernel) rfl), ug5 233 (by decide +kernel) rfl⟩
theorem mv7_85 : MV RX7 85 yX7_flood := ⟨ug6 40 (by decide +kernel) rfl, ug6 42 (by decide +kernel) rfl, ug0 43 (by decide +kernel) rfl⟩
theorem mv7_89 : MS RX7 89 yX7_bandOf := ⟨Or.inl (ug6 33 (by decide +kernel) rfl), ug6 34 (by decide +kernel) rfl⟩
theorem mv7_93 : MV RX7 93 yX7_mark := ⟨ug6 36 (by decide +kernel) rfl, ug6 38 (by decide +kernel) rfl, ug0 42 (by decide +kernel) rfl⟩
theorem mv7_96 : MV RX7 96 yX7_bandOfIsle := ⟨ug6 56 (by decide +kernel) rfl, ug6 58 (by decide +kernel) rfl, ug0 47 (by decide +kernel) rfl⟩
theorem mv7_100 : MV RX7 100 yX7_markGreys := ⟨ug6 29 (by decide +kernel) rfl, ug6 31 (by decide +kernel) rfl, ug0 41 (by decide +kernel) rfl⟩
theorem mv7_103 : MV RX7 103 yX7_smallest := ⟨ug6 44 (by decide +kernel) rfl, ug6 46 (by decide +kernel) rfl, ug0 44 (by decide +kernel) rfl⟩
theorem mv7_106 : MV RX7 106 yX7_meet := ⟨ug6 48 (by decide +kernel) rfl, ug6 50 (by decide +kernel) rfl, ug0 45 (by decide +kernel) rfl⟩
theorem mv7_109 : MV RX7 109 yX7_isBetter := ⟨ug6 52 (by decide +kernel) rfl, ug6 54 (by decide +kernel) rfl, ug0 46 (by decide +kernel) rfl⟩
theorem mv7_113 : MV RX7 113 yX7_find := ⟨ug6 25 (by decide +kernel) rfl, ug6 27 (by decide +kernel) rfl, ug0 40 (by decide +kernel) rfl⟩
theorem mv7_116 : MV RX7 116 yX7_sidesOf := ⟨ug6 68 (by decide +kernel) rfl, ug6 70 (by decide +kernel) rfl, ug0 50 (by decide +kernel) rfl⟩
theorem mv7_119 : MV RX7 119 yX7_allSides := ⟨ug6 64 (by decide +kernel) rfl, ug6 66 (by decide +kernel) rfl, ug0 49 (by decide +kernel) rfl⟩
theorem mv7_122 : MS RX7 122 yX7_isColumn := ⟨Or.inl (ug5 187 (by decide +kernel) rfl), ug5 188 (by decide +kernel) rfl⟩
theorem mv7_126 : MS RX7 126 yX7_isRow := ⟨Or.inl (ug5 190 (by decide +kernel) rfl), ug5 191 (by decide +kernel) rfl⟩
theorem mv7_129 : MS RX7 129 yX7_at := ⟨Or.inl (ug5 193 (by decide +kernel) rfl), ug5 194 (by decide +kernel) rfl⟩
theorem mv7_132 : MV RX7 132 yX7_noMarks := ⟨ug6 76 (by decide +kernel) rfl, ug6 78 (by decide +kernel) rfl, ug0 52 (by decide +kernel) rfl⟩
theorem mv7_135 : MV RX7 135 yX7_floodHole := ⟨ug6 80 (by decide +kernel) rfl, ug6 82 (by decide +kernel) rfl, ug0 53 (by decide +kernel) rfl⟩
theorem mv7_139 : MV RX7 139 yX7_liesIn := ⟨ug6 117 (by decide +kernel) rfl, ug6 119 (by decide +kernel) rfl, ug0 58 (by decide +kernel) rfl⟩
theorem mv7_154 : MV RX7 154 yX7_isOf := ⟨ug6 138 (by decide +kernel) rfl, ug6 140 (by decide +kernel) rfl, ug0 61 (by decide +kernel) rfl⟩
theorem mv7_158 : MS RX7 158 yX7_cellOn := ⟨Or.inl (ug5 196 (by decide +kernel) rfl), ug5 197 (by decide +kernel) rfl⟩
theorem mv7_161 : MS RX7 161 yX7_placeOf := ⟨Or.inl (ug5 219 (by decide +kernel) rfl), ug5 220 (by decide +kernel) rfl⟩
theorem mv7_164 : MS RX7 164 yX7_isThere := ⟨Or.inl (ug5 216 (by decide +kernel) rfl), ug5 217 (by decide +kernel) rfl⟩
theorem mv7_167 : MS RX7 167 yX7_below := ⟨Or.inl (ug6 194 (by decide +kernel) rfl), ug6 195 (by decide +kernel) rfl⟩
theorem mv7_170 : MS RX7 170 yX7_partOn := ⟨Or.inl (ug5 222 (by decide +kernel) rfl), ug5 223 (by decide +kernel) rfl⟩
theorem mv7_174 : MV RX7 174 yX7_takeOver := ⟨ug5 235 (by decide +kernel) rfl, ug5 237 (by decide +kernel) rfl, ug0 37 (by decide +kernel) rfl⟩
theorem mv7_177 : MS RX7 177 yX7_sum := ⟨Or.inl (ug6 2 (by decide +kernel) rfl), ug6 3 (by decide +kernel) rfl⟩
theorem mv7_184 : MS RX7 184 yX7_held := ⟨Or.inl (ug6 238 (by decide +kernel) rfl), ug6 239 (by decide +kernel) rfl⟩
theorem mv7_192 : MV RX7 192 yX7_refused := ⟨ug5 158 (by decide +kernel) rfl, ug5 160 (by decide +kernel) rfl, ug0 29 (by decide +kernel) rfl⟩
theorem mv7_204 : MV RX7 204 yX7_figures := ⟨ug5 174 (by decide +kernel) rfl, ug5 176 (by decide +kernel) rfl, ug0 31 (by decide +kernel) rfl⟩
theorem mv7_208 : MS RX7 208 yX7_canBox := ⟨Or.inl (ug5 207 (by decide +kernel) rfl), ug5 208 (by decide +kernel) rfl⟩
theorem mv7_212 : MS RX7 212 yX7_boxOn := ⟨Or.inl (ug5 210 (by decide +kernel) rfl), ug5 211 (by decide +kernel) rfl⟩
theorem mv7_216 : MV RX7 216 yX7_done := ⟨ug5 199 (by decide +kernel) rfl, ug5 201 (by decide +kernel) rfl, ug0 34 (by decide +kernel) rfl⟩
theorem mv7_220 : MV RX7 220 yX7_readCell := ⟨ug5 183 (by decide +kernel) rfl, ug5 185 (by decide +kernel) rfl, ug0 33 (by decide +kernel) rfl⟩
theorem mv7_224 : MV RX7 224 yX7_readBox := ⟨ug5 203 (by decide +kernel) rfl, ug5 205 (by decide +kernel) rfl, ug0 35 (by decide +kernel) rfl⟩
theorem mv7_227 : MS RX7 227 yX7_canPart := ⟨Or.inl (ug5 213 (by decide +kernel) rfl), ug5 214 (by decide +kernel) rfl⟩
theorem mv7_231 : MV RX7 231 yX7_blurOn := ⟨ug5 225 (by decide +kernel) rfl, ug5 227 (by decide +kernel) rfl, ug0 36 (by decide +kernel) rfl⟩
theorem mv7_234 : MS RX7 234 yX7_invertOn := ⟨Or.inl (ug5 239 (by decide +kernel) rfl), ug6 0 (by decide +kernel) rfl⟩
theorem mv7_237 : MV RX7 237 yX7_spreadOn := ⟨ug6 5 (by decide +kernel) rfl, ug6 7 (by decide +kernel) rfl, ug0 38 (by decide +kernel) rfl⟩
theorem mv7_240 : MV RX7 240 yX7_readCommand := ⟨ug5 179 (by decide +kernel) rfl, ug5 181 (by decide +kernel) rfl, ug0 32 (by decide +kernel) rfl⟩
theorem mv7_243 : MV RX7 243 yX7_readText := ⟨ug5 170 (by decide +kernel) rfl, ug5 172 (by decide +kernel) rfl, ug0 30 (by decide +kernel) rfl⟩
theorem mv7_246 : MS RX7 246 yX7_copyState := ⟨Or.inl (ug6 13 (by decide +kernel) rfl), ug6 14 (by decide +kernel) rfl⟩
theorem mv7_255 : MV RX7 255 yX7_findAs := ⟨ug6 21 (by decide +kernel) rfl, ug6 23 (by decide +kernel) rfl, ug0 39 (by decide +kernel) rfl⟩
theorem mv7_258 : MV RX7 258 yX7_otherBands := ⟨ug6 60 (by decide +kernel) rfl, ug6 62 (by decide +kernel) rfl, ug0 48 (by decide +kernel) rfl⟩
theorem mv7_261 : MV RX7 261 yX7_holes := ⟨ug6 72 (by decide +kernel) rfl, ug6 74 (by decide +kernel) rfl, ug0 51 (by decide +kernel) rfl⟩
theorem mv7_266 : MS RX7 266 yX7_toOther := ⟨Or.inl (ug6 89 (by decide +kernel) rfl), ug6 90 (by decide +kernel) rfl⟩
theorem mv7_269 : MV RX7 269 yX7_isIsle := ⟨ug6 100 (by decide +kernel) rfl, ug6 102 (by decide +kernel) rfl, ug0 54 (by decide +kernel) rfl⟩
theorem mv7_274 : MV RX7 274 yX7_sidesOfIsle := ⟨ug6 105 (by decide +kernel) rfl, ug6 107 (by decide +kernel) rfl, ug0 55 (by decide +kernel) rfl⟩
theorem mv7_278 : MV RX7 278 yX7_near := ⟨ug6 109 (by decide +kernel) rfl, ug6 111 (by decide +kernel) rfl, ug0 56 (by decide +kernel) rfl⟩
theorem mv7_281 : MV RX7 281 yX7_motherOf := ⟨ug6 113 (by decide +kernel) rfl, ug6 115 (by decide +kernel) rfl, ug0 57 (by decide +kernel) rfl⟩
theorem mv7_284 : MV RX7 284 yX7_inIt := ⟨ug6 121 (by decide +kernel) rfl, ug6 123 (by decide +kernel) rfl, ug0 59 (by decide +kernel) rfl⟩
theorem mv7_289 : MV RX7 289 yX7_walk := ⟨ug6 134 (by decide +kernel) rfl, ug6 136 (by decide +kernel) rfl, ug0 60 (by decide +kernel) rfl⟩
theorem mv7_294 : MV RX7 294 yX7_inkOf := ⟨ug6 155 (by decide +kernel) rfl, ug6 157 (by decide +kernel) rfl, ug0 62 (by decide +kernel) rfl⟩
theorem mv7_299 : MV RX7 299 yX7_remember := ⟨ug6 164 (by decide +kernel) rfl, ug6 166 (by decide +kernel) rfl, ug0 63 (by decide +kernel) rfl⟩
theorem mv7_302 : MS RX7 302 yX7_isGrey := ⟨Or.inl (ug6 172 (by decide +kernel) rfl), ug6 173 (by decide +kernel) rfl⟩
theorem mv7_305 : MS RX7 305 yX7_isPart := ⟨Or.inl (ug6 184 (by decide +kernel) rfl), ug6 185 (by decide +kernel) rfl⟩
theorem mv7_308 : MS RX7 308 yX7_shareOn := ⟨Or.inl (ug6 191 (by decide +kernel) rfl), ug6 192 (by decide +kernel) rfl⟩
theorem mv7_313 : MV RX7 313 yX7_change := ⟨ug6 202 (by decide +kernel) rfl, ug6 204 (by decide +kernel) rfl, ug0 64 (by decide +kernel) rfl⟩
theorem mv7_321 : MV RX7 321 yX7_noiseOn := ⟨ug6 232 (by decide +kernel) rfl, ug6 234 (by decide +kernel) rfl, ug0 65 (by decide +kernel) rfl⟩
theorem mv7_328 : MV RX7 328 yX7_paints := ⟨ug7 33 (by decide +kernel) rfl, ug7 35 (by decide +kernel) rfl, ug0 67 (by decide +kernel) rfl⟩
theorem mv7_331 : MV RX7 331 yX7_boxes := ⟨ug7 37 (by decide +kernel) rfl, ug7 39 (by decide +kernel) rfl, ug0 68 (by decide +kernel) rfl⟩
theorem mv7_335 : MV RX7 335 yX7_parts := ⟨ug7 41 (by decide +kernel) rfl, ug7 43 (by decide +kernel) rfl, ug0 69 (by decide +kernel) rfl⟩
theorem mv7_339 : MV RX7 339 yX7_setsLeast := ⟨ug7 45 (by decide +kernel) rfl, ug7 47 (by decide +kernel) rfl, ug0 70 (by decide +kernel) rfl⟩
theorem mv7_345 : MV RX7 345 yX7_command := ⟨ug7 28 (by decide +kernel) rfl, ug7 30 (by decide +kernel) rfl, ug0 66 (by decide +kernel) rfl⟩
theorem mv7_351 : MV RX7 351 yX7_turn := ⟨ug7 54 (by decide +kernel) rfl, ug7 56 (by decide +kernel) rfl, ug0 71 (by decide +kernel) rfl⟩
theorem mvL_7 : MV RL 7 yX6_append := ⟨ug2 193 (by decide +kernel) rfl, ug2 194 (by decide +kernel) rfl, ug2 195 (by decide +kernel) rfl⟩
theorem mvL_17 : MV RL 17 yX6_load := ⟨ug3 57 (by decide +kernel) rfl, ug3 58 (by decide +kernel) rfl, ug3 59 (by decide +kernel) rfl⟩
theorem mvL_21 : MV RL 21 yX6_about := ⟨ug3 133 (by decide +kernel) rfl, ug3 134 (by decide +kernel) rfl, ug3 135 (by decide +kernel) rfl⟩
theorem mvL_24 : MV RL 24 yX6_cellOf := ⟨ug3 195 (by decide +kernel) rfl, ug3 196 (by decide +kernel) rfl, ug3 197 (by decide +kernel) rfl⟩
theorem mvL_30 : MV RL 30 yX6_thresholdAt := ⟨ug3 238 (by decide +kernel) rfl, ug3 239 (by decide +kernel) rfl, ug4 0 (by decide +kernel) rfl⟩
theorem mvL_33 : MV RL 33 yX6_island := ⟨ug4 9 (by decide +kernel) rfl, ug4 10 (by decide +kernel) rfl, ug4 11 (by decide +kernel) rfl⟩
theorem mvL_37 : MV RL 37 yX6_border := ⟨ug4 41 (by decide +kernel) rfl, ug4 42 (by decide +kernel) rfl, ug4 43 (by decide +kernel) rfl⟩
theorem mvL_40 : MV RL 40 yX6_outline := ⟨ug4 52 (by decide +kernel) rfl, ug4 53 (by decide +kernel) rfl, ug4 54 (by decide +kernel) rfl⟩
theorem mvL_43 : MV RL 43 yX6_outlineWay := ⟨ug4 79 (by decide +kernel) rfl, ug4 80 (by decide +kernel) rfl, ug4 81 (by decide +kernel) rfl⟩
theorem mvL_46 : MV RL 46 yX6_band := ⟨ug4 86 (by decide +kernel) rfl, ug4 87 (by decide +kernel) rfl, ug4 88 (by decide +kernel) rfl⟩
theorem mvL_49 : MV RL 49 yX6_plate := ⟨ug4 102 (by decide +kernel) rfl, ug4 103 (by decide +kernel) rfl, ug4 104 (by decide +kernel) rfl⟩
theorem mvL_52 : MV RL 52 yX6_cell := ⟨ug4 111 (by decide +kernel) rfl, ug4 112 (by decide +kernel) rfl, ug4 113 (by decide +kernel) rfl⟩
theorem mvL_55 : MV RL 55 yX6_box := ⟨ug4 119 (by decide +kernel) rfl, ug4 120 (by decide +kernel) rfl, ug4 121 (by decide +kernel) rfl⟩
theorem mvL_59 : MV RL 59 yX6_threshold := ⟨ug4 128 (by decide +kernel) rfl, ug4 129 (by decide +kernel) rfl, ug4 130 (by decide +kernel) rfl⟩
theorem mvL_63 : MV RL 63 yX6_share := ⟨ug4 138 (by decide +kernel) rfl, ug4 139 (by decide +kernel) rfl, ug4 140 (by decide +kernel) rfl⟩
theorem mvL_66 : MV RL 66 yX6_least := ⟨ug4 157 (by decide +kernel) rfl, ug4 158 (by decide +kernel) rfl, ug4 159 (by decide +kernel) rfl⟩
theorem mvL_69 : MV RL 69 yX6_hatch := ⟨ug4 164 (by decide +kernel) rfl, ug4 165 (by decide +kernel) rfl, ug4 166 (by decide +kernel) rfl⟩
theorem mvL_72 : MV RL 72 yX6_line := ⟨ug4 171 (by decide +kernel) rfl, ug4 172 (by decide +kernel) rfl, ug4 173 (by decide +kernel) rfl⟩
theorem mvL_75 : MV RL 75 yX6_spread := ⟨ug4 178 (by decide +kernel) rfl, ug4 179 (by decide +kernel) rfl, ug4 180 (by decide +kernel) rfl⟩
theorem mvL_78 : MV RL 78 yX6_noise := ⟨ug4 186 (by decide +kernel) rfl, ug4 187 (by decide +kernel) rfl, ug4 188 (by decide +kernel) rfl⟩
theorem mvL_82 : MV RL 82 yX6_undo := ⟨ug4 201 (by decide +kernel) rfl, ug4 202 (by decide +kernel) rfl, ug4 203 (by decide +kernel) rfl⟩
theorem mvL_85 : MV RL 85 yX6_ifLeast := ⟨ug4 213 (by decide +kernel) rfl, ug4 214 (by decide +kernel) rfl, ug4 215 (by decide +kernel) rfl⟩
theorem mvL_88 : MV RL 88 yX6_leastFor := ⟨ug4 220 (by decide +kernel) rfl, ug4 221 (by decide +kernel) rfl, ug4 222 (by decide +kernel) rfl⟩
theorem mvL_91 : MV RL 91 yX6_bestMove := ⟨ug4 228 (by decide +kernel) rfl, ug4 229 (by decide +kernel) rfl, ug4 230 (by decide +kernel) rfl⟩
theorem mvL_94 : MV RL 94 yX6_ifCell := ⟨ug5 2 (by decide +kernel) rfl, ug5 3 (by decide +kernel) rfl, ug5 4 (by decide +kernel) rfl⟩
theorem mvL_98 : MV RL 98 yX6_runScript := ⟨ug5 13 (by decide +kernel) rfl, ug5 14 (by decide +kernel) rfl, ug5 15 (by decide +kernel) rfl⟩
theorem mvL_102 : MV RL 102 yX6_simulate := ⟨ug5 33 (by decide +kernel) rfl, ug5 34 (by decide +kernel) rfl, ug5 35 (by decide +kernel) rfl⟩
theorem mvL_105 : MV RL 105 yX6_save := ⟨ug5 46 (by decide +kernel) rfl, ug5 47 (by decide +kernel) rfl, ug5 48 (by decide +kernel) rfl⟩
theorem mvL_108 : MV RL 108 yX6_restore := ⟨ug5 53 (by decide +kernel) rfl, ug5 54 (by decide +kernel) rfl, ug5 55 (by decide +kernel) rfl⟩
theorem mvL_115 : MS RL 115 yL_append := ⟨Or.inl (ug2 188 (by decide +kernel) rfl), ug2 189 (by decide +kernel) rfl⟩
theorem mvL_120 : MV RL 120 yX7_append := ⟨ug5 150 (by decide +kernel) rfl, ug5 151 (by decide +kernel) rfl, ug5 152 (by decide +kernel) rfl⟩
theorem mvL_121 : MV RL 121 yX7_thrown := ⟨ug5 146 (by decide +kernel) rfl, ug5 147 (by decide +kernel) rfl, ug5 148 (by decide +kernel) rfl⟩
theorem mvL_124 : MV RL 124 yX6_clearText := ⟨ug2 9 (by decide +kernel) rfl, ug2 10 (by decide +kernel) rfl, ug2 11 (by decide +kernel) rfl⟩
theorem mvL_127 : MV RL 127 yX7_clearText := ⟨ug5 162 (by decide +kernel) rfl, ug5 163 (by decide +kernel) rfl, ug5 164 (by decide +kernel) rfl⟩
theorem mvL_128 : MV RL 128 yX6_errorPosition := ⟨ug2 17 (by decide +kernel) rfl, ug2 18 (by decide +kernel) rfl, ug2 19 (by decide +kernel) rfl⟩
theorem mvL_131 : MV RL 131 yX7_errorPosition := ⟨ug5 166 (by decide +kernel) rfl, ug5 167 (by decide +kernel) rfl, ug5 168 (by decide +kernel) rfl⟩
theorem mvL_132 : MS RL 132 yL_load := ⟨Or.inl (ug3 54 (by decide +kernel) rfl), ug3 55 (by decide +kernel) rfl⟩
theorem mvL_135 : MV RL 135 yX7_load := ⟨ug6 9 (by decide +kernel) rfl, ug6 10 (by decide +kernel) rfl, ug6 11 (by decide +kernel) rfl⟩
theorem mvL_136 : MS RL 136 yL_about := ⟨Or.inl (ug3 130 (by decide +kernel) rfl), ug3 131 (by decide +kernel) rfl⟩
theorem mvL_138 : MV RL 138 yX7_about := ⟨ug6 16 (by decide +kernel) rfl, ug6 17 (by decide +kernel) rfl, ug6 18 (by decide +kernel) rfl⟩
theorem mvL_139 : MS RL 139 yL_cellOf := ⟨Or.inl (ug3 191 (by decide +kernel) rfl), ug3 192 (by decide +kernel) rfl⟩
theorem mvL_142 : MV RL 142 yX7_cellOf := ⟨ug6 84 (by decide +kernel) rfl, ug6 85 (by decide +kernel) rfl, ug6 86 (by decide +kernel) rfl⟩
theorem mvL_143 : MS RL 143 yL_thresholdAt := ⟨Or.inl (ug3 235 (by decide +kernel) rfl), ug3 236 (by decide +kernel) rfl⟩
theorem mvL_145 : MV RL 145 yX7_thresholdAt := ⟨ug6 92 (by decide +kernel) rfl, ug6 93 (by decide +kernel) rfl, ug6 94 (by decide +kernel) rfl⟩
theorem mvL_146 : MS RL 146 yL_island := ⟨Or.inl (ug4 6 (by decide +kernel) rfl), ug4 7 (by decide +kernel) rfl⟩
theorem mvL_149 : MV RL 149 yX7_island := ⟨ug6 96 (by decide +kernel) rfl, ug6 97 (by decide +kernel) rfl, ug6 98 (by decide +kernel) rfl⟩
theorem mvL_150 : MS RL 150 yL_border := ⟨Or.inl (ug4 38 (by decide +kernel) rfl), ug4 39 (by decide +kernel) rfl⟩
theorem mvL_152 : MV RL 152 yX7_border := ⟨ug6 125 (by decide +kernel) rfl, ug6 126 (by decide +kernel) rfl, ug6 127 (by decide +kernel) rfl⟩
theorem mvL_153 : MS RL 153 yL_outline := ⟨Or.inl (ug4 49 (by decide +kernel) rfl), ug4 50 (by decide +kernel) rfl⟩
theorem mvL_155 : MV RL 155 yX7_outline := ⟨ug6 129 (by decide +kernel) rfl, ug6 130 (by decide +kernel) rfl, ug6 131 (by decide +kernel) rfl⟩
theorem mvL_156 : MS RL 156 yL_outlineWay := ⟨Or.inl (ug4 76 (by decide +kernel) rfl), ug4 77 (by decide +kernel) rfl⟩
theorem mvL_158 : MV RL 158 yX7_outlineWay := ⟨ug6 142 (by decide +kernel) rfl, ug6 143 (by decide +kernel) rfl, ug6 144 (by decide +kernel) rfl⟩
theorem mvL_159 : MS RL 159 yL_band := ⟨Or.inl (ug4 83 (by decide +kernel) rfl), ug4 84 (by decide +kernel) rfl⟩
theorem mvL_161 : MV RL 161 yX7_band := ⟨ug6 146 (by decide +kernel) rfl, ug6 147 (by decide +kernel) rfl, ug6 148 (by decide +kernel) rfl⟩
theorem mvL_162 : MV RL 162 yX6_ink := ⟨ug2 60 (by decide +kernel) rfl, ug2 61 (by decide +kernel) rfl, ug2 62 (by decide +kernel) rfl⟩
theorem mvL_165 : MV RL 165 yX7_ink := ⟨ug6 151 (by decide +kernel) rfl, ug6 152 (by decide +kernel) rfl, ug6 153 (by decide +kernel) rfl⟩
theorem mvL_166 : MS RL 166 yL_plate := ⟨Or.inl (ug4 99 (by decide +kernel) rfl), ug4 100 (by decide +kernel) rfl⟩
theorem mvL_168 : MV RL 168 yX7_plate := ⟨ug6 159 (by decide +kernel) rfl, ug6 160 (by decide +kernel) rfl, ug6 161 (by decide +kernel) rfl⟩
theorem mvL_169 : MS RL 169 yL_cell := ⟨Or.inl (ug4 108 (by decide +kernel) rfl), ug4 109 (by decide +kernel) rfl⟩
theorem mvL_171 : MV RL 171 yX7_cell := ⟨ug6 168 (by decide +kernel) rfl, ug6 169 (by decide +kernel) rfl, ug6 170 (by decide +kernel) rfl⟩
theorem mvL_172 : MS RL 172 yL_box := ⟨Or.inl (ug4 116 (by decide +kernel) rfl), ug4 117 (by decide +kernel) rfl⟩
theorem mvL_175 : MV RL 175 yX7_box := ⟨ug6 176 (by decide +kernel) rfl, ug6 177 (by decide +kernel) rfl, ug6 178 (by decide +kernel) rfl⟩
theorem mvL_176 : MS RL 176 yL_threshold := ⟨Or.inl (ug4 125 (by decide +kernel) rfl), ug4 126 (by decide +kernel) rfl⟩
theorem mvL_179 : MV RL 179 yX7_threshold := ⟨ug6 180 (by decide +kernel) rfl, ug6 181 (by decide +kernel) rfl, ug6 182 (by decide +kernel) rfl⟩
theorem mvL_180 : MS RL 180 yL_share := ⟨Or.inl (ug4 135 (by decide +kernel) rfl), ug4 136 (by decide +kernel) rfl⟩
theorem mvL_182 : MV RL 182 yX7_share := ⟨ug6 187 (by decide +kernel) rfl, ug6 188 (by decide +kernel) rfl, ug6 189 (by decide +kernel) rfl⟩
theorem mvL_183 : MS RL 183 yL_least := ⟨Or.inl (ug4 154 (by decide +kernel) rfl), ug4 155 (by decide +kernel) rfl⟩
theorem mvL_185 : MV RL 185 yX7_least := ⟨ug6 197 (by decide +kernel) rfl, ug6 198 (by decide +kernel) rfl, ug6 199 (by decide +kernel) rfl⟩
theorem mvL_186 : MS RL 186 yL_hatch := ⟨Or.inl (ug4 161 (by decide +kernel) rfl), ug4 162 (by decide +kernel) rfl⟩
theorem mvL_188 : MV RL 188 yX7_hatch := ⟨ug6 206 (by decide +kernel) rfl, ug6 207 (by decide +kernel) rfl, ug6 208 (by decide +kernel) rfl⟩
theorem mvL_189 : MS RL 189 yL_line := ⟨Or.inl (ug4 168 (by decide +kernel) rfl), ug4 169 (by decide +kernel) rfl⟩
theorem mvL_191 : MV RL 191 yX7_line := ⟨ug6 210 (by decide +kernel) rfl, ug6 211 (by decide +kernel) rfl, ug6 212 (by decide +kernel) rfl⟩
theorem mvL_192 : MV RL 192 yX6_blur := ⟨ug2 135 (by decide +kernel) rfl, ug2 136 (by decide +kernel) rfl, ug2 137 (by decide +kernel) rfl⟩
theorem mvL_195 : MV RL 195 yX7_blur := ⟨ug6 214 (by decide +kernel) rfl, ug6 215 (by decide +kernel) rfl, ug6 216 (by decide +kernel) rfl⟩
theorem mvL_196 : MV RL 196 yX6_invert := ⟨ug2 175 (by decide +kernel) rfl, ug2 176 (by decide +kernel) rfl, ug2 177 (by decide +kernel) rfl⟩
theorem mvL_199 : MV RL 199 yX7_invert := ⟨ug6 218 (by decide +kernel) rfl, ug6 219 (by decide +kernel) rfl, ug6 220 (by decide +kernel) rfl⟩
theorem mvL_200 : MS RL 200 yL_spread := ⟨Or.inl (ug4 175 (by decide +kernel) rfl), ug4 176 (by decide +kernel) rfl⟩
theorem mvL_202 : MV RL 202 yX7_spread := ⟨ug6 222 (by decide +kernel) rfl, ug6 223 (by decide +kernel) rfl, ug6 224 (by decide +kernel) rfl⟩
theorem mvL_205 : MS RL 205 yL_noise := ⟨Or.inl (ug4 183 (by decide +kernel) rfl), ug4 184 (by decide +kernel) rfl⟩
theorem mvL_208 : MV RL 208 yX7_noise := ⟨ug6 227 (by decide +kernel) rfl, ug6 228 (by decide +kernel) rfl, ug6 229 (by decide +kernel) rfl⟩
theorem mvL_209 : MS RL 209 yL_undo := ⟨Or.inl (ug4 198 (by decide +kernel) rfl), ug4 199 (by decide +kernel) rfl⟩
theorem mvL_211 : MV RL 211 yX7_undo := ⟨ug7 1 (by decide +kernel) rfl, ug7 2 (by decide +kernel) rfl, ug7 3 (by decide +kernel) rfl⟩
theorem mvL_212 : MS RL 212 yL_ifLeast := ⟨Or.inl (ug4 210 (by decide +kernel) rfl), ug4 211 (by decide +kernel) rfl⟩
theorem mvL_214 : MV RL 214 yX7_ifLeast := ⟨ug7 5 (by decide +kernel) rfl, ug7 6 (by decide +kernel) rfl, ug7 7 (by decide +kernel) rfl⟩
theorem mvL_215 : MS RL 215 yL_leastFor := ⟨Or.inl (ug4 217 (by decide +kernel) rfl), ug4 218 (by decide +kernel) rfl⟩
theorem mvL_217 : MV RL 217 yX7_leastFor := ⟨ug7 9 (by decide +kernel) rfl, ug7 10 (by decide +kernel) rfl, ug7 11 (by decide +kernel) rfl⟩
theorem mvL_218 : MS RL 218 yL_bestMove := ⟨Or.inl (ug4 225 (by decide +kernel) rfl), ug4 226 (by decide +kernel) rfl⟩
theorem mvL_220 : MV RL 220 yX7_bestMove := ⟨ug7 14 (by decide +kernel) rfl, ug7 15 (by decide +kernel) rfl, ug7 16 (by decide +kernel) rfl⟩
theorem mvL_221 : MS RL 221 yL_ifCell := ⟨Or.inl (ug4 239 (by decide +kernel) rfl), ug5 0 (by decide +kernel) rfl⟩
theorem mvL_224 : MV RL 224 yX7_ifCell := ⟨ug7 18 (by decide +kernel) rfl, ug7 19 (by decide +kernel) rfl, ug7 20 (by decide +kernel) rfl⟩
theorem mvL_225 : MS RL 225 yL_runScript := ⟨Or.inl (ug5 10 (by decide +kernel) rfl), ug5 11 (by decide +kernel) rfl⟩
theorem mvL_228 : MV RL 228 yX7_runScript := ⟨ug7 22 (by decide +kernel) rfl, ug7 23 (by decide +kernel) rfl, ug7 24 (by decide +kernel) rfl⟩
theorem mvL_229 : MS RL 229 yL_simulate := ⟨Or.inl (ug5 30 (by decide +kernel) rfl), ug5 31 (by decide +kernel) rfl⟩
theorem mvL_231 : MV RL 231 yX7_simulate := ⟨ug7 49 (by decide +kernel) rfl, ug7 50 (by decide +kernel) rfl, ug7 51 (by decide +kernel) rfl⟩
theorem mvL_232 : MS RL 232 yL_save := ⟨Or.inl (ug5 43 (by decide +kernel) rfl), ug5 44 (by decide +kernel) rfl⟩
theorem mvL_234 : MV RL 234 yX7_save := ⟨ug7 58 (by decide +kernel) rfl, ug7 59 (by decide +kernel) rfl, ug7 60 (by decide +kernel) rfl⟩
theorem mvL_235 : MS RL 235 yL_restore := ⟨Or.inl (ug5 50 (by decide +kernel) rfl), ug5 51 (by decide +kernel) rfl⟩
theorem mvL_237 : MV RL 237 yX7_restore := ⟨ug7 62 (by decide +kernel) rfl, ug7 63 (by decide +kernel) rfl, ug7 64 (by decide +kernel) rfl⟩
def rmX0_init : Room := { frames := 2, cells := 0, slots := 0, locals := 60 }
def rmX0_survey : Room := { frames := 5, cells := 0, slots := 0, locals := 134 }
def rmX0_mergeBelow : Room := { frames := 4, cells := 0, slots := 0, locals := 108 }
def rmX0_smallestBelow : Room := { frames := 0, cells := 0, slots := 0, locals := 0 }
def rmX0_takerOf : Room := { frames := 3, cells := 0, slots := 0, locals := 85 }
def rmX0_isBetterTaker : Room := { frames := 2, cells := 0, slots := 0, locals := 60 }
def rmX0_measureBorders : Room := { frames := 1, cells := 0, slots := 0, locals := 23 }
def rmX0_gather : Room := { frames := 2, cells := 0, slots := 0, locals := 60 }
def rmX0_enqueue : Room := { frames := 0, cells := 0, slots := 0, locals := 0 }
def rmX0_giveNumbers : Room := { frames := 0, cells := 0, slots := 0, locals := 0 }
def rmX0_neighbour : Room := { frames := 0, cells := 0, slots := 0, locals := 0 }
def rmX0_isOnPlate : Room := { frames := 0, cells := 0, slots := 0, locals := 0 }
def rmX0_isAtEdge : Room := { frames := 0, cells := 0, slots := 0, locals := 0 }
def rmX0_has : Room := { frames := 0, cells := 0, slots := 0, locals := 0 }
def rmX0_islandAt : Room := { frames := 0, cells := 0, slots := 0, locals := 0 }
def rmX0_isFirstCell : Room := { frames := 0, cells := 0, slots := 0, locals := 0 }
def rmX0_bandAt : Room := { frames := 0, cells := 0, slots := 0, locals := 0 }
def rmX0_firstCell : Room := { frames := 0, cells := 0, slots := 0, locals := 0 }
def rmX0_size : Room := { frames := 0, cells := 0, slots := 0, locals := 0 }
def rmX0_bandOf : Room := { frames := 0, cells := 0, slots := 0, locals := 0 }
def rmX0_otherSidesAt : Room := { frames := 1, cells := 0, slots := 0, locals := 22 }
def rmX0_sidesToOthers : Room := { frames := 2, cells := 0, slots := 0, locals := 47 }
def rmX0_neighbourCount : Room := { frames := 2, cells := 0, slots := 0, locals := 47 }
def rmX0_commonSides : Room := { frames := 2, cells := 0, slots := 0, locals := 47 }
def rmX0_sidesAtEdge : Room := { frames := 1, cells := 0, slots := 0, locals := 22 }
def rmX0_allSides : Room := { frames := 2, cells := 0, slots := 0, locals := 46 }
def rmX0_cellsOffTheirGrey : Room := { frames := 1, cells := 0, slots := 0, locals := 23 }
def rmX0_cellsOtherThan : Room := { frames := 0, cells := 0, slots := 0, locals := 0 }
def rmX0_cellsOfBand : Room := { frames := 0, cells := 0, slots := 0, locals := 0 }
def rmX0_islandsOfBand : Room := { frames := 1, cells := 0, slots := 0, locals := 21 }
def rmX0_inkNeeded : Room := { frames := 3, cells := 0, slots := 0, locals := 68 }
def rmX1_init : Room := { frames := 4, cells := 0, slots := 0, locals := 88 }
def rmX1_remember : Room := { frames := 3, cells := 0, slots := 0, locals := 81 }
def rmX1_takeBack : Room := { frames := 3, cells := 0, slots := 0, locals := 81 }
def rmX1_forgetAll : Room := { frames := 0, cells := 0, slots := 0, locals := 0 }
def rmX2_init : Room := { frames := 2, cells := 0, slots := 0, locals := 60 }
def rmX2_explore : Room := { frames := 3, cells := 0, slots := 0, locals := 76 }
def rmX2_allHoles : Room := { frames := 0, cells := 0, slots := 0, locals := 0 }
def rmX2_findHoles : Room := { frames := 2, cells := 0, slots := 0, locals := 52 }
def rmX2_gatherAround : Room := { frames := 1, cells := 0, slots := 0, locals := 22 }
def rmX2_reachesEdge : Room := { frames := 1, cells := 0, slots := 0, locals := 23 }
def rmX2_takeHole : Room := { frames := 1, cells := 0, slots := 0, locals := 21 }
def rmX3_init : Room := { frames := 2, cells := 0, slots := 0, locals := 60 }
def rmX3_follow : Room := { frames := 3, cells := 0, slots := 0, locals := 74 }
def rmX3_turned : Room := { frames := 2, cells := 0, slots := 0, locals := 48 }
def rmX3_isOfIsland : Room := { frames := 1, cells := 0, slots := 0, locals := 22 }
def rmX3_eastOf : Room := { frames := 0, cells := 0, slots := 0, locals := 0 }
def rmX3_southOf : Room := { frames := 0, cells := 0, slots := 0, locals := 0 }
def rmX4_init : Room := { frames := 3, cells := 0, slots := 0, locals := 68 }
def rmX4_reset : Room := { frames := 2, cells := 0, slots := 0, locals := 45 }
def rmX4_takePlate : Room := { frames := 1, cells := 0, slots := 0, locals := 23 }
def rmX4_copyFrom : Room := { frames := 2, cells := 0, slots := 0, locals := 60 }
def rmX4_cellCount : Room := { frames := 0, cells := 0, slots := 0, locals := 0 }
def rmX4_hasCell : Room := { frames := 0, cells := 0, slots := 0, locals := 0 }
def rmX4_cellNumber : Room := { frames := 0, cells := 0, slots := 0, locals := 0 }
def rmX4_greyAt : Room := { frames := 0, cells := 0, slots := 0, locals := 0 }
def rmX4_hasGrey : Room := { frames := 1, cells := 0, slots := 0, locals := 20 }
def rmX4_sumOfGreys : Room := { frames := 1, cells := 0, slots := 0, locals := 20 }
def rmX4_setGrey : Room := { frames := 1, cells := 0, slots := 0, locals := 22 }
def rmX4_trySetGrey : Room := { frames := 2, cells := 0, slots := 0, locals := 47 }
def rmX4_fillBox : Room := { frames := 2, cells := 0, slots := 0, locals := 47 }
def rmX4_tryFillBox : Room := { frames := 3, cells := 0, slots := 0, locals := 75 }
def rmX4_hasThreshold : Room := { frames := 0, cells := 0, slots := 0, locals := 0 }
def rmX4_indexOfThreshold : Room := { frames := 0, cells := 0, slots := 0, locals := 0 }
def rmX4_canChangeThreshold : Room := { frames := 1, cells := 0, slots := 0, locals := 22 }
def rmX4_changeThreshold : Room := { frames := 1, cells := 0, slots := 0, locals := 23 }
def rmX4_tryChangeThreshold : Room := { frames := 2, cells := 0, slots := 0, locals := 45 }
def rmX4_putThreshold : Room := { frames := 0, cells := 0, slots := 0, locals := 0 }
def rmX4_takeThreshold : Room := { frames := 0, cells := 0, slots := 0, locals := 0 }
def rmX4_shareThresholds : Room := { frames := 3, cells := 0, slots := 0, locals := 66 }
def rmX4_leastAbove : Room := { frames := 2, cells := 0, slots := 0, locals := 44 }
def rmX4_cellsBelow : Room := { frames := 1, cells := 0, slots := 0, locals := 20 }
def rmX4_bandOfGrey : Room := { frames := 0, cells := 0, slots := 0, locals := 0 }
def rmX4_distanceToOtherBand : Room := { frames := 0, cells := 0, slots := 0, locals := 0 }
def rmX4_trySetLeast : Room := { frames := 1, cells := 0, slots := 0, locals := 22 }
def rmX4_blurGreys : Room := { frames := 2, cells := 0, slots := 0, locals := 60 }
def rmX4_blurredGrey : Room := { frames := 1, cells := 0, slots := 0, locals := 22 }
def rmX4_invertGreys : Room := { frames := 1, cells := 0, slots := 0, locals := 20 }
def rmX4_spreadGreys : Room := { frames := 1, cells := 0, slots := 0, locals := 21 }
def rmX4_spreadOut : Room := { frames := 0, cells := 0, slots := 0, locals := 0 }
def rmX4_trySpread : Room := { frames := 2, cells := 0, slots := 0, locals := 46 }
def rmX4_addNoise : Room := { frames := 2, cells := 0, slots := 0, locals := 60 }
def rmX5_init : Room := { frames := 2, cells := 0, slots := 0, locals := 60 }
def rmX5_isFull : Room := { frames := 0, cells := 0, slots := 0, locals := 0 }
def rmX5_add : Room := { frames := 1, cells := 0, slots := 0, locals := 20 }
def rmX5_empty : Room := { frames := 0, cells := 0, slots := 0, locals := 0 }
def rmX5_signAt : Room := { frames := 0, cells := 0, slots := 0, locals := 0 }
def rmX5_numberAt : Room := { frames := 1, cells := 0, slots := 0, locals := 21 }
def rmX5_wordEnd : Room := { frames := 2, cells := 0, slots := 0, locals := 60 }
def rmX5_firstError : Room := { frames := 4, cells := 0, slots := 0, locals := 106 }
def rmX5_errorInWord : Room := { frames := 3, cells := 0, slots := 0, locals := 81 }
def rmX5_isDigitAllowed : Room := { frames := 2, cells := 0, slots := 0, locals := 42 }
def rmX5_numbersOf : Room := { frames := 0, cells := 0, slots := 0, locals := 0 }
def rmX5_lowestNumber : Room := { frames := 0, cells := 0, slots := 0, locals := 0 }
def rmX5_highestNumber : Room := { frames := 0, cells := 0, slots := 0, locals := 0 }
def rmX6_init : Room := { frames := 5, cells := 0, slots := 0, locals := 109 }
def rmX6_append : Room := { frames := 7, cells := 0, slots := 0, locals := 122 }
def rmX6_clearText : Room := { frames := 1, cells := 0, slots := 0, locals := 21 }
def rmX6_errorPosition : Room := { frames := 5, cells := 0, slots := 0, locals := 129 }
def rmX6_load : Room := { frames := 6, cells := 0, slots := 0, locals := 129 }
def rmX6_obeysWord : Room := { frames := 4, cells := 0, slots := 0, locals := 100 }
def rmX6_about : Room := { frames := 8, cells := 0, slots := 0, locals := 198 }
def rmX6_cellOf : Room := { frames := 7, cells := 0, slots := 0, locals := 177 }
def rmX6_thresholdAt : Room := { frames := 7, cells := 0, slots := 0, locals := 120 }
def rmX6_island : Room := { frames := 8, cells := 0, slots := 0, locals := 198 }
def rmX6_border : Room := { frames := 7, cells := 0, slots := 0, locals := 177 }
def rmX6_outline : Room := { frames := 7, cells := 0, slots := 0, locals := 177 }
def rmX6_outlineWay : Room := { frames := 7, cells := 0, slots := 0, locals := 177 }
def rmX6_band : Room := { frames := 7, cells := 0, slots := 0, locals := 177 }
def rmX6_ink : Room := { frames := 7, cells := 0, slots := 0, locals := 177 }
def rmX6_plate : Room := { frames := 7, cells := 0, slots := 0, locals := 122 }
def rmX6_cell : Room := { frames := 7, cells := 0, slots := 0, locals := 122 }
def rmX6_box : Room := { frames := 7, cells := 0, slots := 0, locals := 122 }
def rmX6_threshold : Room := { frames := 7, cells := 0, slots := 0, locals := 122 }
def rmX6_share : Room := { frames := 7, cells := 0, slots := 0, locals := 122 }
def rmX6_least : Room := { frames := 7, cells := 0, slots := 0, locals := 122 }
def rmX6_hatch : Room := { frames := 7, cells := 0, slots := 0, locals := 122 }
def rmX6_line : Room := { frames := 7, cells := 0, slots := 0, locals := 122 }
def rmX6_blur : Room := { frames := 5, cells := 0, slots := 0, locals := 122 }
def rmX6_invert : Room := { frames := 5, cells := 0, slots := 0, locals := 122 }
def rmX6_spread : Room := { frames := 7, cells := 0, slots := 0, locals := 122 }
def rmX6_noise : Room := { frames := 7, cells := 0, slots := 0, locals := 122 }
def rmX6_undo : Room := { frames := 6, cells := 0, slots := 0, locals := 102 }
def rmX6_beginAction : Room := { frames := 4, cells := 0, slots := 0, locals := 102 }
def rmX6_ifLeast : Room := { frames := 7, cells := 0, slots := 0, locals := 157 }
def rmX6_leastFor : Room := { frames := 7, cells := 0, slots := 0, locals := 157 }
def rmX6_bestMove : Room := { frames := 7, cells := 0, slots := 0, locals := 157 }
def rmX6_ifCell : Room := { frames := 7, cells := 0, slots := 0, locals := 177 }
def rmX6_runScript : Room := { frames := 7, cells := 0, slots := 0, locals := 183 }
def rmX6_obeysGroup : Room := { frames := 6, cells := 0, slots := 0, locals := 157 }
def rmX6_holdsGroup : Room := { frames := 1, cells := 0, slots := 0, locals := 22 }
def rmX6_simulate : Room := { frames := 7, cells := 0, slots := 0, locals := 157 }
def rmX6_takeTurn : Room := { frames := 4, cells := 0, slots := 0, locals := 100 }
def rmX6_save : Room := { frames := 7, cells := 0, slots := 0, locals := 120 }
def rmX6_restore : Room := { frames := 7, cells := 0, slots := 0, locals := 120 }
def rmX6_present : Room := { frames := 6, cells := 0, slots := 0, locals := 157 }
def rmX6_presentNest : Room := { frames := 7, cells := 0, slots := 0, locals := 177 }
def rmX6_forgetFindings : Room := { frames := 0, cells := 0, slots := 0, locals := 0 }
def rmX6_isWithin : Room := { frames := 0, cells := 0, slots := 0, locals := 0 }
def rmX6_mustBeWithin : Room := { frames := 6, cells := 0, slots := 0, locals := 100 }
def rmX6_mustExist : Room := { frames := 6, cells := 0, slots := 0, locals := 100 }
def rmX7_init : Room := { frames := 2, cells := 0, slots := 0, locals := 60 }
def rmX7_thrown : Room := { frames := 0, cells := 0, slots := 0, locals := 0 }
def rmX7_refused : Room := { frames := 0, cells := 0, slots := 0, locals := 0 }
def rmX7_in : Room := { frames := 0, cells := 0, slots := 0, locals := 0 }
def rmX7_copyState : Room := { frames := 0, cells := 0, slots := 0, locals := 0 }
def rmX7_clear : Room := { frames := 0, cells := 0, slots := 0, locals := 0 }
def rmX7_firstSettings : Room := { frames := 0, cells := 0, slots := 0, locals := 0 }
def rmX7_cells : Room := { frames := 0, cells := 0, slots := 0, locals := 0 }
def rmX7_isColumn : Room := { frames := 1, cells := 0, slots := 0, locals := 25 }
def rmX7_isRow : Room := { frames := 1, cells := 0, slots := 0, locals := 25 }
def rmX7_isGrey : Room := { frames := 1, cells := 0, slots := 0, locals := 25 }
def rmX7_isPart : Room := { frames := 1, cells := 0, slots := 0, locals := 25 }
def rmX7_at : Room := { frames := 0, cells := 0, slots := 0, locals := 0 }
def rmX7_sum : Room := { frames := 1, cells := 0, slots := 0, locals := 20 }
def rmX7_bandOf : Room := { frames := 0, cells := 0, slots := 0, locals := 0 }
def rmX7_next : Room := { frames := 0, cells := 0, slots := 0, locals := 0 }
def rmX7_flood : Room := { frames := 1, cells := 0, slots := 0, locals := 24 }
def rmX7_mark : Room := { frames := 2, cells := 0, slots := 0, locals := 51 }
def rmX7_markGreys : Room := { frames := 3, cells := 0, slots := 0, locals := 73 }
def rmX7_meet : Room := { frames := 1, cells := 0, slots := 0, locals := 24 }
def rmX7_bandOfIsle : Room := { frames := 0, cells := 0, slots := 0, locals := 0 }
def rmX7_isBetter : Room := { frames := 1, cells := 0, slots := 0, locals := 21 }
def rmX7_smallest : Room := { frames := 0, cells := 0, slots := 0, locals := 0 }
def rmX7_find : Room := { frames := 4, cells := 0, slots := 0, locals := 95 }
def rmX7_findAs : Room := { frames := 5, cells := 0, slots := 0, locals := 121 }
def rmX7_otherBands : Room := { frames := 1, cells := 0, slots := 0, locals := 22 }
def rmX7_sidesOf : Room := { frames := 1, cells := 0, slots := 0, locals := 24 }
def rmX7_allSides : Room := { frames := 2, cells := 0, slots := 0, locals := 49 }
def rmX7_inkOf : Room := { frames := 3, cells := 0, slots := 0, locals := 72 }
def rmX7_floodHole : Room := { frames := 2, cells := 0, slots := 0, locals := 46 }
def rmX7_noMarks : Room := { frames := 0, cells := 0, slots := 0, locals := 0 }
def rmX7_holes : Room := { frames := 3, cells := 0, slots := 0, locals := 77 }
def rmX7_liesIn : Room := { frames := 3, cells := 0, slots := 0, locals := 77 }
def rmX7_motherOf : Room := { frames := 4, cells := 0, slots := 0, locals := 100 }
def rmX7_inIt : Room := { frames := 4, cells := 0, slots := 0, locals := 100 }
def rmX7_isOf : Room := { frames := 2, cells := 0, slots := 0, locals := 46 }
def rmX7_walk : Room := { frames := 3, cells := 0, slots := 0, locals := 70 }
def rmX7_cellOn : Room := { frames := 0, cells := 0, slots := 0, locals := 0 }
def rmX7_canBox : Room := { frames := 2, cells := 0, slots := 0, locals := 46 }
def rmX7_boxOn : Room := { frames := 1, cells := 0, slots := 0, locals := 23 }
def rmX7_placeOf : Room := { frames := 0, cells := 0, slots := 0, locals := 0 }
def rmX7_isThere : Room := { frames := 1, cells := 0, slots := 0, locals := 22 }
def rmX7_canPart : Room := { frames := 2, cells := 0, slots := 0, locals := 44 }
def rmX7_partOn : Room := { frames := 1, cells := 0, slots := 0, locals := 22 }
def rmX7_below : Room := { frames := 1, cells := 0, slots := 0, locals := 20 }
def rmX7_shareOn : Room := { frames := 2, cells := 0, slots := 0, locals := 46 }
def rmX7_takeOver : Room := { frames := 1, cells := 0, slots := 0, locals := 23 }
def rmX7_blurOn : Room := { frames := 2, cells := 0, slots := 0, locals := 46 }
def rmX7_invertOn : Room := { frames := 2, cells := 0, slots := 0, locals := 42 }
def rmX7_held : Room := { frames := 0, cells := 0, slots := 0, locals := 0 }
def rmX7_spreadOn : Room := { frames := 2, cells := 0, slots := 0, locals := 46 }
def rmX7_noiseOn : Room := { frames := 2, cells := 0, slots := 0, locals := 46 }
def rmX7_append : Room := { frames := 1, cells := 0, slots := 0, locals := 25 }
def rmX7_clearText : Room := { frames := 0, cells := 0, slots := 0, locals := 0 }
def rmX7_figures : Room := { frames := 1, cells := 0, slots := 0, locals := 25 }
def rmX7_done : Room := { frames := 0, cells := 0, slots := 0, locals := 0 }
def rmX7_readBox : Room := { frames := 3, cells := 0, slots := 0, locals := 70 }
def rmX7_readCell : Room := { frames := 2, cells := 0, slots := 0, locals := 52 }
def rmX7_readCommand : Room := { frames := 4, cells := 0, slots := 0, locals := 96 }
def rmX7_readText : Room := { frames := 5, cells := 0, slots := 0, locals := 119 }
def rmX7_errorPosition : Room := { frames := 6, cells := 0, slots := 0, locals := 142 }
def rmX7_load : Room := { frames := 6, cells := 0, slots := 0, locals := 142 }
def rmX7_about : Room := { frames := 6, cells := 0, slots := 0, locals := 142 }
def rmX7_toOther : Room := { frames := 1, cells := 0, slots := 0, locals := 22 }
def rmX7_cellOf : Room := { frames := 6, cells := 0, slots := 0, locals := 142 }
def rmX7_thresholdAt : Room := { frames := 1, cells := 0, slots := 0, locals := 25 }
def rmX7_isIsle : Room := { frames := 6, cells := 0, slots := 0, locals := 142 }
def rmX7_sidesOfIsle : Room := { frames := 1, cells := 0, slots := 0, locals := 24 }
def rmX7_near : Room := { frames := 2, cells := 0, slots := 0, locals := 49 }
def rmX7_island : Room := { frames := 7, cells := 0, slots := 0, locals := 163 }
def rmX7_border : Room := { frames := 7, cells := 0, slots := 0, locals := 163 }
def rmX7_outline : Room := { frames := 7, cells := 0, slots := 0, locals := 163 }
def rmX7_outlineWay : Room := { frames := 7, cells := 0, slots := 0, locals := 163 }
def rmX7_band : Room := { frames := 6, cells := 0, slots := 0, locals := 142 }
def rmX7_ink : Room := { frames := 6, cells := 0, slots := 0, locals := 142 }
def rmX7_remember : Room := { frames := 1, cells := 0, slots := 0, locals := 24 }
def rmX7_plate : Room := { frames := 2, cells := 0, slots := 0, locals := 45 }
def rmX7_cell : Room := { frames := 2, cells := 0, slots := 0, locals := 46 }
def rmX7_box : Room := { frames := 3, cells := 0, slots := 0, locals := 70 }
def rmX7_threshold : Room := { frames := 3, cells := 0, slots := 0, locals := 66 }
def rmX7_share : Room := { frames := 3, cells := 0, slots := 0, locals := 69 }
def rmX7_change : Room := { frames := 2, cells := 0, slots := 0, locals := 45 }
def rmX7_least : Room := { frames := 3, cells := 0, slots := 0, locals := 68 }
def rmX7_hatch : Room := { frames := 3, cells := 0, slots := 0, locals := 68 }
def rmX7_line : Room := { frames := 3, cells := 0, slots := 0, locals := 68 }
def rmX7_blur : Room := { frames := 3, cells := 0, slots := 0, locals := 72 }
def rmX7_invert : Room := { frames := 3, cells := 0, slots := 0, locals := 63 }
def rmX7_spread : Room := { frames := 3, cells := 0, slots := 0, locals := 70 }
def rmX7_noise : Room := { frames := 3, cells := 0, slots := 0, locals := 73 }
def rmX7_undo : Room := { frames := 1, cells := 0, slots := 0, locals := 24 }
def rmX7_ifLeast : Room := { frames := 5, cells := 0, slots := 0, locals := 121 }
def rmX7_leastFor : Room := { frames := 5, cells := 0, slots := 0, locals := 121 }
def rmX7_bestMove : Room := { frames := 6, cells := 0, slots := 0, locals := 142 }
def rmX7_ifCell : Room := { frames := 6, cells := 0, slots := 0, locals := 142 }
def rmX7_paints : Room := { frames := 2, cells := 0, slots := 0, locals := 46 }
def rmX7_boxes : Room := { frames := 3, cells := 0, slots := 0, locals := 70 }
def rmX7_parts : Room := { frames := 3, cells := 0, slots := 0, locals := 66 }
def rmX7_setsLeast : Room := { frames := 1, cells := 0, slots := 0, locals := 25 }
def rmX7_command : Room := { frames := 6, cells := 0, slots := 0, locals := 142 }
def rmX7_runScript : Room := { frames := 7, cells := 0, slots := 0, locals := 169 }
def rmX7_turn : Room := { frames := 4, cells := 0, slots := 0, locals := 95 }
def rmX7_simulate : Room := { frames := 6, cells := 0, slots := 0, locals := 142 }
def rmX7_save : Room := { frames := 2, cells := 0, slots := 0, locals := 42 }
def rmX7_restore : Room := { frames := 2, cells := 0, slots := 0, locals := 42 }
def rmAF_fill : Room := { frames := 0, cells := 0, slots := 0, locals := 0 }
