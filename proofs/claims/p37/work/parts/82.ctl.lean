/-! CONSTRUCTORS: links, blank objects. Printed by wip/whole/gen/mk82.py. -/
theorem ac_int : Cond.arrayClass .int ∈ UG := (ug1 39 (by decide +kernel) rfl)
theorem ac_boolean : Cond.arrayClass .boolean ∈ UG := (ug1 159 (by decide +kernel) rfl)
theorem fpF0_24 : FPF RX0 24 0 4 (.array .int) := ⟨TX0, 11, tyX0, rfl, inX0, by decide, rfl, tyX0_ok, nmX0, rfl, by decide +kernel, (ug1 129 (by decide +kernel) rfl)⟩
theorem fpF0_28 : FPF RX0 28 0 5 (.array .int) := ⟨TX0, 11, tyX0, rfl, inX0, by decide, rfl, tyX0_ok, nmX0, rfl, by decide +kernel, (ug1 130 (by decide +kernel) rfl)⟩
theorem fpF0_31 : FPF RX0 31 0 6 (.array .int) := ⟨TX0, 11, tyX0, rfl, inX0, by decide, rfl, tyX0_ok, nmX0, rfl, by decide +kernel, (ug1 131 (by decide +kernel) rfl)⟩
theorem fpF0_34 : FPF RX0 34 0 7 (.array .int) := ⟨TX0, 11, tyX0, rfl, inX0, by decide, rfl, tyX0_ok, nmX0, rfl, by decide +kernel, (ug1 132 (by decide +kernel) rfl)⟩
theorem fpF0_37 : FPF RX0 37 0 8 (.array .int) := ⟨TX0, 11, tyX0, rfl, inX0, by decide, rfl, tyX0_ok, nmX0, rfl, by decide +kernel, (ug1 133 (by decide +kernel) rfl)⟩
theorem fpF0_40 : FPF RX0 40 0 9 (.array .int) := ⟨TX0, 11, tyX0, rfl, inX0, by decide, rfl, tyX0_ok, nmX0, rfl, by decide +kernel, (ug1 134 (by decide +kernel) rfl)⟩
theorem fpF0_43 : FPF RX0 43 0 10 (.array .int) := ⟨TX0, 11, tyX0, rfl, inX0, by decide, rfl, tyX0_ok, nmX0, rfl, by decide +kernel, (ug1 135 (by decide +kernel) rfl)⟩
theorem fpF1_11 : FPF RX1 11 1 0 (.array (.object "BandEngraver$State")) := ⟨TX1, 3, tyX1, rfl, inX1, by decide, rfl, tyX1_ok, nmX1, rfl, by decide +kernel, (ug1 103 (by decide +kernel) rfl)⟩
theorem fpF2_9 : FPF RX2 9 2 0 (.array .int) := ⟨TX2, 5, tyX2, rfl, inX2, by decide, rfl, tyX2_ok, nmX2, rfl, by decide +kernel, (ug1 166 (by decide +kernel) rfl)⟩
theorem fpF2_15 : FPF RX2 15 2 1 (.array .int) := ⟨TX2, 5, tyX2, rfl, inX2, by decide, rfl, tyX2_ok, nmX2, rfl, by decide +kernel, (ug1 168 (by decide +kernel) rfl)⟩
theorem fpF2_18 : FPF RX2 18 2 2 (.array .int) := ⟨TX2, 5, tyX2, rfl, inX2, by decide, rfl, tyX2_ok, nmX2, rfl, by decide +kernel, (ug1 170 (by decide +kernel) rfl)⟩
theorem fpF2_21 : FPF RX2 21 2 3 (.array .int) := ⟨TX2, 5, tyX2, rfl, inX2, by decide, rfl, tyX2_ok, nmX2, rfl, by decide +kernel, (ug1 172 (by decide +kernel) rfl)⟩
theorem fpF2_24 : FPF RX2 24 2 4 (.array .int) := ⟨TX2, 5, tyX2, rfl, inX2, by decide, rfl, tyX2_ok, nmX2, rfl, by decide +kernel, (ug1 173 (by decide +kernel) rfl)⟩
theorem fpF4_9 : FPF RX4 9 4 2 (.array .int) := ⟨TX4, 8, tyX4, rfl, inX4, by decide, rfl, tyX4_ok, nmX4, rfl, by decide +kernel, (ug1 63 (by decide +kernel) rfl)⟩
theorem fpF4_15 : FPF RX4 15 4 3 (.array .int) := ⟨TX4, 8, tyX4, rfl, inX4, by decide, rfl, tyX4_ok, nmX4, rfl, by decide +kernel, (ug1 65 (by decide +kernel) rfl)⟩
theorem fpF4_18 : FPF RX4 18 4 6 (.array .int) := ⟨TX4, 8, tyX4, rfl, inX4, by decide, rfl, tyX4_ok, nmX4, rfl, by decide +kernel, (ug1 71 (by decide +kernel) rfl)⟩
theorem fpF5_9 : FPF RX5 9 5 0 (.array .int) := ⟨TX5, 2, tyX5, rfl, inX5, by decide, rfl, tyX5_ok, nmX5, rfl, by decide +kernel, (ug1 31 (by decide +kernel) rfl)⟩
theorem fpF6_10 : FPF RX6 10 6 0 (.object "BandEngraver$Text") := ⟨TX6, 13, tyX6, rfl, inX6, by decide, rfl, tyX6_ok, nmX6, rfl, by decide +kernel, (ug1 208 (by decide +kernel) rfl)⟩
theorem fpF6_19 : FPF RX6 19 6 1 (.object "BandEngraver$State") := ⟨TX6, 13, tyX6, rfl, inX6, by decide, rfl, tyX6_ok, nmX6, rfl, by decide +kernel, (ug1 209 (by decide +kernel) rfl)⟩
theorem fpF6_26 : FPF RX6 26 6 2 (.object "BandEngraver$Memory") := ⟨TX6, 13, tyX6, rfl, inX6, by decide, rfl, tyX6_ok, nmX6, rfl, by decide +kernel, (ug1 210 (by decide +kernel) rfl)⟩
theorem fpF6_30 : FPF RX6 30 6 3 (.array (.object "BandEngraver$State")) := ⟨TX6, 13, tyX6, rfl, inX6, by decide, rfl, tyX6_ok, nmX6, rfl, by decide +kernel, (ug1 211 (by decide +kernel) rfl)⟩
theorem fpF6_34 : FPF RX6 34 6 4 (.array .boolean) := ⟨TX6, 13, tyX6, rfl, inX6, by decide, rfl, tyX6_ok, nmX6, rfl, by decide +kernel, (ug1 212 (by decide +kernel) rfl)⟩
theorem fpF6_41 : FPF RX6 41 6 5 (.object "BandEngraver$Islands") := ⟨TX6, 13, tyX6, rfl, inX6, by decide, rfl, tyX6_ok, nmX6, rfl, by decide +kernel, (ug1 213 (by decide +kernel) rfl)⟩
theorem fpF6_48 : FPF RX6 48 6 6 (.object "BandEngraver$Nest") := ⟨TX6, 13, tyX6, rfl, inX6, by decide, rfl, tyX6_ok, nmX6, rfl, by decide +kernel, (ug1 214 (by decide +kernel) rfl)⟩
theorem fpF6_59 : FPF RX6 59 6 9 (.object "BandEngraver$State") := ⟨TX6, 13, tyX6, rfl, inX6, by decide, rfl, tyX6_ok, nmX6, rfl, by decide +kernel, (ug1 217 (by decide +kernel) rfl)⟩
theorem fpF6_62 : FPF RX6 62 6 10 (.object "BandEngraver$Islands") := ⟨TX6, 13, tyX6, rfl, inX6, by decide, rfl, tyX6_ok, nmX6, rfl, by decide +kernel, (ug1 218 (by decide +kernel) rfl)⟩
theorem fpF6_68 : FPF RX6 68 6 11 (.object "BandEngraver$Outline") := ⟨TX6, 13, tyX6, rfl, inX6, by decide, rfl, tyX6_ok, nmX6, rfl, by decide +kernel, (ug1 219 (by decide +kernel) rfl)⟩
theorem fpF6_72 : FPF RX6 72 6 12 (.array .int) := ⟨TX6, 13, tyX6, rfl, inX6, by decide, rfl, tyX6_ok, nmX6, rfl, by decide +kernel, (ug1 220 (by decide +kernel) rfl)⟩
abbrev bl0 : List Value := [iv 0, iv 0, iv 0, iv 0, .null, .null, .null, .null, .null, .null, .null]
abbrev bl1 : List Value := [.null, iv 0, iv 0]
abbrev bl2 : List Value := [.null, .null, .null, .null, .null]
abbrev bl3 : List Value := [iv 0, iv 0, iv 0, iv 0]
abbrev bl4 : List Value := [iv 0, iv 0, .null, .null, iv 0, iv 0, .null, iv 0]
abbrev bl5 : List Value := [.null, iv 0]
abbrev bl6 : List Value := [.null, .null, .null, .null, .null, .null, .null, iv 0, iv 0, .null, .null, .null, .null]
abbrev bl7 : List Value := [iv 0, .null, iv 0, .null, .null, .null, iv 0, .null, .null, .null, .null, iv 0, .null, .null, .null, .null, .null, .null, .null, iv 0, iv 0, iv 0, iv 0, iv 0, iv 0]
theorem blv0 : ∀ j, j < 11 → defaultValue (tyX0 j) = vp_V bl0 j := by
  intro j hj
  match j, hj with
  | 0, _ => rfl
  | 1, _ => rfl
  | 2, _ => rfl
  | 3, _ => rfl
  | 4, _ => rfl
  | 5, _ => rfl
  | 6, _ => rfl
  | 7, _ => rfl
  | 8, _ => rfl
  | 9, _ => rfl
  | 10, _ => rfl
  | j + 11, h => exact absurd h (by omega)
theorem blv1 : ∀ j, j < 3 → defaultValue (tyX1 j) = vp_V bl1 j := by
  intro j hj
  match j, hj with
  | 0, _ => rfl
  | 1, _ => rfl
  | 2, _ => rfl
  | j + 3, h => exact absurd h (by omega)
theorem blv2 : ∀ j, j < 5 → defaultValue (tyX2 j) = vp_V bl2 j := by
  intro j hj
  match j, hj with
  | 0, _ => rfl
  | 1, _ => rfl
  | 2, _ => rfl
  | 3, _ => rfl
  | 4, _ => rfl
  | j + 5, h => exact absurd h (by omega)
theorem blv3 : ∀ j, j < 4 → defaultValue (tyX3 j) = vp_V bl3 j := by
  intro j hj
  match j, hj with
  | 0, _ => rfl
  | 1, _ => rfl
  | 2, _ => rfl
  | 3, _ => rfl
  | j + 4, h => exact absurd h (by omega)
theorem blv4 : ∀ j, j < 8 → defaultValue (tyX4 j) = vp_V bl4 j := by
  intro j hj
  match j, hj with
  | 0, _ => rfl
  | 1, _ => rfl
  | 2, _ => rfl
  | 3, _ => rfl
  | 4, _ => rfl
  | 5, _ => rfl
  | 6, _ => rfl
  | 7, _ => rfl
  | j + 8, h => exact absurd h (by omega)
theorem blv5 : ∀ j, j < 2 → defaultValue (tyX5 j) = vp_V bl5 j := by
  intro j hj
  match j, hj with
  | 0, _ => rfl
  | 1, _ => rfl
  | j + 2, h => exact absurd h (by omega)
theorem blv6 : ∀ j, j < 13 → defaultValue (tyX6 j) = vp_V bl6 j := by
  intro j hj
  match j, hj with
  | 0, _ => rfl
  | 1, _ => rfl
  | 2, _ => rfl
  | 3, _ => rfl
  | 4, _ => rfl
  | 5, _ => rfl
  | 6, _ => rfl
  | 7, _ => rfl
  | 8, _ => rfl
  | 9, _ => rfl
  | 10, _ => rfl
  | 11, _ => rfl
  | 12, _ => rfl
  | j + 13, h => exact absurd h (by omega)
theorem nwL_8 : NWC RL 8 6 13 bl6 := ⟨RX6, TX6, tyX6, rfl, inX6, tyX6_ok, (ug1 17 (by decide +kernel) rfl), (ug1 18 (by decide +kernel) rfl), (ug1 1 (by decide +kernel) rfl), blv6, rfl, fun _ => rfl⟩
theorem nw6_7 : NWC RX6 7 5 2 bl5 := ⟨RX5, TX5, tyX5, rfl, inX5, tyX5_ok, (ug1 25 (by decide +kernel) rfl), (ug1 26 (by decide +kernel) rfl), (ug1 2 (by decide +kernel) rfl), blv5, rfl, fun _ => rfl⟩
theorem nw6_16 : NWC RX6 16 4 8 bl4 := ⟨RX4, TX4, tyX4, rfl, inX4, tyX4_ok, (ug1 40 (by decide +kernel) rfl), (ug1 41 (by decide +kernel) rfl), (ug1 3 (by decide +kernel) rfl), blv4, rfl, fun _ => rfl⟩
theorem nw6_23 : NWC RX6 23 1 3 bl1 := ⟨RX1, TX1, tyX1, rfl, inX1, tyX1_ok, (ug1 94 (by decide +kernel) rfl), (ug1 95 (by decide +kernel) rfl), (ug1 5 (by decide +kernel) rfl), blv1, rfl, fun _ => rfl⟩
theorem nw6_38 : NWC RX6 38 0 11 bl0 := ⟨RX0, TX0, tyX0, rfl, inX0, tyX0_ok, (ug1 114 (by decide +kernel) rfl), (ug1 115 (by decide +kernel) rfl), (ug1 6 (by decide +kernel) rfl), blv0, rfl, fun _ => rfl⟩
theorem nw6_45 : NWC RX6 45 2 5 bl2 := ⟨RX2, TX2, tyX2, rfl, inX2, tyX2_ok, (ug1 160 (by decide +kernel) rfl), (ug1 161 (by decide +kernel) rfl), (ug1 7 (by decide +kernel) rfl), blv2, rfl, fun _ => rfl⟩
theorem nw6_65 : NWC RX6 65 3 4 bl3 := ⟨RX3, TX3, tyX3, rfl, inX3, tyX3_ok, (ug1 185 (by decide +kernel) rfl), (ug1 186 (by decide +kernel) rfl), (ug1 8 (by decide +kernel) rfl), blv3, rfl, fun _ => rfl⟩
theorem nw1_9 : NWC RX1 9 4 8 bl4 := ⟨RX4, TX4, tyX4, rfl, inX4, tyX4_ok, (ug1 100 (by decide +kernel) rfl), (ug1 41 (by decide +kernel) rfl), (ug1 3 (by decide +kernel) rfl), blv4, rfl, fun _ => rfl⟩
