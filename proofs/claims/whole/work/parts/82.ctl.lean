/-! CONSTRUCTORS: links, blank objects. Printed by wip/whole/gen/mk82.py. -/
theorem ac_int : Cond.arrayClass .int ∈ UG := (ug1 40 (by decide +kernel) rfl)
theorem ac_boolean : Cond.arrayClass .boolean ∈ UG := (ug1 160 (by decide +kernel) rfl)
theorem ac_long : Cond.arrayClass .long ∈ UG := (ug7 67 (by decide +kernel) rfl)
theorem fpF0_24 : FPF RX0 24 0 4 (.array .int) := ⟨TX0, 11, tyX0, rfl, inX0, by decide, rfl, tyX0_ok, nmX0, rfl, by decide +kernel, (ug1 130 (by decide +kernel) rfl)⟩
theorem fpF0_28 : FPF RX0 28 0 5 (.array .int) := ⟨TX0, 11, tyX0, rfl, inX0, by decide, rfl, tyX0_ok, nmX0, rfl, by decide +kernel, (ug1 131 (by decide +kernel) rfl)⟩
theorem fpF0_31 : FPF RX0 31 0 6 (.array .int) := ⟨TX0, 11, tyX0, rfl, inX0, by decide, rfl, tyX0_ok, nmX0, rfl, by decide +kernel, (ug1 132 (by decide +kernel) rfl)⟩
theorem fpF0_34 : FPF RX0 34 0 7 (.array .int) := ⟨TX0, 11, tyX0, rfl, inX0, by decide, rfl, tyX0_ok, nmX0, rfl, by decide +kernel, (ug1 133 (by decide +kernel) rfl)⟩
theorem fpF0_37 : FPF RX0 37 0 8 (.array .int) := ⟨TX0, 11, tyX0, rfl, inX0, by decide, rfl, tyX0_ok, nmX0, rfl, by decide +kernel, (ug1 134 (by decide +kernel) rfl)⟩
theorem fpF0_40 : FPF RX0 40 0 9 (.array .int) := ⟨TX0, 11, tyX0, rfl, inX0, by decide, rfl, tyX0_ok, nmX0, rfl, by decide +kernel, (ug1 135 (by decide +kernel) rfl)⟩
theorem fpF0_43 : FPF RX0 43 0 10 (.array .int) := ⟨TX0, 11, tyX0, rfl, inX0, by decide, rfl, tyX0_ok, nmX0, rfl, by decide +kernel, (ug1 136 (by decide +kernel) rfl)⟩
theorem fpF1_11 : FPF RX1 11 1 0 (.array (.object "BandEngraver$State")) := ⟨TX1, 3, tyX1, rfl, inX1, by decide, rfl, tyX1_ok, nmX1, rfl, by decide +kernel, (ug1 104 (by decide +kernel) rfl)⟩
theorem fpF2_9 : FPF RX2 9 2 0 (.array .int) := ⟨TX2, 5, tyX2, rfl, inX2, by decide, rfl, tyX2_ok, nmX2, rfl, by decide +kernel, (ug1 167 (by decide +kernel) rfl)⟩
theorem fpF2_15 : FPF RX2 15 2 1 (.array .int) := ⟨TX2, 5, tyX2, rfl, inX2, by decide, rfl, tyX2_ok, nmX2, rfl, by decide +kernel, (ug1 169 (by decide +kernel) rfl)⟩
theorem fpF2_18 : FPF RX2 18 2 2 (.array .int) := ⟨TX2, 5, tyX2, rfl, inX2, by decide, rfl, tyX2_ok, nmX2, rfl, by decide +kernel, (ug1 171 (by decide +kernel) rfl)⟩
theorem fpF2_21 : FPF RX2 21 2 3 (.array .int) := ⟨TX2, 5, tyX2, rfl, inX2, by decide, rfl, tyX2_ok, nmX2, rfl, by decide +kernel, (ug1 173 (by decide +kernel) rfl)⟩
theorem fpF2_24 : FPF RX2 24 2 4 (.array .int) := ⟨TX2, 5, tyX2, rfl, inX2, by decide, rfl, tyX2_ok, nmX2, rfl, by decide +kernel, (ug1 174 (by decide +kernel) rfl)⟩
theorem fpF4_9 : FPF RX4 9 4 2 (.array .int) := ⟨TX4, 8, tyX4, rfl, inX4, by decide, rfl, tyX4_ok, nmX4, rfl, by decide +kernel, (ug1 64 (by decide +kernel) rfl)⟩
theorem fpF4_15 : FPF RX4 15 4 3 (.array .int) := ⟨TX4, 8, tyX4, rfl, inX4, by decide, rfl, tyX4_ok, nmX4, rfl, by decide +kernel, (ug1 66 (by decide +kernel) rfl)⟩
theorem fpF4_18 : FPF RX4 18 4 6 (.array .int) := ⟨TX4, 8, tyX4, rfl, inX4, by decide, rfl, tyX4_ok, nmX4, rfl, by decide +kernel, (ug1 72 (by decide +kernel) rfl)⟩
theorem fpF5_9 : FPF RX5 9 5 0 (.array .int) := ⟨TX5, 2, tyX5, rfl, inX5, by decide, rfl, tyX5_ok, nmX5, rfl, by decide +kernel, (ug1 32 (by decide +kernel) rfl)⟩
theorem fpF6_10 : FPF RX6 10 6 0 (.object "BandEngraver$Text") := ⟨TX6, 13, tyX6, rfl, inX6, by decide, rfl, tyX6_ok, nmX6, rfl, by decide +kernel, (ug1 209 (by decide +kernel) rfl)⟩
theorem fpF6_19 : FPF RX6 19 6 1 (.object "BandEngraver$State") := ⟨TX6, 13, tyX6, rfl, inX6, by decide, rfl, tyX6_ok, nmX6, rfl, by decide +kernel, (ug1 210 (by decide +kernel) rfl)⟩
theorem fpF6_26 : FPF RX6 26 6 2 (.object "BandEngraver$Memory") := ⟨TX6, 13, tyX6, rfl, inX6, by decide, rfl, tyX6_ok, nmX6, rfl, by decide +kernel, (ug1 211 (by decide +kernel) rfl)⟩
theorem fpF6_30 : FPF RX6 30 6 3 (.array (.object "BandEngraver$State")) := ⟨TX6, 13, tyX6, rfl, inX6, by decide, rfl, tyX6_ok, nmX6, rfl, by decide +kernel, (ug1 212 (by decide +kernel) rfl)⟩
theorem fpF6_34 : FPF RX6 34 6 4 (.array .boolean) := ⟨TX6, 13, tyX6, rfl, inX6, by decide, rfl, tyX6_ok, nmX6, rfl, by decide +kernel, (ug1 213 (by decide +kernel) rfl)⟩
theorem fpF6_41 : FPF RX6 41 6 5 (.object "BandEngraver$Islands") := ⟨TX6, 13, tyX6, rfl, inX6, by decide, rfl, tyX6_ok, nmX6, rfl, by decide +kernel, (ug1 214 (by decide +kernel) rfl)⟩
theorem fpF6_48 : FPF RX6 48 6 6 (.object "BandEngraver$Nest") := ⟨TX6, 13, tyX6, rfl, inX6, by decide, rfl, tyX6_ok, nmX6, rfl, by decide +kernel, (ug1 215 (by decide +kernel) rfl)⟩
theorem fpF6_59 : FPF RX6 59 6 9 (.object "BandEngraver$State") := ⟨TX6, 13, tyX6, rfl, inX6, by decide, rfl, tyX6_ok, nmX6, rfl, by decide +kernel, (ug1 218 (by decide +kernel) rfl)⟩
theorem fpF6_62 : FPF RX6 62 6 10 (.object "BandEngraver$Islands") := ⟨TX6, 13, tyX6, rfl, inX6, by decide, rfl, tyX6_ok, nmX6, rfl, by decide +kernel, (ug1 219 (by decide +kernel) rfl)⟩
theorem fpF6_68 : FPF RX6 68 6 11 (.object "BandEngraver$Outline") := ⟨TX6, 13, tyX6, rfl, inX6, by decide, rfl, tyX6_ok, nmX6, rfl, by decide +kernel, (ug1 220 (by decide +kernel) rfl)⟩
theorem fpF6_72 : FPF RX6 72 6 12 (.array .int) := ⟨TX6, 13, tyX6, rfl, inX6, by decide, rfl, tyX6_ok, nmX6, rfl, by decide +kernel, (ug1 221 (by decide +kernel) rfl)⟩
theorem fpF7_7 : FPF RX7 7 7 1 (.array .int) := ⟨TX7, 25, tyX7, rfl, inX7, by decide, rfl, tyX7_ok, nmX7, rfl, by decide +kernel, (ug5 71 (by decide +kernel) rfl)⟩
theorem fpF7_13 : FPF RX7 13 7 3 (.array .int) := ⟨TX7, 25, tyX7, rfl, inX7, by decide, rfl, tyX7_ok, nmX7, rfl, by decide +kernel, (ug5 73 (by decide +kernel) rfl)⟩
theorem fpF7_16 : FPF RX7 16 7 4 (.array .int) := ⟨TX7, 25, tyX7, rfl, inX7, by decide, rfl, tyX7_ok, nmX7, rfl, by decide +kernel, (ug5 74 (by decide +kernel) rfl)⟩
theorem fpF7_19 : FPF RX7 19 7 5 (.array .int) := ⟨TX7, 25, tyX7, rfl, inX7, by decide, rfl, tyX7_ok, nmX7, rfl, by decide +kernel, (ug5 75 (by decide +kernel) rfl)⟩
theorem fpF7_22 : FPF RX7 22 7 7 (.array .int) := ⟨TX7, 25, tyX7, rfl, inX7, by decide, rfl, tyX7_ok, nmX7, rfl, by decide +kernel, (ug5 77 (by decide +kernel) rfl)⟩
theorem fpF7_25 : FPF RX7 25 7 8 (.array .boolean) := ⟨TX7, 25, tyX7, rfl, inX7, by decide, rfl, tyX7_ok, nmX7, rfl, by decide +kernel, (ug5 78 (by decide +kernel) rfl)⟩
theorem fpF7_29 : FPF RX7 29 7 9 (.array .int) := ⟨TX7, 25, tyX7, rfl, inX7, by decide, rfl, tyX7_ok, nmX7, rfl, by decide +kernel, (ug5 79 (by decide +kernel) rfl)⟩
theorem fpF7_32 : FPF RX7 32 7 10 (.array .int) := ⟨TX7, 25, tyX7, rfl, inX7, by decide, rfl, tyX7_ok, nmX7, rfl, by decide +kernel, (ug5 80 (by decide +kernel) rfl)⟩
theorem fpF7_35 : FPF RX7 35 7 12 (.array .int) := ⟨TX7, 25, tyX7, rfl, inX7, by decide, rfl, tyX7_ok, nmX7, rfl, by decide +kernel, (ug5 82 (by decide +kernel) rfl)⟩
theorem fpF7_38 : FPF RX7 38 7 13 (.array .int) := ⟨TX7, 25, tyX7, rfl, inX7, by decide, rfl, tyX7_ok, nmX7, rfl, by decide +kernel, (ug5 83 (by decide +kernel) rfl)⟩
theorem fpF7_41 : FPF RX7 41 7 14 (.array .int) := ⟨TX7, 25, tyX7, rfl, inX7, by decide, rfl, tyX7_ok, nmX7, rfl, by decide +kernel, (ug5 84 (by decide +kernel) rfl)⟩
theorem fpF7_44 : FPF RX7 44 7 15 (.array .int) := ⟨TX7, 25, tyX7, rfl, inX7, by decide, rfl, tyX7_ok, nmX7, rfl, by decide +kernel, (ug5 85 (by decide +kernel) rfl)⟩
theorem fpF7_47 : FPF RX7 47 7 16 (.array .int) := ⟨TX7, 25, tyX7, rfl, inX7, by decide, rfl, tyX7_ok, nmX7, rfl, by decide +kernel, (ug5 86 (by decide +kernel) rfl)⟩
theorem fpF7_50 : FPF RX7 50 7 17 (.array .int) := ⟨TX7, 25, tyX7, rfl, inX7, by decide, rfl, tyX7_ok, nmX7, rfl, by decide +kernel, (ug5 87 (by decide +kernel) rfl)⟩
theorem fpF7_53 : FPF RX7 53 7 18 (.array .int) := ⟨TX7, 25, tyX7, rfl, inX7, by decide, rfl, tyX7_ok, nmX7, rfl, by decide +kernel, (ug5 88 (by decide +kernel) rfl)⟩
abbrev bl0 : List Value := [iv 0, iv 0, iv 0, iv 0, .null, .null, .null, .null, .null, .null, .null]
abbrev bl1 : List Value := [.null, iv 0, iv 0]
abbrev bl2 : List Value := [.null, .null, .null, .null, .null]
abbrev bl3 : List Value := [iv 0, iv 0, iv 0, iv 0]
abbrev bl4 : List Value := [iv 0, iv 0, .null, .null, iv 0, iv 0, .null, iv 0]
abbrev bl5 : List Value := [.null, iv 0]
abbrev bl6 : List Value := [.null, .null, .null, .null, .null, .null, .null, iv 0, iv 0, .null, .null, .null, .null]
abbrev bl7 : List Value := [iv 0, .null, iv 0, .null, .null, .null, iv 0, .null, .null, .null, .null, iv 0, .null, .null, .null, .null, .null, .null, .null, iv 0, iv 0, iv 0, iv 0, iv 0, iv 0]
theorem blv0 : ∀ j, j < 11 → defaultValue (tyX0 j) = vp_V bl0 j := by
  intro j hj
  match j, hj with
  | 0, _ => rfl
  | 1, _ => rfl
  | 2, _ => rfl
  | 3, _ => rfl
  | 4, _ => rfl
  | 5, _ => rfl
  | 6, _ => rfl
  | 7, _ => rfl
  | 8, _ => rfl
  | 9, _ => rfl
  | 10, _ => rfl
  | j + 11, h => exact absurd h (by omega)
theorem blv1 : ∀ j, j < 3 → defaultValue (tyX1 j) = vp_V bl1 j := by
  intro j hj
  match j, hj with
  | 0, _ => rfl
  | 1, _ => rfl
  | 2, _ => rfl
  | j + 3, h => exact absurd h (by omega)
theorem blv2 : ∀ j, j < 5 → defaultValue (tyX2 j) = vp_V bl2 j := by
  intro j hj
  match j, hj with
  | 0, _ => rfl
  | 1, _ => rfl
  | 2, _ => rfl
  | 3, _ => rfl
  | 4, _ => rfl
  | j + 5, h => exact absurd h (by omega)
theorem blv3 : ∀ j, j < 4 → defaultValue (tyX3 j) = vp_V bl3 j := by
  intro j hj
  match j, hj with
  | 0, _ => rfl
  | 1, _ => rfl
  | 2, _ => rfl
  | 3, _ => rfl
  | j + 4, h => exact absurd h (by omega)
theorem blv4 : ∀ j, j < 8 → defaultValue (tyX4 j) = vp_V bl4 j := by
  intro j hj
  match j, hj with
  | 0, _ => rfl
  | 1, _ => rfl
  | 2, _ => rfl
  | 3, _ => rfl
  | 4, _ => rfl
  | 5, _ => rfl
  | 6, _ => rfl
  | 7, _ => rfl
  | j + 8, h => exact absurd h (by omega)
theorem blv5 : ∀ j, j < 2 → defaultValue (tyX5 j) = vp_V bl5 j := by
  intro j hj
  match j, hj with
  | 0, _ => rfl
  | 1, _ => rfl
  | j + 2, h => exact absurd h (by omega)
theorem blv6 : ∀ j, j < 13 → defaultValue (tyX6 j) = vp_V bl6 j := by
  intro j hj
  match j, hj with
  | 0, _ => rfl
  | 1, _ => rfl
  | 2, _ => rfl
  | 3, _ => rfl
  | 4, _ => rfl
  | 5, _ => rfl
  | 6, _ => rfl
  | 7, _ => rfl
  | 8, _ => rfl
  | 9, _ => rfl
  | 10, _ => rfl
  | 11, _ => rfl
  | 12, _ => rfl
  | j + 13, h => exact absurd h (by omega)
theorem blv7 : ∀ j, j < 25 → defaultValue (tyX7 j) = vp_V bl7 j := by
  intro j hj
  match j, hj with
  | 0, _ => rfl
  | 1, _ => rfl
  | 2, _ => rfl
  | 3, _ => rfl
  | 4, _ => rfl
  | 5, _ => rfl
  | 6, _ => rfl
  | 7, _ => rfl
  | 8, _ => rfl
  | 9, _ => rfl
  | 10, _ => rfl
  | 11, _ => rfl
  | 12, _ => rfl
  | 13, _ => rfl
  | 14, _ => rfl
  | 15, _ => rfl
  | 16, _ => rfl
  | 17, _ => rfl
  | 18, _ => rfl
  | 19, _ => rfl
  | 20, _ => rfl
  | 21, _ => rfl
  | 22, _ => rfl
  | 23, _ => rfl
  | 24, _ => rfl
  | j + 25, h => exact absurd h (by omega)
theorem nwL_8 : NWC RL 8 6 13 bl6 := ⟨RX6, TX6, tyX6, rfl, inX6, tyX6_ok, (ug1 18 (by decide +kernel) rfl), (ug1 19 (by decide +kernel) rfl), (ug1 1 (by decide +kernel) rfl), blv6, rfl, fun _ => rfl⟩
theorem nwL_112 : NWC RL 112 7 25 bl7 := ⟨RX7, TX7, tyX7, rfl, inX7, tyX7_ok, (ug5 58 (by decide +kernel) rfl), (ug5 59 (by decide +kernel) rfl), (ug1 9 (by decide +kernel) rfl), blv7, rfl, fun _ => rfl⟩
theorem nw6_7 : NWC RX6 7 5 2 bl5 := ⟨RX5, TX5, tyX5, rfl, inX5, tyX5_ok, (ug1 26 (by decide +kernel) rfl), (ug1 27 (by decide +kernel) rfl), (ug1 2 (by decide +kernel) rfl), blv5, rfl, fun _ => rfl⟩
theorem nw6_16 : NWC RX6 16 4 8 bl4 := ⟨RX4, TX4, tyX4, rfl, inX4, tyX4_ok, (ug1 41 (by decide +kernel) rfl), (ug1 42 (by decide +kernel) rfl), (ug1 3 (by decide +kernel) rfl), blv4, rfl, fun _ => rfl⟩
theorem nw6_23 : NWC RX6 23 1 3 bl1 := ⟨RX1, TX1, tyX1, rfl, inX1, tyX1_ok, (ug1 95 (by decide +kernel) rfl), (ug1 96 (by decide +kernel) rfl), (ug1 5 (by decide +kernel) rfl), blv1, rfl, fun _ => rfl⟩
theorem nw6_38 : NWC RX6 38 0 11 bl0 := ⟨RX0, TX0, tyX0, rfl, inX0, tyX0_ok, (ug1 115 (by decide +kernel) rfl), (ug1 116 (by decide +kernel) rfl), (ug1 6 (by decide +kernel) rfl), blv0, rfl, fun _ => rfl⟩
theorem nw6_45 : NWC RX6 45 2 5 bl2 := ⟨RX2, TX2, tyX2, rfl, inX2, tyX2_ok, (ug1 161 (by decide +kernel) rfl), (ug1 162 (by decide +kernel) rfl), (ug1 7 (by decide +kernel) rfl), blv2, rfl, fun _ => rfl⟩
theorem nw6_65 : NWC RX6 65 3 4 bl3 := ⟨RX3, TX3, tyX3, rfl, inX3, tyX3_ok, (ug1 186 (by decide +kernel) rfl), (ug1 187 (by decide +kernel) rfl), (ug1 8 (by decide +kernel) rfl), blv3, rfl, fun _ => rfl⟩
theorem nw1_9 : NWC RX1 9 4 8 bl4 := ⟨RX4, TX4, tyX4, rfl, inX4, tyX4_ok, (ug1 101 (by decide +kernel) rfl), (ug1 42 (by decide +kernel) rfl), (ug1 3 (by decide +kernel) rfl), blv4, rfl, fun _ => rfl⟩
