/-! THE LAW: its start. Printed by wip/whole/gen/mk94.py. -/
abbrev N6f (Rg Rs : Nat → Option Nat) : List va_E := ob 6 [.ref 1, .ref 3, .ref 7, .ref 65, .ref 66, .ref 67, .ref 75, iv 0, iv 0, .ref 81, .ref 85, .ref 93, .ref 94] :: (txA 1 0 zz ++ (stS 3 S00 ++ (mmA 7 Rg 0 0 (fun _ => S00) ++ ([qa 2 Rs] ++ ([za 2 zz] ++ (isA 67 1 1 1 0 zz zz zz zz zz zz zz ++ (nsA 75 zz zz zz zz zz ++ (stS 81 S00 ++ (isA 85 1 1 1 0 zz zz zz zz zz zz zz ++ ([ob 3 [iv 0, iv 0, iv 0, iv (-1)]] ++ ([ia 144 zz] ++ (stS 95 S00 ++ (stS 99 S00)))))))))))))
theorem N6_re : N6.map (re (List.range' 0 103)) = N6 := by
  have e1 := ring_eq 7 7 (List.range' 0 103) (by decide)
  have e2 := slot_eq 95 95 (List.range' 0 103) (by decide)
  show N6f (fun i => (ringP 7 i).map (rn (List.range' 0 103))) (fun i => (slotP 95 i).map (rn (List.range' 0 103))) = N6f (ringP 7) (slotP 95)
  rw [e1, e2]
theorem SV00 : SV S00 := SV_st0 (fun _ => ⟨Int.le_refl _, by show (0 : Int) ≤ 99; omega⟩) (by unfold dim; omega)
theorem INV_0 : INV (lwW (0) (0) (0) (zz) (S00) ((ringP 7)) (0) (0) ((fun _ => S00)) ((slotP 95)) (zz) (1) (1) (1) (0) (zz) (zz) (zz) (zz) (zz) (zz) (zz) (zz) (zz) (zz) (zz) (zz) (S00) (1) (1) (1) (0) (zz) (zz) (zz) (zz) (zz) (zz) (zz) (0) (0) (0) ((-1)) (zz) (S00) (S00) (0) (S00) (Z00) (0) (zz) (zz) (0) (zz) (zz) (zz) (zz) (zz) (zz) (zz) (zz) (zz) (zz) (0) (0) (0) (0) (0) (0) (zz)) := ⟨_, _, _, _, _, _, _, _, _, _, _, _, _, _, _, _, _, _, _, _, _, _, _, _, _, _, _, _, _, _, _, _, _, _, _, _, _, _, _, _, _, _, _, _, _, _, _, _, _, _, _, _, _, _, _, _, _, _, _, _, _, _, _, _, _, _, _, _, rfl, ⟨⟨⟨fun _ => ⟨Int.le_refl _, by show (0 : Int) ≤ 5; omega⟩, fun _ => r_0, fun _ => r_0⟩, Or.inl rfl⟩, Or.inl rfl⟩, ⟨fun _ => ⟨Int.le_refl _, by show (0 : Int) ≤ 5; omega⟩, fun _ => r_0, fun _ => r_0⟩, fun _ => ⟨Int.le_refl _, by show (0 : Int) ≤ 5; omega⟩, fun _ => r_0, ⟨SV00, SV00, StE_refl _⟩, ⟨by omega, by omega, rfl, fun i hi => by omega⟩, ⟨rfl, fun _ => ⟨Int.le_refl _, by show (0 : Int) ≤ 1; omega⟩, fun v _ z => absurd rfl z⟩, ⟨by omega, fun _ => ⟨Int.le_refl _, by show (0 : Int) ≤ 255; omega⟩⟩⟩
theorem lawHead {X : Cx} {b L : Nat} {xs : Nat → Int32} (gk : GK X cL_law RL (some .boolean) room_1 (fun _ _ => False) 601024 7293034 0) (ex : EX X) (hN : nLof X = 7) (sc : SCR X b L xs) (hL : L ≤ 3072) (hl : X.1.2.1.stackTraces = false) (fin : FIN X) : AW X 0 0 0 [some (.ref 4095), none, none, none, none, none, none] [] [] := by
  have ok := gk.ok
  refine a_new (pc := 0) gk (Nat.le_of_ble_eq_true rfl) dL_law_0 nwL_8 ⟨by decide, by decide⟩ True.intro rfl rfl ?_
  intro X hs gk
  replace ex := EX_sm ex hs
  replace sc := SCR_sm sc hs
  replace fin := FIN_sm fin hs
  replace hN := hs.n.trans hN
  replace hl := (congrArg Launch.stackTraces hs.l).trans hl
  have ok := gk.ok
  refine a_dup (pc := 3) ok dL_law_3 rfl ?_
  refine a_callI (pc := 4) (M := []) gk (Nat.le_of_ble_eq_true rfl) dL_law_4 (Or.inl (ug1 20 (by decide +kernel) rfl)) rfl (ug1 21 (by decide +kernel) rfl) miX6_init (gX6) (Nat.le_of_ble_eq_true rfl) kN6 ⟨by decide, by decide, by decide, by decide⟩ True.intro rfl rfl rfl (Nat.le_of_ble_eq_true rfl) ?_
  intro X hs gk
  replace ex := EX_sm ex hs
  replace sc := SCR_sm sc hs
  replace fin := FIN_sm fin hs
  replace hN := hs.n.trans hN
  replace hl := (congrArg Launch.stackTraces hs.l).trans hl
  have ok := gk.ok
  refine AW.cast (M2 := N6) ?_ rfl rfl (by show ([] ++ N6.map (re (List.range' 0 103)) : List va_E) = _; rw [N6_re]; rfl)
  refine a_astore_n (pc := 7) ok dL_law_7 rfl (by rw [hN]; decide) ?_
  refine a_new (pc := 8) gk (Nat.le_of_ble_eq_true rfl) dL_law_8 nwL_112 ⟨by decide, by decide⟩ kN6 rfl rfl ?_
  intro X hs gk
  replace ex := EX_sm ex hs
  replace sc := SCR_sm sc hs
  replace fin := FIN_sm fin hs
  replace hN := hs.n.trans hN
  replace hl := (congrArg Launch.stackTraces hs.l).trans hl
  have ok := gk.ok
  refine a_dup (pc := 11) ok dL_law_11 rfl ?_
  refine a_callI (pc := 12) (M := N6) gk (Nat.le_of_ble_eq_true rfl) dL_law_12 (Or.inl (ug5 60 (by decide +kernel) rfl)) rfl (ug5 61 (by decide +kernel) rfl) miX7_init (gX7) (Nat.le_of_ble_eq_true rfl) kN7 ⟨by decide, by decide, by decide, by decide⟩ kN6 rfl rfl rfl (Nat.le_of_ble_eq_true rfl) ?_
  intro X hs gk
  replace ex := EX_sm ex hs
  replace sc := SCR_sm sc hs
  replace fin := FIN_sm fin hs
  replace hN := hs.n.trans hN
  replace hl := (congrArg Launch.stackTraces hs.l).trans hl
  have ok := gk.ok
  refine a_astore_n (pc := 15) ok dL_law_15 rfl (by rw [hN]; decide) ?_
  refine a_iconst (pc := 16) ok dL_law_16 ?_
  refine a_newa (pc := 17) (t := 2) (n := 1) (x := .inr (.inl (arrL fun _ => 0))) gk (Nat.le_of_ble_eq_true rfl) dL_law_17 ac_long (fun _ => rfl) (fun _ => rfl) True.intro (fun _ => rfl) (by decide) rfl (by decide) ⟨by decide, by decide⟩ (kcM_app (kcM_mono (by decide) kN6) (kcM_re kN7)) rfl rfl ?_
  intro X hs gk
  replace ex := EX_sm ex hs
  replace sc := SCR_sm sc hs
  replace fin := FIN_sm fin hs
  replace hN := hs.n.trans hN
  replace hl := (congrArg Launch.stackTraces hs.l).trans hl
  have ok := gk.ok
  refine AW.cast (M2 := (lwW (0) (0) (0) (zz) (S00) ((ringP 7)) (0) (0) ((fun _ => S00)) ((slotP 95)) (zz) (1) (1) (1) (0) (zz) (zz) (zz) (zz) (zz) (zz) (zz) (zz) (zz) (zz) (zz) (zz) (S00) (1) (1) (1) (0) (zz) (zz) (zz) (zz) (zz) (zz) (zz) (0) (0) (0) ((-1)) (zz) (S00) (S00) (0) (S00) (Z00) (0) (zz) (zz) (0) (zz) (zz) (zz) (zz) (zz) (zz) (zz) (zz) (zz) (zz) (0) (0) (0) (0) (0) (0) (zz))) ?_ rfl rfl rfl
  refine a_astore_n (pc := 19) ok dL_law_19 rfl (by rw [hN]; decide) ?_
  refine a_iconst (pc := 20) ok dL_law_20 ?_
  refine a_istore (pc := 21) ok dL_law_21 rfl (by rw [hN]; decide) ?_
  exact lawLoop ok ex hN sc hL hl fin 512 0 (by omega) (by omega) _ INV_0
theorem tb_mem {w : Cond} (h : w ∈ tables_1) : w ∈ lw_tbl := List.mem_append_right _ h
theorem arr_of {s : State} {args : Array Value} {ty : FieldType} (hp : ∀ C, ty ≠ .object C) (h : (Cond.arrayClass ty).before args s = true) : ∃ c : ClassId, ArrOfT s c ty ∧ va_RA s c ty := by
  obtain ⟨c, k, comp, h1, h2, h3⟩ := Cond.arrayClass_spec h
  exact ⟨c, fun N z => ⟨fun k h => (by cases h), k, h2, comp, h3⟩, by cases ty <;> first | exact h1 | exact absurd rfl (hp _)⟩
theorem arr_ov {s : State} {args : Array Value} {n : String} (h : (Cond.arrayOver (.object n)).before args s = true) : ∃ c : ClassId, ArrOfT s c (.object n) ∧ va_RA s c (.object n) := by
  obtain ⟨comp, c, k, h1, h2, h3, h4, h5⟩ := Cond.arrayOver_spec h
  exact ⟨c, fun N z => ⟨fun k h => (by cases h), k, h3, comp, h4⟩, k, comp, h3, h4, h1, h5⟩
section ST
variable {s : State} {b : Nat}
theorem st_X (hts : ∀ w ∈ lw_tbl, w.before #[Value.ref b] s = true) (hs : ∀ w ∈ Jvm.Cond.flat (Jvm.Cond.and given_1 narrow_1), w.before #[Value.ref b] s = true) : XSt s := by
  intro q hq
  rcases List.mem_cons.mp hq with rfl | hq
  · obtain ⟨a, _, _, _, ha, _⟩ := Cond.exactly_spec (hs (Cond.exactly (.string RX6 86) "java/lang/String") (by decide +kernel))
    exact ⟨a, vk_R.of (hts (Cond.stringRef RX6 86 "the text is full") (tb_mem (tb3 42 (by decide +kernel)))) ha⟩
  rcases List.mem_cons.mp hq with rfl | hq
  · obtain ⟨a, _, _, _, ha, _⟩ := Cond.exactly_spec (hs (Cond.exactly (.string RX6 102) "java/lang/String") (by decide +kernel))
    exact ⟨a, vk_R.of (hts (Cond.stringRef RX6 102 "the text is not a plate") (tb_mem (tb3 61 (by decide +kernel)))) ha⟩
  rcases List.mem_cons.mp hq with rfl | hq
  · obtain ⟨a, _, _, _, ha, _⟩ := Cond.exactly_spec (hs (Cond.exactly (.string RX6 311) "java/lang/String") (by decide +kernel))
    exact ⟨a, vk_R.of (hts (Cond.stringRef RX6 311 "the box ends before it begins") (tb_mem (tb4 123 (by decide +kernel)))) ha⟩
  rcases List.mem_cons.mp hq with rfl | hq
  · obtain ⟨a, _, _, _, ha, _⟩ := Cond.exactly_spec (hs (Cond.exactly (.string RX6 321) "java/lang/String") (by decide +kernel))
    exact ⟨a, vk_R.of (hts (Cond.stringRef RX6 321 "the threshold cannot be put in or taken out") (tb_mem (tb4 133 (by decide +kernel)))) ha⟩
  rcases List.mem_cons.mp hq with rfl | hq
  · obtain ⟨a, _, _, _, ha, _⟩ := Cond.exactly_spec (hs (Cond.exactly (.string RX6 341) "java/lang/String") (by decide +kernel))
    exact ⟨a, vk_R.of (hts (Cond.stringRef RX6 341 "no state is remembered") (tb_mem (tb4 205 (by decide +kernel)))) ha⟩
  rcases List.mem_cons.mp hq with rfl | hq
  · obtain ⟨a, _, _, _, ha, _⟩ := Cond.exactly_spec (hs (Cond.exactly (.string RX6 376) "java/lang/String") (by decide +kernel))
    exact ⟨a, vk_R.of (hts (Cond.stringRef RX6 376 "the script has too many digits or is negative") (tb_mem (tb5 19 (by decide +kernel)))) ha⟩
  rcases List.mem_cons.mp hq with rfl | hq
  · obtain ⟨a, _, _, _, ha, _⟩ := Cond.exactly_spec (hs (Cond.exactly (.string RX6 393) "java/lang/String") (by decide +kernel))
    exact ⟨a, vk_R.of (hts (Cond.stringRef RX6 393 "nothing has been saved in the slot") (tb_mem (tb5 57 (by decide +kernel)))) ha⟩
  rcases List.mem_cons.mp hq with rfl | hq
  · obtain ⟨a, _, _, _, ha, _⟩ := Cond.exactly_spec (hs (Cond.exactly (.string RX6 399) "java/lang/String") (by decide +kernel))
    exact ⟨a, vk_R.of (hts (Cond.stringRef RX6 399 "an argument is out of its range") (tb_mem (tb3 2 (by decide +kernel)))) ha⟩
  rcases List.mem_cons.mp hq with rfl | hq
  · obtain ⟨a, _, _, _, ha, _⟩ := Cond.exactly_spec (hs (Cond.exactly (.string RX6 403) "java/lang/String") (by decide +kernel))
    exact ⟨a, vk_R.of (hts (Cond.stringRef RX6 403 "there is no such thing") (tb_mem (tb3 212 (by decide +kernel)))) ha⟩
  cases hq
theorem st_C (hs : ∀ w ∈ Jvm.Cond.flat (Jvm.Cond.and given_1 narrow_1), w.before #[Value.ref b] s = true) : XCs s := by
  intro q hq
  rcases List.mem_cons.mp hq with rfl | hq
  · exact va_Nc.of (hs (Cond.not (.castable nIA nIS)) (by decide +kernel))
  rcases List.mem_cons.mp hq with rfl | hq
  · exact va_Nc.of (hs (Cond.not (.castable nIA nIO)) (by decide +kernel))
  rcases List.mem_cons.mp hq with rfl | hq
  · exact va_Nc.of (hs (Cond.not (.castable nIS nIA)) (by decide +kernel))
  rcases List.mem_cons.mp hq with rfl | hq
  · exact va_Nc.of (hs (Cond.not (.castable nIS nIO)) (by decide +kernel))
  rcases List.mem_cons.mp hq with rfl | hq
  · exact va_Nc.of (hs (Cond.not (.castable nIO nIA)) (by decide +kernel))
  rcases List.mem_cons.mp hq with rfl | hq
  · exact va_Nc.of (hs (Cond.not (.castable nIO nIS)) (by decide +kernel))
  cases hq
theorem st_N (hts : ∀ w ∈ lw_tbl, w.before #[Value.ref b] s = true) : XN s := by
  intro w hw
  have h2 := (List.mem_filter.mp hw).2
  have h1 := hts w (tb_mem (List.mem_filter.mp hw).1)
  refine va_Nw.of ?_ h1
  cases w <;> first | rfl | cases h2
theorem st_W (hts : ∀ w ∈ lw_tbl, w.before #[Value.ref b] s = true) : NW s := by
  intro w hw
  have h2 := (List.mem_filter.mp hw).2
  have h1 := hts w (tb_mem (List.mem_filter.mp hw).1)
  refine va_Nw.of ?_ h1
  cases w <;> first | rfl | cases h2
theorem st_Z (hts : ∀ w ∈ lw_tbl, w.before #[Value.ref b] s = true) (hs : ∀ w ∈ Jvm.Cond.flat (Jvm.Cond.and given_1 narrow_1), w.before #[Value.ref b] s = true) : XZ (fun q => s.heap.size ≤ q) s s.heap := by
  refine ⟨vx_Zqof (args := #[Value.ref b]) (hts _ (tb_mem (tb2 228 (by decide +kernel)))) (hts _ (tb_mem (tb1 10 (by decide +kernel)))) (hs (Cond.isRef (.static "java/lang/Throwable" "UNASSIGNED_STACK" "[Ljava/lang/StackTraceElement;")) (by decide +kernel)) (fun a h => Nat.not_le.mpr h), vx_Zqof (args := #[Value.ref b]) (hts _ (tb_mem (tb2 230 (by decide +kernel)))) (hts _ (tb_mem (tb1 10 (by decide +kernel)))) (hs (Cond.isRef (.static "java/lang/Throwable" "SUPPRESSED_SENTINEL" "Ljava/util/List;")) (by decide +kernel)) (fun a h => Nat.not_le.mpr h)⟩
theorem st_K (hts : ∀ w ∈ lw_tbl, w.before #[Value.ref b] s = true) : ∃ (D : va_G) (cT : Nat → ClassId), va_K D classes (tysL cT) s := by
  have ug9 : ∀ w ∈ UG, w.before #[Value.ref b] s = true := fun w h => hts w (List.mem_filter.mp h).1
  obtain ⟨k0, i0, h0⟩ := u_known (C := RX0) (T := TX0) (N := 11) (n := 11) ug9 inX0 (hts _ (tb_mem (tb1 116 (by decide +kernel))))
  obtain ⟨k1, i1, h1⟩ := u_known (C := RX1) (T := TX1) (N := 3) (n := 3) ug9 inX1 (hts _ (tb_mem (tb1 96 (by decide +kernel))))
  obtain ⟨k2, i2, h2⟩ := u_known (C := RX2) (T := TX2) (N := 5) (n := 5) ug9 inX2 (hts _ (tb_mem (tb1 162 (by decide +kernel))))
  obtain ⟨k3, i3, h3⟩ := u_known (C := RX3) (T := TX3) (N := 4) (n := 4) ug9 inX3 (hts _ (tb_mem (tb1 187 (by decide +kernel))))
  obtain ⟨k4, i4, h4⟩ := u_known (C := RX4) (T := TX4) (N := 8) (n := 8) ug9 inX4 (hts _ (tb_mem (tb1 42 (by decide +kernel))))
  obtain ⟨k5, i5, h5⟩ := u_known (C := RX5) (T := TX5) (N := 2) (n := 2) ug9 inX5 (hts _ (tb_mem (tb1 27 (by decide +kernel))))
  obtain ⟨k6, i6, h6⟩ := u_known (C := RX6) (T := TX6) (N := 13) (n := 13) ug9 inX6 (hts _ (tb_mem (tb1 19 (by decide +kernel))))
  obtain ⟨k7, i7, h7⟩ := u_known (C := RX7) (T := TX7) (N := 25) (n := 25) ug9 inX7 (hts _ (tb_mem (tb5 59 (by decide +kernel))))
  obtain ⟨a0, p0, r0⟩ := arr_of (fun C z => by cases z) (hts (Cond.arrayClass .int) (tb_mem (tb1 40 (by decide +kernel))))
  obtain ⟨a1, p1, r1⟩ := arr_of (fun C z => by cases z) (hts (Cond.arrayClass .boolean) (tb_mem (tb1 160 (by decide +kernel))))
  obtain ⟨a2, p2, r2⟩ := arr_of (fun C z => by cases z) (hts (Cond.arrayClass .long) (tb_mem (tb7 67 (by decide +kernel))))
  obtain ⟨a3, p3, r3⟩ := arr_ov (hts (Cond.arrayOver (.object RX4)) (tb_mem (tb1 102 (by decide +kernel))))
  refine ⟨(fun k => match k with | 0 => k0 | 1 => k1 | 2 => k2 | 3 => k3 | 4 => k4 | 5 => k5 | 6 => k6 | _ => k7, fun k => match k with | 0 => i0 | 1 => i1 | 2 => i2 | 3 => i3 | 4 => i4 | 5 => i5 | 6 => i6 | _ => i7), fun k => match k with | 0 => a0 | 1 => a1 | 2 => a2 | _ => a3, fun c q hq => ?_, fun k q hq => ?_⟩
  · match c, hq with
    | 0, hq => cases hq; exact h0
    | 1, hq => cases hq; exact h1
    | 2, hq => cases hq; exact h2
    | 3, hq => cases hq; exact h3
    | 4, hq => cases hq; exact h4
    | 5, hq => cases hq; exact h5
    | 6, hq => cases hq; exact h6
    | 7, hq => cases hq; exact h7
    | c + 8, hq => simp [classes] at hq
  · match k, hq with
    | 0, hq => cases hq; exact ⟨p0, r0⟩
    | 1, hq => cases hq; exact ⟨p1, r1⟩
    | 2, hq => cases hq; exact ⟨p2, r2⟩
    | 3, hq => cases hq; exact ⟨p3, r3⟩
    | k + 4, hq => simp [tysL] at hq
end ST
theorem lawStart {p : Program} {e : Env} {s : State} {m : MethodId} {below : List Frame} {meth : Method} {c : Code} (l : Launch) (hst : l.stackTraces = false) {b L : Nat} {xs : Nat → Int32} (hL : L ≤ 3072) (hx : p.tables.exec = Jvm.exec) (hb : c.code = code) (hr : meth.sig.returnType = some .boolean) (hml : c.maxLocals = 7) (hown : s.vm.findClass RL = some m.cls) (hts : ∀ w ∈ lw_tbl, w.before #[Value.ref b] s = true) (hX : va_X b L xs s s.heap) (hbl : b < s.heap.size) (hlocks : meth.locks = false) (hs : ∀ w ∈ Jvm.Cond.flat (Jvm.Cond.and given_1 narrow_1), w.before #[Value.ref b] s = true) {Q : State → Prop}
    (hQ : ∀ (H : Heap) (ls : Array Slot), W p l e room_1 s m #[Value.ref b] below meth c H [] 601024 7293034 Q (F0 m 2252 ls [.int 1])) : W p l e room_1 s m #[Value.ref b] below meth c s.heap [] 0 0 Q (entryFrame m ([Value.ref b] : List Value).toArray 7) := by
  obtain ⟨D, cT, hK⟩ := st_K hts
  have hA : ∀ q : Nat, s.heap.size ≤ q → (fun q : Nat => s.heap.size ≤ q) q := fun _ h => h
  have hl := lv_entry ([.ref b]) (n := 7) (Nat.le_of_ble_eq_true rfl)
  rw [lg_entry_eq]
  refine lawHead (X := ((p, l, e, room_1), (s, m, #[Value.ref b], below), (meth, c, 7), (D, cT, fun _ => b), (fun q => s.heap.size ≤ q), Q)) (b := b) (L := L) (xs := xs) ⟨va_AO.of (hts _ (tb_mem (tb1 102 (by decide +kernel)))), fun ad2 _ => ⟨hx, hb, hml, hown, fun w h => hts w (List.mem_filter.mp h).1, hK, hA, hlocks, st_W hts, rfl, hr, fun H locs g k => ?_⟩⟩ ⟨hst, ⟨st_N hts, st_X hts hs, st_C hs⟩, st_Z hts hs⟩ rfl ⟨rfl, hX, hbl, fun _ h => h⟩ hL hst ?_ s.heap [] _ ?_ ?_ va_S.rf (lv_mono hl fun q hq => ?_)
  · intro T hT X9
    obtain ⟨t, a1, o, b1, b2, ⟨⟨v, M', -, h, -⟩, -⟩, -⟩ := k T hT X9
    exact h.elim
  · intro ad2 Lc M H locs ls hP hD hS hl9
    exact va_forget hS.2.2 (hQ H ls)
  · intro k q h; simp [cw] at h
  · exact ⟨fun i j p q h => by simp [cw] at h, fun k q h => by simp [cw] at h⟩
  · obtain ⟨v, h1, h2⟩ := lA_mem.mp hq
    obtain ⟨q1, q2⟩ := q
    dsimp only at h1 h2
    match q1, h1 with
    | 0, h1 => cases h1; rw [h2]; simp [lv_args, cv]
    | 1, h1 => cases h1
    | 2, h1 => cases h1
    | 3, h1 => cases h1
    | 4, h1 => cases h1
    | 5, h1 => cases h1
    | 6, h1 => cases h1
    | k + 7, h1 => simp at h1
