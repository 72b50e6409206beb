/-! THE LAW: what the premises say. Printed by wip/p37/gen/mkend.py. -/
theorem b_l {args : Array Value} {s : State} {A B : Cond} (h : (Cond.and A B).before args s = true) : A.before args s = true := by simp only [Cond.before_and, Bool.and_eq_true] at h; exact h.1
theorem b_r {args : Array Value} {s : State} {A B : Cond} (h : (Cond.and A B).before args s = true) : B.before args s = true := by simp only [Cond.before_and, Bool.and_eq_true] at h; exact h.2
theorem tb_mem {w : Cond} (h : w ∈ tables_1) : w ∈ lw_tbl := List.mem_append_right _ h
theorem arr_of {s : State} {args : Array Value} {ty : FieldType} (hp : ∀ C, ty ≠ .object C) (h : (Cond.arrayClass ty).before args s = true) : ∃ c : ClassId, ArrOfT s c ty ∧ va_RA s c ty := by
  obtain ⟨c, k, comp, h1, h2, h3⟩ := Cond.arrayClass_spec h
  exact ⟨c, fun N z => ⟨fun k h => (by cases h), k, h2, comp, h3⟩, by cases ty <;> first | exact h1 | exact absurd rfl (hp _)⟩
theorem arr_ov {s : State} {args : Array Value} {n : String} (h : (Cond.arrayOver (.object n)).before args s = true) : ∃ c : ClassId, ArrOfT s c (.object n) ∧ va_RA s c (.object n) := by
  obtain ⟨comp, c, k, h1, h2, h3, h4, h5⟩ := Cond.arrayOver_spec h
  exact ⟨c, fun N z => ⟨fun k h => (by cases h), k, h3, comp, h4⟩, k, comp, h3, h4, h1, h5⟩
section ST
variable {s : State} {b : Nat}
theorem st_X (hts : ∀ w ∈ lw_tbl, w.before #[Value.ref b] s = true) (hn : narrow_1.before #[Value.ref b] s = true) : XSt s := by
  intro q hq
  rcases List.mem_cons.mp hq with rfl | hq
  · obtain ⟨a, _, _, _, ha, _⟩ := Cond.exactly_spec (b_l (b_r (b_r (b_r (b_l (b_r (b_l (b_l hn))))))))
    exact ⟨a, vk_R.of (hts (Cond.stringRef RX6 86 "the text is full") (tb_mem (tb2 115 (by decide +kernel)))) ha⟩
  rcases List.mem_cons.mp hq with rfl | hq
  · obtain ⟨a, _, _, _, ha, _⟩ := Cond.exactly_spec (b_l (b_r (b_l (b_r (b_r (b_r (b_r (b_l (b_l hn)))))))))
    exact ⟨a, vk_R.of (hts (Cond.stringRef RX6 102 "the text is not a plate") (tb_mem (tb2 173 (by decide +kernel)))) ha⟩
  rcases List.mem_cons.mp hq with rfl | hq
  · obtain ⟨a, _, _, _, ha, _⟩ := Cond.exactly_spec (b_l (b_l (b_l (b_r (b_r (b_l (b_l (b_r hn))))))))
    exact ⟨a, vk_R.of (hts (Cond.stringRef RX6 311 "the box ends before it begins") (tb_mem (tb4 216 (by decide +kernel)))) ha⟩
  rcases List.mem_cons.mp hq with rfl | hq
  · obtain ⟨a, _, _, _, ha, _⟩ := Cond.exactly_spec (b_r (b_r (b_r (b_l (b_l (b_r (b_r (b_l (b_r hn)))))))))
    exact ⟨a, vk_R.of (hts (Cond.stringRef RX6 321 "the threshold cannot be put in or taken out") (tb_mem (tb4 226 (by decide +kernel)))) ha⟩
  rcases List.mem_cons.mp hq with rfl | hq
  · obtain ⟨a, _, _, _, ha, _⟩ := Cond.exactly_spec (b_r (b_r (b_l (b_r (b_l (b_l (b_r (b_r (b_l hn)))))))))
    exact ⟨a, vk_R.of (hts (Cond.stringRef RX6 341 "no state is remembered") (tb_mem (tb4 155 (by decide +kernel)))) ha⟩
  rcases List.mem_cons.mp hq with rfl | hq
  · obtain ⟨a, _, _, _, ha, _⟩ := Cond.exactly_spec (b_l (b_r (b_l (b_l (b_r (b_r (b_l (b_r (b_r hn)))))))))
    exact ⟨a, vk_R.of (hts (Cond.stringRef RX6 376 "the script has too many digits or is negative") (tb_mem (tb5 23 (by decide +kernel)))) ha⟩
  rcases List.mem_cons.mp hq with rfl | hq
  · obtain ⟨a, _, _, _, ha, _⟩ := Cond.exactly_spec (b_l (b_r (b_l (b_r (b_r (b_r (b_r (b_l hn))))))))
    exact ⟨a, vk_R.of (hts (Cond.stringRef RX6 393 "nothing has been saved in the slot") (tb_mem (tb4 208 (by decide +kernel)))) ha⟩
  rcases List.mem_cons.mp hq with rfl | hq
  · obtain ⟨a, _, _, _, ha, _⟩ := Cond.exactly_spec (b_l (b_r (b_r (b_l (b_r (b_l (b_l (b_l hn))))))))
    exact ⟨a, vk_R.of (hts (Cond.stringRef RX6 399 "an argument is out of its range") (tb_mem (tb2 75 (by decide +kernel)))) ha⟩
  rcases List.mem_cons.mp hq with rfl | hq
  · obtain ⟨a, _, _, _, ha, _⟩ := Cond.exactly_spec (b_r (b_l (b_l (b_l (b_r (b_l (b_r (b_l hn))))))))
    exact ⟨a, vk_R.of (hts (Cond.stringRef RX6 403 "there is no such thing") (tb_mem (tb3 182 (by decide +kernel)))) ha⟩
  cases hq
theorem st_C (hn : narrow_1.before #[Value.ref b] s = true) : XCs s := by
  intro q hq
  rcases List.mem_cons.mp hq with rfl | hq
  · exact va_Nc.of (b_l (b_r (b_r (b_r (b_l (b_l (b_l (b_l hn))))))))
  rcases List.mem_cons.mp hq with rfl | hq
  · exact va_Nc.of (b_l (b_r (b_l (b_r (b_l (b_r (b_l (b_l (b_l hn)))))))))
  rcases List.mem_cons.mp hq with rfl | hq
  · exact va_Nc.of (b_l (b_l (b_l (b_r (b_l (b_l (b_l (b_l hn))))))))
  rcases List.mem_cons.mp hq with rfl | hq
  · exact va_Nc.of (b_r (b_r (b_l (b_r (b_l (b_r (b_l (b_l (b_l hn)))))))))
  rcases List.mem_cons.mp hq with rfl | hq
  · exact va_Nc.of (b_l (b_r (b_l (b_l (b_r (b_l (b_l (b_l (b_l hn)))))))))
  rcases List.mem_cons.mp hq with rfl | hq
  · exact va_Nc.of (b_l (b_r (b_r (b_r (b_r (b_l (b_l (b_l (b_l hn)))))))))
  cases hq
theorem st_N (hts : ∀ w ∈ lw_tbl, w.before #[Value.ref b] s = true) : XN s := by
  intro w hw
  have h2 := (List.mem_filter.mp hw).2
  have h1 := hts w (tb_mem (List.mem_filter.mp hw).1)
  refine va_Nw.of ?_ h1
  cases w <;> first | rfl | cases h2
theorem st_W (hts : ∀ w ∈ lw_tbl, w.before #[Value.ref b] s = true) : NW s := by
  intro w hw
  have h2 := (List.mem_filter.mp hw).2
  have h1 := hts w (tb_mem (List.mem_filter.mp hw).1)
  refine va_Nw.of ?_ h1
  cases w <;> first | rfl | cases h2
theorem st_Z (hts : ∀ w ∈ lw_tbl, w.before #[Value.ref b] s = true) (hn : narrow_1.before #[Value.ref b] s = true) : XZ (fun q => s.heap.size ≤ q) s s.heap := by
  refine ⟨vx_Zqof (args := #[Value.ref b]) (hts _ (tb_mem (tb2 61 (by decide +kernel)))) (hts _ (tb_mem (tb1 9 (by decide +kernel)))) (b_l (b_r (b_l (b_l (b_l (b_l (b_l (b_l hn)))))))) (fun a h => Nat.not_le.mpr h), vx_Zqof (args := #[Value.ref b]) (hts _ (tb_mem (tb2 63 (by decide +kernel)))) (hts _ (tb_mem (tb1 9 (by decide +kernel)))) (b_l (b_r (b_r (b_l (b_l (b_l (b_l (b_l (b_l hn))))))))) (fun a h => Nat.not_le.mpr h)⟩
theorem st_K (hts : ∀ w ∈ lw_tbl, w.before #[Value.ref b] s = true) : ∃ (D : va_G) (cT : Nat → ClassId), va_K D classes (tysL cT) s := by
  have ug9 : ∀ w ∈ UG, w.before #[Value.ref b] s = true := fun w h => hts w (List.mem_filter.mp h).1
  obtain ⟨k0, i0, h0⟩ := u_known (C := RX0) (T := TX0) (N := 11) (n := 11) ug9 inX0 (hts _ (tb_mem (tb1 115 (by decide +kernel))))
  obtain ⟨k1, i1, h1⟩ := u_known (C := RX1) (T := TX1) (N := 3) (n := 3) ug9 inX1 (hts _ (tb_mem (tb1 95 (by decide +kernel))))
  obtain ⟨k2, i2, h2⟩ := u_known (C := RX2) (T := TX2) (N := 5) (n := 5) ug9 inX2 (hts _ (tb_mem (tb1 161 (by decide +kernel))))
  obtain ⟨k3, i3, h3⟩ := u_known (C := RX3) (T := TX3) (N := 4) (n := 4) ug9 inX3 (hts _ (tb_mem (tb1 186 (by decide +kernel))))
  obtain ⟨k4, i4, h4⟩ := u_known (C := RX4) (T := TX4) (N := 8) (n := 8) ug9 inX4 (hts _ (tb_mem (tb1 41 (by decide +kernel))))
  obtain ⟨k5, i5, h5⟩ := u_known (C := RX5) (T := TX5) (N := 2) (n := 2) ug9 inX5 (hts _ (tb_mem (tb1 26 (by decide +kernel))))
  obtain ⟨k6, i6, h6⟩ := u_known (C := RX6) (T := TX6) (N := 13) (n := 13) ug9 inX6 (hts _ (tb_mem (tb1 18 (by decide +kernel))))
  obtain ⟨a0, p0, r0⟩ := arr_of (fun C z => by cases z) (hts (Cond.arrayClass .int) (tb_mem (tb1 39 (by decide +kernel))))
  obtain ⟨a1, p1, r1⟩ := arr_of (fun C z => by cases z) (hts (Cond.arrayClass .boolean) (tb_mem (tb1 159 (by decide +kernel))))
  obtain ⟨a2, p2, r2⟩ := arr_of (fun C z => by cases z) (hts (Cond.arrayClass .byte) (tb_mem (tb2 101 (by decide +kernel))))
  obtain ⟨a3, p3, r3⟩ := arr_ov (hts (Cond.arrayOver (.object RX4)) (tb_mem (tb1 101 (by decide +kernel))))
  refine ⟨(fun k => match k with | 0 => k0 | 1 => k1 | 2 => k2 | 3 => k3 | 4 => k4 | 5 => k5 | _ => k6, fun k => match k with | 0 => i0 | 1 => i1 | 2 => i2 | 3 => i3 | 4 => i4 | 5 => i5 | _ => i6), fun k => match k with | 0 => a0 | 1 => a1 | 2 => a2 | _ => a3, fun c q hq => ?_, fun k q hq => ?_⟩
  · match c, hq with
    | 0, hq => cases hq; exact h0
    | 1, hq => cases hq; exact h1
    | 2, hq => cases hq; exact h2
    | 3, hq => cases hq; exact h3
    | 4, hq => cases hq; exact h4
    | 5, hq => cases hq; exact h5
    | 6, hq => cases hq; exact h6
    | c + 7, hq => simp [classes] at hq
  · match k, hq with
    | 0, hq => cases hq; exact ⟨p0, r0⟩
    | 1, hq => cases hq; exact ⟨p1, r1⟩
    | 2, hq => cases hq; exact ⟨p2, r2⟩
    | 3, hq => cases hq; exact ⟨p3, r3⟩
    | k + 4, hq => simp [tysL] at hq
end ST
