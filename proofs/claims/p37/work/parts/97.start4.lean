/-! THE LAW: from its entry. Printed by wip/p37/gen/mkend.py. -/
theorem lawStart {p : Program} {e : Env} {s : State} {m : MethodId} {below : List Frame} {meth : Method} {c : Code} (l : Launch) (hst : l.stackTraces = false) {b L : Nat} {xs : Nat → Int32} (hL : L ≤ 3072) (hx : p.tables.exec = Jvm.exec) (hb : c.code = code) (hr : meth.sig.returnType = some .boolean) (hml : c.maxLocals = 8) (hown : s.vm.findClass RL = some m.cls) (hts : ∀ w ∈ lw_tbl, w.before #[Value.ref b] s = true) (hX : va_X b L xs s s.heap) (hbl : b < s.heap.size) (hlocks : meth.locks = false) (hn : narrow_1.before #[Value.ref b] s = true) {Q : State → Prop}
    (hQ : ∀ (H : Heap) (ls : Array Slot), W p l e room_1 s m #[Value.ref b] below meth c H [] 600086 7301442 Q (F0 m 201 ls [.int 1])) : W p l e room_1 s m #[Value.ref b] below meth c s.heap [] 0 0 Q (entryFrame m ([Value.ref b] : List Value).toArray 8) := by
  obtain ⟨D, cT, hK⟩ := st_K hts
  have hA : ∀ q : Nat, s.heap.size ≤ q → (fun q : Nat => s.heap.size ≤ q) q := fun _ h => h
  have hl := lv_entry ([.ref b]) (n := 8) (Nat.le_of_ble_eq_true rfl)
  rw [lg_entry_eq]
  refine lawHead (X := ((p, l, e, room_1), (s, m, #[Value.ref b], below), (meth, c, 8), (D, cT, fun _ => b), (fun q => s.heap.size ≤ q), Q)) (b := b) (L := L) (xs := xs) ⟨va_AO.of (hts _ (tb_mem (tb1 101 (by decide +kernel)))), fun ad2 _ => ⟨hx, hb, hml, hown, fun w h => hts w (List.mem_filter.mp h).1, hK, hA, hlocks, st_W hts, rfl, hr, fun H locs g k => ?_⟩⟩ ⟨hst, ⟨st_N hts, st_X hts hn, st_C hn⟩, st_Z hts hn⟩ rfl ⟨rfl, hX, hbl, fun _ h => h⟩ hL hst ?_ s.heap [] _ ?_ ?_ va_S.rf (lv_mono hl fun q hq => ?_)
  · intro T hT X9
    obtain ⟨t, a1, o, b1, b2, ⟨⟨v, M', -, h, -⟩, -⟩, -⟩ := k T hT X9
    exact h.elim
  · intro ad2 Lc M H locs ls hP hD hS hl9
    have q := va_forget hS.2.2 (hQ H ls)
    show W p l e room_1 s m #[Value.ref b] below meth c H locs 600086 7301442 Q (F0 m 201 ls [Value.int (Int32.ofInt 1)])
    rw [show Int32.ofInt 1 = 1 from rfl]
    exact q
  · intro k q h; simp [cw] at h
  · exact ⟨fun i j p q h => by simp [cw] at h, fun k q h => by simp [cw] at h⟩
  · obtain ⟨v, h1, h2⟩ := lA_mem.mp hq
    obtain ⟨q1, q2⟩ := q
    dsimp only at h1 h2
    match q1, h1 with
    | 0, h1 =>
      have h3 : some (some (Value.ref 4095)) = some (some v) := h1
      cases h3
      rw [h2]
      exact List.mem_cons_self
    | 1, h1 => exact absurd (show some (none : Option Value) = some (some v) from h1) (by simp)
    | 2, h1 => exact absurd (show some (none : Option Value) = some (some v) from h1) (by simp)
    | 3, h1 => exact absurd (show some (none : Option Value) = some (some v) from h1) (by simp)
    | 4, h1 => exact absurd (show some (none : Option Value) = some (some v) from h1) (by simp)
    | 5, h1 => exact absurd (show some (none : Option Value) = some (some v) from h1) (by simp)
    | 6, h1 => exact absurd (show some (none : Option Value) = some (some v) from h1) (by simp)
    | 7, h1 => exact absurd (show some (none : Option Value) = some (some v) from h1) (by simp)
    | k + 8, h1 => simp at h1
