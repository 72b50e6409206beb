/-! RULES of the layer: an instruction, a row. -/
section RU
variable {X : Cx} {cc : ByteArray} {own : String} {ret : Option FieldType} {rm : Room} {post : Option Value → List va_E → Prop} {mc ms kc ks pc : Nat} {L : List (Option Value)} {st : List Value} {M : List va_E}
/-- fewer rows below: a step that touches the stack alone -/
theorem a_pure (ok : OK X cc own ret rm post mc ms) {pc' : Nat} {st' : List Value} (k : AW X kc ks pc' L st' M)
    (h : ∀ {p : Program} {l : Launch} {e : Env} {R : Room} {s : State} {m : MethodId} {args : Array Value} {below : List Frame} {meth : Method} {c : Code} {H : Heap} {locs : List Loc} {Q : State → Prop} {ls : Array Slot} {nL : Nat} {ad : Nat → Nat},
      p.tables.exec = Jvm.exec → c.code = cc → s.vm.findClass own = some m.cls → (∀ w ∈ UG, w.before args s = true) → lv_has ls nL (lA ad L) → W p l e R s m args below meth c H locs kc ks Q (F0 m pc' ls (st'.map (cv ad))) → W p l e R s m args below meth c H locs kc ks Q (F0 m pc ls (st.map (cv ad)))) : AW X kc ks pc L st M := by
  obtain ⟨⟨p, l, e, R⟩, ⟨s, m, args, below⟩, ⟨meth, c, nL⟩, ⟨D, cT, ad⟩, A, Q⟩ := X
  obtain ⟨hx, hb, -, ho, hts, -⟩ := ok
  intro H locs ls hP hD hS hl
  exact h hx hb ho hts hl (k H locs ls hP hD hS hl)
theorem a_iconst (ok : OK X cc own ret rm post mc ms) {n : Int} (hd : decode cc pc = .ok (.iconst n, 1)) (k : AW X kc ks (pc + 1) L (iv n :: st) M) : AW X kc ks pc L st M :=
  a_pure ok k fun hx hb _ _ _ w => lv_iconst hx hb hd rfl w
theorem a_bipush (ok : OK X cc own ret rm post mc ms) {n : Int} (hd : decode cc pc = .ok (.bipush n, 2)) (hv : (Int8.ofInt n).toInt32 = Int32.ofInt n) (k : AW X kc ks (pc + 2) L (iv n :: st) M) : AW X kc ks pc L st M :=
  a_pure ok k fun hx hb _ _ _ w => lv_bipush hx hb hd hv w
theorem a_sipush (ok : OK X cc own ret rm post mc ms) {n : Int} (hd : decode cc pc = .ok (.sipush n, 3)) (hv : (Int16.ofInt n).toInt32 = Int32.ofInt n) (k : AW X kc ks (pc + 3) L (iv n :: st) M) : AW X kc ks pc L st M :=
  a_pure ok k fun hx hb _ _ _ w => lv_sipush hx hb hd hv w
theorem a_lconst (ok : OK X cc own ret rm post mc ms) {n : Fin 2} {z : Int} (hd : decode cc pc = .ok (.lconst n, 1)) (hz : ((n : Nat) : Int) = z) (k : AW X kc ks (pc + 1) L (jv z :: st) M) : AW X kc ks pc L st M :=
  a_pure ok k fun hx hb _ _ _ w => lv_lconst hx hb hd (by rw [← hz, Int64.ofInt_eq_ofNat]) w
theorem a_ldc (ok : OK X cc own ret rm post mc ms) {i : Nat} {v : Int32} {z : Int} (hd : decode cc pc = .ok (.ldc i, 2)) (hw : Cond.constant own i v ∈ UG) (hz : Int32.ofInt z = v) (k : AW X kc ks (pc + 2) L (iv z :: st) M) : AW X kc ks pc L st M :=
  a_pure ok k fun hx hb ho hts _ w => lv_ldc hx hb ho (hts _ hw) hd (by rw [← hz]; exact w)
theorem a_ldcw (ok : OK X cc own ret rm post mc ms) {i : Nat} {v : Int32} {z : Int} (hd : decode cc pc = .ok (.ldc_w i, 3)) (hw : Cond.constant own i v ∈ UG) (hz : Int32.ofInt z = v) (k : AW X kc ks (pc + 3) L (iv z :: st) M) : AW X kc ks pc L st M :=
  a_pure ok k fun hx hb ho hts _ w => lv_ldcw hx hb ho (hts _ hw) hd (by rw [← hz]; exact w)
theorem a_ldc2 (ok : OK X cc own ret rm post mc ms) {i : Nat} {v : Int64} {z : Int} (hd : decode cc pc = .ok (.ldc2_w i, 3)) (hw : Cond.constantLong own i v ∈ UG) (hz : Int64.ofInt z = v) (k : AW X kc ks (pc + 3) L (jv z :: st) M) : AW X kc ks pc L st M :=
  a_pure ok k fun hx hb ho hts _ w => lv_ldc2 hx hb ho (hts _ hw) hd (by rw [← hz]; exact w)
theorem a_iload_n (ok : OK X cc own ret rm post mc ms) {i : Fin 4} {x : Int32} (hd : decode cc pc = .ok (.iload_n i, 1)) (hl : L[(i : Nat)]? = some (some (.int x))) (k : AW X kc ks (pc + 1) L (.int x :: st) M) : AW X kc ks pc L st M :=
  a_pure ok k fun hx hb _ _ h w => lv_iload_n hx hb hd rfl (lA_get h hl) w
theorem a_iload (ok : OK X cc own ret rm post mc ms) {i : Nat} {x : Int32} (hd : decode cc pc = .ok (.iload i, 2)) (hl : L[i]? = some (some (.int x))) (k : AW X kc ks (pc + 2) L (.int x :: st) M) : AW X kc ks pc L st M :=
  a_pure ok k fun hx hb _ _ h w => lv_iload hx hb hd (lA_get h hl) w
theorem a_lload_n (ok : OK X cc own ret rm post mc ms) {i : Fin 4} {x : Int64} (hd : decode cc pc = .ok (.lload_n i, 1)) (hl : L[(i : Nat)]? = some (some (.long x))) (k : AW X kc ks (pc + 1) L (.long x :: st) M) : AW X kc ks pc L st M :=
  a_pure ok k fun hx hb _ _ h w => lv_lload_n hx hb hd rfl (lA_get h hl) w
theorem a_lload (ok : OK X cc own ret rm post mc ms) {i : Nat} {x : Int64} (hd : decode cc pc = .ok (.lload i, 2)) (hl : L[i]? = some (some (.long x))) (k : AW X kc ks (pc + 2) L (.long x :: st) M) : AW X kc ks pc L st M :=
  a_pure ok k fun hx hb _ _ h w => lv_lload hx hb hd (lA_get h hl) w
theorem a_aload_n (ok : OK X cc own ret rm post mc ms) {i : Fin 4} {x : Nat} (hd : decode cc pc = .ok (.aload_n i, 1)) (hl : L[(i : Nat)]? = some (some (.ref x))) (k : AW X kc ks (pc + 1) L (.ref x :: st) M) : AW X kc ks pc L st M :=
  a_pure ok k fun hx hb _ _ h w => lv_aload_n hx hb hd rfl (lA_get h hl) w
theorem a_aload (ok : OK X cc own ret rm post mc ms) {i : Nat} {x : Nat} (hd : decode cc pc = .ok (.aload i, 2)) (hl : L[i]? = some (some (.ref x))) (k : AW X kc ks (pc + 2) L (.ref x :: st) M) : AW X kc ks pc L st M :=
  a_pure ok k fun hx hb _ _ h w => lv_aload hx hb hd (lA_get h hl) w
theorem a_iadd (ok : OK X cc own ret rm post mc ms) {a b : Int} (hd : decode cc pc = .ok (.iadd, 1)) (k : AW X kc ks (pc + 1) L (iv (a + b) :: st) M) : AW X kc ks pc L (iv b :: iv a :: st) M :=
  a_pure ok k fun hx hb _ _ _ w => lv_iadd hx hb hd (by rw [← Int32.ofInt_add]; exact w)
theorem a_isub (ok : OK X cc own ret rm post mc ms) {a b : Int} (hd : decode cc pc = .ok (.isub, 1)) (k : AW X kc ks (pc + 1) L (iv (a - b) :: st) M) : AW X kc ks pc L (iv b :: iv a :: st) M :=
  a_pure ok k fun hx hb _ _ _ w => lv_isub hx hb hd (by rw [← Int32.ofInt_sub]; exact w)
theorem a_imul (ok : OK X cc own ret rm post mc ms) {a b : Int} (hd : decode cc pc = .ok (.imul, 1)) (k : AW X kc ks (pc + 1) L (iv (a * b) :: st) M) : AW X kc ks pc L (iv b :: iv a :: st) M :=
  a_pure ok k fun hx hb _ _ _ w => lv_imul hx hb hd (by rw [← Int32.ofInt_mul]; exact w)
theorem a_ineg (ok : OK X cc own ret rm post mc ms) {a : Int} (hd : decode cc pc = .ok (.ineg, 1)) (k : AW X kc ks (pc + 1) L (iv (-a) :: st) M) : AW X kc ks pc L (iv a :: st) M :=
  a_pure ok k fun hx hb _ _ _ w => lv_ineg hx hb hd (by rw [← Int32.ofInt_neg]; exact w)
theorem r_toInt {a : Int} (h : rg a) : (Int32.ofInt a).toInt = a := Int32.toInt_ofInt_of_le h.1 h.2
theorem r_inj {a b : Int} (ha : rg a) (hb : rg b) : Int32.ofInt a = Int32.ofInt b ↔ a = b :=
  ⟨fun h => by rw [← r_toInt ha, ← r_toInt hb, h], fun h => by rw [h]⟩
theorem r_lt {a b : Int} (ha : rg a) (hb : rg b) : Int32.ofInt a < Int32.ofInt b ↔ a < b := by rw [Int32.lt_iff_toInt_lt, r_toInt ha, r_toInt hb]
theorem r_le {a b : Int} (ha : rg a) (hb : rg b) : Int32.ofInt a ≤ Int32.ofInt b ↔ a ≤ b := by rw [Int32.le_iff_toInt_le, r_toInt ha, r_toInt hb]
theorem r_0 : rg 0 := ⟨by decide, by decide⟩
theorem r_z {a : Int} (ha : rg a) : Int32.ofInt a = 0 ↔ a = 0 := r_inj ha r_0
theorem r_div {a b : Int} (ha : 0 ≤ a ∧ a < 2147483648) (hb : 0 < b ∧ b < 2147483648) : Int32.ofInt a / Int32.ofInt b = Int32.ofInt (a / b) := by
  rw [← Int.tdiv_eq_ediv_of_nonneg ha.1, Int32.ofInt_tdiv (by have := ha.1; show (-2147483648 : Int) ≤ a; omega) (by have := ha.2; show a ≤ (2147483647 : Int); omega) (by have := hb.1; show (-2147483648 : Int) ≤ b; omega) (by have := hb.2; show b ≤ (2147483647 : Int); omega)]
theorem r_rem {a b : Int} (ha : 0 ≤ a ∧ a < 2147483648) (hb : 0 < b ∧ b < 2147483648) : Int32.ofInt a - Int32.ofInt a / Int32.ofInt b * Int32.ofInt b = Int32.ofInt (a % b) := by
  rw [r_div ha hb, ← Int32.ofInt_mul, ← Int32.ofInt_sub]
  congr 1
  have := Int.mul_ediv_add_emod a b
  rw [Int.mul_comm]
  omega
theorem a_idiv (ok : OK X cc own ret rm post mc ms) {a b : Int} (hd : decode cc pc = .ok (.idiv, 1)) (ha : 0 ≤ a ∧ a < 2147483648) (hb : 0 < b ∧ b < 2147483648) (k : AW X kc ks (pc + 1) L (iv (a / b) :: st) M) : AW X kc ks pc L (iv b :: iv a :: st) M :=
  a_pure ok k fun hx hb' _ _ _ w => lv_idiv hx hb' hd (fun h => by have := (r_z ⟨by omega, hb.2⟩).mp h; omega) (by rw [r_div ha hb]; exact w)
theorem a_irem (ok : OK X cc own ret rm post mc ms) {a b : Int} (hd : decode cc pc = .ok (.irem, 1)) (ha : 0 ≤ a ∧ a < 2147483648) (hb : 0 < b ∧ b < 2147483648) (k : AW X kc ks (pc + 1) L (iv (a % b) :: st) M) : AW X kc ks pc L (iv b :: iv a :: st) M :=
  a_pure ok k fun hx hb' _ _ _ w => lv_irem hx hb' hd (fun h => by have := (r_z ⟨by omega, hb.2⟩).mp h; omega) (by rw [r_rem ha hb]; exact w)
theorem a_ladd (ok : OK X cc own ret rm post mc ms) {a b : Int} (hd : decode cc pc = .ok (.ladd, 1)) (k : AW X kc ks (pc + 1) L (jv (a + b) :: st) M) : AW X kc ks pc L (jv b :: jv a :: st) M :=
  a_pure ok k fun hx hb _ _ _ w => lv_ladd hx hb hd (by rw [← Int64.ofInt_add]; exact w)
theorem a_lsub (ok : OK X cc own ret rm post mc ms) {a b : Int} (hd : decode cc pc = .ok (.lsub, 1)) (k : AW X kc ks (pc + 1) L (jv (a - b) :: st) M) : AW X kc ks pc L (jv b :: jv a :: st) M :=
  a_pure ok k fun hx hb _ _ _ w => lv_lsub hx hb hd (by rw [← Int64.ofInt_sub]; exact w)
theorem a_lmul (ok : OK X cc own ret rm post mc ms) {a b : Int} (hd : decode cc pc = .ok (.lmul, 1)) (k : AW X kc ks (pc + 1) L (jv (a * b) :: st) M) : AW X kc ks pc L (jv b :: jv a :: st) M :=
  a_pure ok k fun hx hb _ _ _ w => lv_lmul hx hb hd (by rw [← Int64.ofInt_mul]; exact w)
theorem q_toInt {a : Int} (h : rgL a) : (Int64.ofInt a).toInt = a := Int64.toInt_ofInt_of_le h.1 h.2
theorem q_inj {a b : Int} (ha : rgL a) (hb : rgL b) : Int64.ofInt a = Int64.ofInt b ↔ a = b :=
  ⟨fun h => by rw [← q_toInt ha, ← q_toInt hb, h], fun h => by rw [h]⟩
theorem q_lt {a b : Int} (ha : rgL a) (hb : rgL b) : Int64.ofInt a < Int64.ofInt b ↔ a < b := by rw [Int64.lt_iff_toInt_lt, q_toInt ha, q_toInt hb]
theorem q_0 : rgL 0 := ⟨by decide, by decide⟩
theorem q_z {a : Int} (ha : rgL a) : Int64.ofInt a = 0 ↔ a = 0 := q_inj ha q_0
theorem q_div {a b : Int} (ha : 0 ≤ a ∧ a < 9223372036854775808) (hb : 0 < b ∧ b < 9223372036854775808) : Int64.ofInt a / Int64.ofInt b = Int64.ofInt (a / b) := by
  rw [← Int.tdiv_eq_ediv_of_nonneg ha.1, Int64.ofInt_tdiv (by have := ha.1; show (-9223372036854775808 : Int) ≤ a; omega) (by have := ha.2; show a ≤ (9223372036854775807 : Int); omega) (by have := hb.1; show (-9223372036854775808 : Int) ≤ b; omega) (by have := hb.2; show b ≤ (9223372036854775807 : Int); omega)]
theorem q_rem {a b : Int} (ha : 0 ≤ a ∧ a < 9223372036854775808) (hb : 0 < b ∧ b < 9223372036854775808) : Int64.ofInt a - Int64.ofInt a / Int64.ofInt b * Int64.ofInt b = Int64.ofInt (a % b) := by
  rw [q_div ha hb, ← Int64.ofInt_mul, ← Int64.ofInt_sub]
  congr 1
  have := Int.mul_ediv_add_emod a b
  rw [Int.mul_comm]
  omega
theorem a_ldiv (ok : OK X cc own ret rm post mc ms) {a b : Int} (hd : decode cc pc = .ok (.ldiv, 1)) (ha : 0 ≤ a ∧ a < 9223372036854775808) (hb : 0 < b ∧ b < 9223372036854775808) (k : AW X kc ks (pc + 1) L (jv (a / b) :: st) M) : AW X kc ks pc L (jv b :: jv a :: st) M :=
  a_pure ok k fun hx hb' _ _ _ w => lv_ldiv hx hb' hd (fun h => by have := (q_z ⟨by omega, hb.2⟩).mp h; omega) (by rw [q_div ha hb]; exact w)
theorem a_lrem (ok : OK X cc own ret rm post mc ms) {a b : Int} (hd : decode cc pc = .ok (.lrem, 1)) (ha : 0 ≤ a ∧ a < 9223372036854775808) (hb : 0 < b ∧ b < 9223372036854775808) (k : AW X kc ks (pc + 1) L (jv (a % b) :: st) M) : AW X kc ks pc L (jv b :: jv a :: st) M :=
  a_pure ok k fun hx hb' _ _ _ w => lv_lrem hx hb' hd (fun h => by have := (q_z ⟨by omega, hb.2⟩).mp h; omega) (by rw [q_rem ha hb]; exact w)
theorem a_i2l (ok : OK X cc own ret rm post mc ms) {a : Int} (hd : decode cc pc = .ok (.i2l, 1)) (ha : rg a) (k : AW X kc ks (pc + 1) L (jv a :: st) M) : AW X kc ks pc L (iv a :: st) M :=
  a_pure ok k fun hx hb _ _ _ w => lv_i2l hx hb hd (Int32.toInt64_ofInt (by exact ha.1) (by have := ha.2; show a ≤ (2147483647 : Int); omega)) w
theorem a_l2i (ok : OK X cc own ret rm post mc ms) {a : Int} (hd : decode cc pc = .ok (.l2i, 1)) (k : AW X kc ks (pc + 1) L (iv a :: st) M) : AW X kc ks pc L (jv a :: st) M :=
  a_pure ok k fun hx hb _ _ _ w => lv_l2i hx hb hd Int64.toInt32_ofInt w
/-- (int) (x >>> 33) -/
def sh33 (x : Int) : Int := (((Int64.ofInt x).toUInt64 >>> ((Int32.ofInt 33).toInt64.toUInt64 &&& Int64.toUInt64 63)).toInt64).toInt
theorem a_lushr33 (ok : OK X cc own ret rm post mc ms) {a : Int} (hd : decode cc pc = .ok (.lushr, 1)) (k : AW X kc ks (pc + 1) L (jv (sh33 a) :: st) M) : AW X kc ks pc L (iv 33 :: jv a :: st) M :=
  a_pure ok k fun hx hb _ _ _ w => lv_lushr hx hb hd (by unfold sh33; rw [Int64.ofInt_toInt]) w
theorem a_lcmp (ok : OK X cc own ret rm post mc ms) {a b : Int} (hd : decode cc pc = .ok (.lcmp, 1)) (ha : rgL a) (hb : rgL b) (k1 : a < b → AW X kc ks (pc + 1) L (iv (-1) :: st) M) (k2 : a = b → AW X kc ks (pc + 1) L (iv 0 :: st) M) (k3 : b < a → AW X kc ks (pc + 1) L (iv 1 :: st) M) : AW X kc ks pc L (jv b :: jv a :: st) M := by
  rcases (show a < b ∨ a = b ∨ b < a by omega) with h | h | h
  · refine a_pure ok (k1 h) fun hx hb' _ _ _ w => W.lcmp hx hb' hd ?_
    have h1 : ¬ Int64.ofInt b < Int64.ofInt a := fun z => by have := (q_lt hb ha).mp z; omega
    have h2 : ¬ Int64.ofInt a = Int64.ofInt b := fun z => by have := (q_inj ha hb).mp z; omega
    rw [show lg_cmp (Int64.ofInt a) (Int64.ofInt b) = Int32.ofInt (-1) from by unfold lg_cmp; rw [if_neg h1, if_neg h2]; rfl]
    exact w
  · refine a_pure ok (k2 h) fun hx hb' _ _ _ w => W.lcmp hx hb' hd ?_
    have h1 : ¬ Int64.ofInt b < Int64.ofInt a := fun z => by have := (q_lt hb ha).mp z; omega
    have h2 : Int64.ofInt a = Int64.ofInt b := (q_inj ha hb).mpr h
    rw [show lg_cmp (Int64.ofInt a) (Int64.ofInt b) = Int32.ofInt 0 from by unfold lg_cmp; rw [if_neg h1, if_pos h2]; rfl]
    exact w
  · refine a_pure ok (k3 h) fun hx hb' _ _ _ w => W.lcmp hx hb' hd ?_
    have h1 : Int64.ofInt b < Int64.ofInt a := (q_lt hb ha).mpr h
    rw [show lg_cmp (Int64.ofInt a) (Int64.ofInt b) = Int32.ofInt 1 from by unfold lg_cmp; rw [if_pos h1]; rfl]
    exact w
theorem a_dup (ok : OK X cc own ret rm post mc ms) {v : Value} (hd : decode cc pc = .ok (.dup, 1)) (hv : v.category = 1) (k : AW X kc ks (pc + 1) L (v :: v :: st) M) : AW X kc ks pc L (v :: st) M :=
  a_pure ok k fun hx hb _ _ _ w => lv_dup hx hb hd (by rw [cv_cat]; exact hv) w
theorem a_dup_x1 (ok : OK X cc own ret rm post mc ms) {v u : Value} (hd : decode cc pc = .ok (.dup_x1, 1)) (hv : v.category = 1) (hu : u.category = 1) (k : AW X kc ks (pc + 1) L (v :: u :: v :: st) M) : AW X kc ks pc L (v :: u :: st) M :=
  a_pure ok k fun hx hb _ _ _ w => lv_dup_x1 hx hb hd (by rw [cv_cat]; exact hv) (by rw [cv_cat]; exact hu) w
theorem a_dup2 (ok : OK X cc own ret rm post mc ms) {v u : Value} (hd : decode cc pc = .ok (.dup2, 1)) (hv : v.category = 1) (hu : u.category = 1) (k : AW X kc ks (pc + 1) L (v :: u :: v :: u :: st) M) : AW X kc ks pc L (v :: u :: st) M :=
  a_pure ok k fun hx hb _ _ _ w => lv_dup2_11 hx hb hd (by rw [cv_cat]; exact hv) (by rw [cv_cat]; exact hu) w
theorem a_pop (ok : OK X cc own ret rm post mc ms) {v : Value} (hd : decode cc pc = .ok (.pop, 1)) (hv : v.category = 1) (k : AW X kc ks (pc + 1) L st M) : AW X kc ks pc L (v :: st) M :=
  a_pure ok k fun hx hb _ _ _ w => lv_pop hx hb hd (by rw [cv_cat]; exact hv) w
theorem a_goto (ok : OK X cc own ret rm post mc ms) {off : Int} {tgt : Nat} (hd : decode cc pc = .ok (.goto off, 3)) (ht : (pc : Int) + off = (tgt : Int)) (k : AW X kc ks tgt L st M) : AW X kc ks pc L st M :=
  a_pure ok k fun hx hb _ _ _ w => lv_goto hx hb hd ht w
theorem a_icmp_eq (ok : OK X cc own ret rm post mc ms) {a b off : Int} {tgt : Nat} (hd : decode cc pc = .ok (.if_icmp .eq off, 3)) (ht : (pc : Int) + off = (tgt : Int)) (ra : rg a) (rb : rg b) (kt : a = b → AW X kc ks tgt L st M) (kf : ¬ a = b → AW X kc ks (pc + 3) L st M) : AW X kc ks pc L (iv b :: iv a :: st) M := by
  by_cases h : a = b
  · exact a_pure ok (kt h) fun hx hb _ _ _ w => lv_icmp_eq hx hb hd ht (fun _ => w) (fun z => absurd ((r_inj ra rb).mpr h) z)
  · exact a_pure ok (kf h) fun hx hb _ _ _ w => lv_icmp_eq hx hb hd ht (fun z => absurd ((r_inj ra rb).mp z) h) (fun _ => w)
theorem a_if_eq (ok : OK X cc own ret rm post mc ms) {a off : Int} {tgt : Nat} (hd : decode cc pc = .ok (.ifCond .eq off, 3)) (ht : (pc : Int) + off = (tgt : Int)) (ra : rg a) (kt : a = 0 → AW X kc ks tgt L st M) (kf : ¬ a = 0 → AW X kc ks (pc + 3) L st M) : AW X kc ks pc L (iv a :: st) M := by
  by_cases h : a = 0
  · exact a_pure ok (kt h) fun hx hb _ _ _ w => lv_if_eq hx hb hd ht (fun _ => w) (fun z => absurd ((r_z ra).mpr h) z)
  · exact a_pure ok (kf h) fun hx hb _ _ _ w => lv_if_eq hx hb hd ht (fun z => absurd ((r_z ra).mp z) h) (fun _ => w)
theorem a_icmp_ne (ok : OK X cc own ret rm post mc ms) {a b off : Int} {tgt : Nat} (hd : decode cc pc = .ok (.if_icmp .ne off, 3)) (ht : (pc : Int) + off = (tgt : Int)) (ra : rg a) (rb : rg b) (kt : ¬ a = b → AW X kc ks tgt L st M) (kf : a = b → AW X kc ks (pc + 3) L st M) : AW X kc ks pc L (iv b :: iv a :: st) M := by
  by_cases h : a = b
  · exact a_pure ok (kf h) fun hx hb _ _ _ w => lv_icmp_ne hx hb hd ht (fun z => absurd ((r_inj ra rb).mpr h) z) (fun _ => w)
  · exact a_pure ok (kt h) fun hx hb _ _ _ w => lv_icmp_ne hx hb hd ht (fun _ => w) (fun z => absurd ((r_inj ra rb).mp z) h)
theorem a_if_ne (ok : OK X cc own ret rm post mc ms) {a off : Int} {tgt : Nat} (hd : decode cc pc = .ok (.ifCond .ne off, 3)) (ht : (pc : Int) + off = (tgt : Int)) (ra : rg a) (kt : ¬ a = 0 → AW X kc ks tgt L st M) (kf : a = 0 → AW X kc ks (pc + 3) L st M) : AW X kc ks pc L (iv a :: st) M := by
  by_cases h : a = 0
  · exact a_pure ok (kf h) fun hx hb _ _ _ w => lv_if_ne hx hb hd ht (fun z => absurd ((r_z ra).mpr h) z) (fun _ => w)
  · exact a_pure ok (kt h) fun hx hb _ _ _ w => lv_if_ne hx hb hd ht (fun _ => w) (fun z => absurd ((r_z ra).mp z) h)
theorem a_icmp_lt (ok : OK X cc own ret rm post mc ms) {a b off : Int} {tgt : Nat} (hd : decode cc pc = .ok (.if_icmp .lt off, 3)) (ht : (pc : Int) + off = (tgt : Int)) (ra : rg a) (rb : rg b) (kt : a < b → AW X kc ks tgt L st M) (kf : ¬ a < b → AW X kc ks (pc + 3) L st M) : AW X kc ks pc L (iv b :: iv a :: st) M := by
  by_cases h : a < b
  · exact a_pure ok (kt h) fun hx hb _ _ _ w => lv_icmp_lt hx hb hd ht (fun _ => w) (fun z => absurd ((r_lt ra rb).mpr h) z)
  · exact a_pure ok (kf h) fun hx hb _ _ _ w => lv_icmp_lt hx hb hd ht (fun z => absurd ((r_lt ra rb).mp z) h) (fun _ => w)
theorem a_if_lt (ok : OK X cc own ret rm post mc ms) {a off : Int} {tgt : Nat} (hd : decode cc pc = .ok (.ifCond .lt off, 3)) (ht : (pc : Int) + off = (tgt : Int)) (ra : rg a) (kt : a < 0 → AW X kc ks tgt L st M) (kf : ¬ a < 0 → AW X kc ks (pc + 3) L st M) : AW X kc ks pc L (iv a :: st) M := by
  by_cases h : a < 0
  · exact a_pure ok (kt h) fun hx hb _ _ _ w => lv_if_lt hx hb hd ht (fun _ => w) (fun z => absurd ((r_lt ra r_0).mpr h) z)
  · exact a_pure ok (kf h) fun hx hb _ _ _ w => lv_if_lt hx hb hd ht (fun z => absurd ((r_lt ra r_0).mp z) h) (fun _ => w)
theorem a_icmp_ge (ok : OK X cc own ret rm post mc ms) {a b off : Int} {tgt : Nat} (hd : decode cc pc = .ok (.if_icmp .ge off, 3)) (ht : (pc : Int) + off = (tgt : Int)) (ra : rg a) (rb : rg b) (kt : b ≤ a → AW X kc ks tgt L st M) (kf : ¬ b ≤ a → AW X kc ks (pc + 3) L st M) : AW X kc ks pc L (iv b :: iv a :: st) M := by
  by_cases h : b ≤ a
  · exact a_pure ok (kt h) fun hx hb _ _ _ w => lv_icmp_ge hx hb hd ht (fun _ => w) (fun z => absurd ((r_le rb ra).mpr h) z)
  · exact a_pure ok (kf h) fun hx hb _ _ _ w => lv_icmp_ge hx hb hd ht (fun z => absurd ((r_le rb ra).mp z) h) (fun _ => w)
theorem a_if_ge (ok : OK X cc own ret rm post mc ms) {a off : Int} {tgt : Nat} (hd : decode cc pc = .ok (.ifCond .ge off, 3)) (ht : (pc : Int) + off = (tgt : Int)) (ra : rg a) (kt : 0 ≤ a → AW X kc ks tgt L st M) (kf : ¬ 0 ≤ a → AW X kc ks (pc + 3) L st M) : AW X kc ks pc L (iv a :: st) M := by
  by_cases h : 0 ≤ a
  · exact a_pure ok (kt h) fun hx hb _ _ _ w => lv_if_ge hx hb hd ht (fun _ => w) (fun z => absurd ((r_le r_0 ra).mpr h) z)
  · exact a_pure ok (kf h) fun hx hb _ _ _ w => lv_if_ge hx hb hd ht (fun z => absurd ((r_le r_0 ra).mp z) h) (fun _ => w)
theorem a_icmp_gt (ok : OK X cc own ret rm post mc ms) {a b off : Int} {tgt : Nat} (hd : decode cc pc = .ok (.if_icmp .gt off, 3)) (ht : (pc : Int) + off = (tgt : Int)) (ra : rg a) (rb : rg b) (kt : b < a → AW X kc ks tgt L st M) (kf : ¬ b < a → AW X kc ks (pc + 3) L st M) : AW X kc ks pc L (iv b :: iv a :: st) M := by
  by_cases h : b < a
  · exact a_pure ok (kt h) fun hx hb _ _ _ w => lv_icmp_gt hx hb hd ht (fun _ => w) (fun z => absurd ((r_lt rb ra).mpr h) z)
  · exact a_pure ok (kf h) fun hx hb _ _ _ w => lv_icmp_gt hx hb hd ht (fun z => absurd ((r_lt rb ra).mp z) h) (fun _ => w)
theorem a_if_gt (ok : OK X cc own ret rm post mc ms) {a off : Int} {tgt : Nat} (hd : decode cc pc = .ok (.ifCond .gt off, 3)) (ht : (pc : Int) + off = (tgt : Int)) (ra : rg a) (kt : 0 < a → AW X kc ks tgt L st M) (kf : ¬ 0 < a → AW X kc ks (pc + 3) L st M) : AW X kc ks pc L (iv a :: st) M := by
  by_cases h : 0 < a
  · exact a_pure ok (kt h) fun hx hb _ _ _ w => lv_if_gt hx hb hd ht (fun _ => w) (fun z => absurd ((r_lt r_0 ra).mpr h) z)
  · exact a_pure ok (kf h) fun hx hb _ _ _ w => lv_if_gt hx hb hd ht (fun z => absurd ((r_lt r_0 ra).mp z) h) (fun _ => w)
theorem a_icmp_le (ok : OK X cc own ret rm post mc ms) {a b off : Int} {tgt : Nat} (hd : decode cc pc = .ok (.if_icmp .le off, 3)) (ht : (pc : Int) + off = (tgt : Int)) (ra : rg a) (rb : rg b) (kt : a ≤ b → AW X kc ks tgt L st M) (kf : ¬ a ≤ b → AW X kc ks (pc + 3) L st M) : AW X kc ks pc L (iv b :: iv a :: st) M := by
  by_cases h : a ≤ b
  · exact a_pure ok (kt h) fun hx hb _ _ _ w => lv_icmp_le hx hb hd ht (fun _ => w) (fun z => absurd ((r_le ra rb).mpr h) z)
  · exact a_pure ok (kf h) fun hx hb _ _ _ w => lv_icmp_le hx hb hd ht (fun z => absurd ((r_le ra rb).mp z) h) (fun _ => w)
theorem a_if_le (ok : OK X cc own ret rm post mc ms) {a off : Int} {tgt : Nat} (hd : decode cc pc = .ok (.ifCond .le off, 3)) (ht : (pc : Int) + off = (tgt : Int)) (ra : rg a) (kt : a ≤ 0 → AW X kc ks tgt L st M) (kf : ¬ a ≤ 0 → AW X kc ks (pc + 3) L st M) : AW X kc ks pc L (iv a :: st) M := by
  by_cases h : a ≤ 0
  · exact a_pure ok (kt h) fun hx hb _ _ _ w => lv_if_le hx hb hd ht (fun _ => w) (fun z => absurd ((r_le ra r_0).mpr h) z)
  · exact a_pure ok (kf h) fun hx hb _ _ _ w => lv_if_le hx hb hd ht (fun z => absurd ((r_le ra r_0).mp z) h) (fun _ => w)
theorem a_tableOut (ok : OK X cc own ret rm post mc ms) {dflt lo hi a : Int} {offs : Array Int} {len tgt : Nat} (hd : decode cc pc = .ok (.tableswitch dflt lo hi offs, len)) (ra : rg a) (h : a < lo ∨ hi < a) (ht : (pc : Int) + dflt = (tgt : Int)) (k : AW X kc ks tgt L st M) : AW X kc ks pc L (iv a :: st) M :=
  a_pure ok k fun hx hb _ _ _ w => lv_tableOut hx hb hd (by rw [r_toInt ra]; exact h) ht w
theorem a_tableIn (ok : OK X cc own ret rm post mc ms) {dflt lo hi a off : Int} {offs : Array Int} {len tgt : Nat} (hd : decode cc pc = .ok (.tableswitch dflt lo hi offs, len)) (ra : rg a) (h1 : lo ≤ a) (h2 : a ≤ hi) (ho : offs[(a - lo).toNat]? = some off) (ht : (pc : Int) + off = (tgt : Int)) (k : AW X kc ks tgt L st M) : AW X kc ks pc L (iv a :: st) M :=
  a_pure ok k fun hx hb _ _ _ w => lv_tableIn hx hb hd (by rw [r_toInt ra]; omega) (by rw [r_toInt ra]; omega) (by rw [r_toInt ra]; exact ho) ht w
theorem a_lookup (ok : OK X cc own ret rm post mc ms) {dflt a off : Int} {ps : Array (Int × Int)} {len tgt : Nat} (hd : decode cc pc = .ok (.lookupswitch dflt ps, len)) (ra : rg a) (hp : (ps.toList.zip (ps.toList.drop 1)).all (fun (a, next) => a.1 < next.1) = true) (ho : Op.lookupswitch.offset ps.toList dflt a = off) (ht : (pc : Int) + off = (tgt : Int)) (k : AW X kc ks tgt L st M) : AW X kc ks pc L (iv a :: st) M :=
  a_pure ok k fun hx hb _ _ _ w => lv_lookup hx hb hd hp (by rw [r_toInt ra]; exact ho) ht w
end RU
