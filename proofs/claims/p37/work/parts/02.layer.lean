/-! THE LAYER: worlds by places, numbers as Int. M : List va_E, an object is its place; 'ad' says where places lie. -/
def UG : List Cond := lw_tbl.filter goodWord
theorem ug (i : Nat) {w : Cond} (h : lw_tbl[i]? = some w) (g : goodWord w = true) : w ∈ UG := List.mem_filter.mpr ⟨List.mem_of_getElem? h, g⟩
theorem ug_good : ∀ w ∈ UG, w ∈ UG ∧ ((w.onTables && w.keeps) = true ∨ ∃ ty, w = .arrayClass ty) := fun w h => ⟨h, good_of_word (List.mem_filter.mp h).2⟩
theorem ug_goodIn {w : Cond} (h : w ∈ UG) : GoodIn UG (w :: UG) := fun x hx => by
  rcases List.mem_cons.mp hx with e | e
  · exact e ▸ ug_good w h
  · exact ug_good x e
/-- the words of nest mates: stable, but carried by hand -/
def isNest (w : Cond) : Bool := match w with | .fieldLinkNest .. => true | .methodLinkNest .. => true | _ => false
def nwL : List Cond := tables_1.filter isNest
def NW (U : State) : Prop := ∀ w ∈ nwL, va_Nw w U
theorem NW.moved {s U : State} (hW : s.WarmedH U.vm) (h : NW s) : NW U := by
  intro w hw
  have h1 := h w hw
  have h2 := (List.mem_filter.mp hw).2
  cases w <;> first | exact va_Nw.warmF hW h1 | exact va_Nw.warmM hW h1 | cases h2
theorem NW.same {s U : State} (hv : s.vm = U.vm) (h : NW s) : NW U := by
  intro w hw
  have h1 := h w hw
  have h2 := (List.mem_filter.mp hw).2
  refine va_Nw.same ?_ hv h1
  cases w <;> first | rfl | cases h2
abbrev iv (z : Int) : Value := .int (Int32.ofInt z)
abbrev jv (z : Int) : Value := .long (Int64.ofInt z)
def arr (f : Int → Int) : Nat → Int32 := fun j => Int32.ofInt (f (j : Int))
def arrL (f : Int → Int) : Nat → Int64 := fun j => Int64.ofInt (f (j : Int))
abbrev ia (n : Nat) (f : Int → Int) : va_E := .inl (0, n, .inl (arr f))
abbrev za (n : Nat) (f : Int → Int) : va_E := .inl (1, n, .inl (arr f))
abbrev la (n : Nat) (f : Int → Int) : va_E := .inl (2, n, .inr (.inl (arrL f)))
abbrev qa (n : Nat) (f : Nat → Option Nat) : va_E := .inl (3, n, .inr (.inr (.inr (.inr f))))
abbrev ob (ci : Nat) (fs : List Value) : va_E := .inr (ci, fs)
def up (f : Int → Int) (i v : Int) : Int → Int := fun j => if j = i then v else f j
def rg (z : Int) : Prop := -2147483648 ≤ z ∧ z < 2147483648
def rgL (z : Int) : Prop := -9223372036854775808 ≤ z ∧ z < 9223372036854775808
def tyOf : Nat → FieldType
  | 0 => .int
  | 1 => .boolean
  | 2 => .byte
  | _ => .object "BandEngraver$State"
abbrev tysL (cT : Nat → ClassId) : List (ClassId × FieldType) := [(cT 0, .int), (cT 1, .boolean), (cT 2, .byte), (cT 3, .object "BandEngraver$State")]
def cv (ad : Nat → Nat) : Value → Value
  | .ref k => .ref (ad k)
  | .int x => .int x
  | .long x => .long x
  | .float x => .float x
  | .double x => .double x
  | .null => .null
  | .retAddr x => .retAddr x
def cA (ad : Nat → Nat) : ((Nat → Int32) ⊕ (Nat → Int64) ⊕ (Nat → UInt32) ⊕ (Nat → UInt64) ⊕ (Nat → Option Nat)) → ((Nat → Int32) ⊕ (Nat → Int64) ⊕ (Nat → UInt32) ⊕ (Nat → UInt64) ⊕ (Nat → Option Nat))
  | .inl f => .inl f
  | .inr (.inl f) => .inr (.inl f)
  | .inr (.inr (.inl f)) => .inr (.inr (.inl f))
  | .inr (.inr (.inr (.inl f))) => .inr (.inr (.inr (.inl f)))
  | .inr (.inr (.inr (.inr f))) => .inr (.inr (.inr (.inr (fun i => (f i).map ad))))
def ce (cT : Nat → ClassId) (ad : Nat → Nat) : va_E → va_E
  | .inl (t, n, x) => .inl (cT t, n, cA ad x)
  | .inr (ci, fs) => .inr (ci, fs.map (cv ad))
def cw (cT : Nat → ClassId) (ad : Nat → Nat) (M : List va_E) : va_W := M.mapIdx (fun i e => (ad i, ce cT ad e))
theorem cw_get {cT : Nat → ClassId} {ad : Nat → Nat} {M : List va_E} {k : Nat} {e : va_E} (h : M[k]? = some e) : (cw cT ad M)[k]? = some (ad k, ce cT ad e) := by
  simp [cw, h]
theorem cw_inv {cT : Nat → ClassId} {ad : Nat → Nat} {M : List va_E} {k : Nat} {q : Nat × va_E} (h : (cw cT ad M)[k]? = some q) : ∃ e, M[k]? = some e ∧ q = (ad k, ce cT ad e) := by
  simp only [cw, List.getElem?_mapIdx, Option.map_eq_some_iff] at h
  obtain ⟨e, h1, h2⟩ := h
  exact ⟨e, h1, h2.symm⟩
theorem cw_set {cT : Nat → ClassId} {ad : Nat → Nat} (M : List va_E) (k : Nat) (e : va_E) : cw cT ad (M.set k e) = (cw cT ad M).set k (ad k, ce cT ad e) := by
  simp [cw, List.mapIdx_set]
def lA (ad : Nat → Nat) (L : List (Option Value)) : List (Nat × Value) := L.zipIdx.filterMap (fun q => q.1.map (fun v => (q.2, cv ad v)))
theorem lA_mem {ad : Nat → Nat} {L : List (Option Value)} {q : Nat × Value} : q ∈ lA ad L ↔ ∃ v, L[q.1]? = some (some v) ∧ q.2 = cv ad v := by
  simp only [lA, List.mem_filterMap]
  constructor
  · rintro ⟨⟨o, i⟩, h1, h2⟩
    rw [List.mem_zipIdx_iff_getElem?] at h1
    cases o with
    | none => cases h2
    | some v =>
      cases h2
      exact ⟨v, h1, rfl⟩
  · rintro ⟨v, h1, h2⟩
    refine ⟨(some v, q.1), ?_, ?_⟩
    · rw [List.mem_zipIdx_iff_getElem?]; exact h1
    · simp [← h2]
theorem lA_get {ad : Nat → Nat} {ls : Array Slot} {nL : Nat} {L : List (Option Value)} (h : lv_has ls nL (lA ad L)) {i : Nat} {v : Value} (hk : L[i]? = some (some v)) : ls[i]? = some (.val (cv ad v)) := h.2.2 (i, cv ad v) (lA_mem.mpr ⟨v, hk, rfl⟩)
theorem lv_mono {ls : Array Slot} {nL : Nat} {l l' : List (Nat × Value)} (h : lv_has ls nL l) (hs : ∀ q ∈ l', q ∈ l) : lv_has ls nL l' := ⟨h.1, h.2.1, fun q hq => h.2.2 q (hs q hq)⟩
/-- what stands ahead of the place i isn't a long -/
def lnl (L : List (Option Value)) (i : Nat) : Bool := match i with
  | 0 => true
  | j + 1 => match L[j]? with
    | some (some v) => v.category == 1
    | _ => true
theorem cv_cat (ad : Nat → Nat) (v : Value) : (cv ad v).category = v.category := by cases v <;> rfl
theorem lA_set {ad : Nat → Nat} {ls : Array Slot} {nL : Nat} {L : List (Option Value)} {i : Nat} {v : Value} (hn : lnl L i = true)
    (h : lv_has ls nL ((i, cv ad v) :: (lA ad L).filter (fun q => !(q.1 == i) && !(q.1 + 1 == i && q.2.category == 2)))) : lv_has ls nL (lA ad (L.set i (some v))) := by
  refine lv_mono h fun q hq => ?_
  obtain ⟨w, h1, h2⟩ := lA_mem.mp hq
  rw [List.getElem?_set] at h1
  by_cases e : i = q.1
  · rw [if_pos e] at h1
    split at h1
    · cases h1
      refine List.mem_cons.mpr (Or.inl ?_)
      rw [e, ← h2]
    · cases h1
  · rw [if_neg e] at h1
    refine List.mem_cons.mpr (Or.inr (List.mem_filter.mpr ⟨lA_mem.mpr ⟨w, h1, h2⟩, ?_⟩))
    have e1 : (q.1 == i) = false := by simpa using fun z => e z.symm
    have e2 : (q.1 + 1 == i && q.2.category == 2) = false := by
      by_cases z : q.1 + 1 = i
      · subst z
        simp only [lnl, h1] at hn
        have : w.category = 1 := by simpa using hn
        rw [h2, cv_cat, this]
        simp
      · have : (q.1 + 1 == i) = false := by simpa using z
        rw [this]; rfl
    rw [e1, e2]; rfl
theorem lA_setL {ad : Nat → Nat} {ls : Array Slot} {nL : Nat} {L : List (Option Value)} {i : Nat} {v : Value} (hn : lnl L i = true)
    (h : lv_has ls nL ((i, cv ad v) :: (lA ad L).filter (fun q => !(q.1 == i) && (!(q.1 == i + 1) && !(q.1 + 1 == i && q.2.category == 2))))) : lv_has ls nL (lA ad ((L.set i (some v)).set (i + 1) none)) := by
  refine lv_mono h fun q hq => ?_
  obtain ⟨w, h1, h2⟩ := lA_mem.mp hq
  rw [List.getElem?_set] at h1
  by_cases e0 : i + 1 = q.1
  · rw [if_pos e0] at h1
    split at h1
    · cases h1
    · cases h1
  · rw [if_neg e0, List.getElem?_set] at h1
    by_cases e : i = q.1
    · rw [if_pos e] at h1
      split at h1
      · cases h1
        refine List.mem_cons.mpr (Or.inl ?_)
        rw [e, ← h2]
      · cases h1
    · rw [if_neg e] at h1
      refine List.mem_cons.mpr (Or.inr (List.mem_filter.mpr ⟨lA_mem.mpr ⟨w, h1, h2⟩, ?_⟩))
      have e1 : (q.1 == i) = false := by simpa using fun z => e z.symm
      have e3 : (q.1 == i + 1) = false := by simpa using fun z => e0 z.symm
      have e2 : (q.1 + 1 == i && q.2.category == 2) = false := by
        by_cases z : q.1 + 1 = i
        · subst z
          simp only [lnl, h1] at hn
          have : w.category = 1 := by simpa using hn
          rw [h2, cv_cat, this]
          simp
        · have : (q.1 + 1 == i) = false := by simpa using z
          rw [this]; rfl
      rw [e1, e2, e3]; rfl
abbrev Cx : Type := (Program × Launch × Env × Room) × (State × MethodId × Array Value × List Frame) × (Method × Code × Nat) × (va_G × (Nat → ClassId) × (Nat → Nat)) × (Nat → Prop) × (State → Prop)
def AW : Cx → Nat → Nat → Nat → List (Option Value) → List Value → List va_E → Prop
  | ((p, l, e, R), (s, m, args, below), (meth, c, nL), (D, cT, ad), A, Q), kc, ks, pc, L, st, M =>
    ∀ (H : Heap) (locs : List Loc) (ls : Array Slot), va_P D classes (cw cT ad M) H → va_D A (cw cT ad M) → va_S A s.heap H locs → lv_has ls nL (lA ad L) → W p l e R s m args below meth c H locs kc ks Q (F0 m pc ls (st.map (cv ad)))
/-- what a method hands back -/
def qg (D : va_G) (cT : Nat → ClassId) (ad : Nat → Nat) (post : Option Value → List va_E → Prop) (A : Nat → Prop) : Array Value → State → Outcome → State → Prop := fun _ st oc t =>
  (∃ (v : Option Value) (M : List va_E), oc = .returned (v.map (cv ad)) ∧ post v M ∧ va_P D classes (cw cT ad M) t.heap ∧ va_K D classes (tysL cT) t ∧ va_D A (cw cT ad M)) ∧ va_F A st t
def OK : Cx → ByteArray → String → Option FieldType → Room → (Option Value → List va_E → Prop) → Nat → Nat → Prop
  | ((p, l, e, R), (s, m, args, below), (meth, c, nL), (D, cT, ad), A, Q), cc, own, ret, rm, post, mc, ms =>
    p.tables.exec = Jvm.exec ∧ c.code = cc ∧ c.maxLocals = nL ∧ s.vm.findClass own = some m.cls ∧ (∀ w ∈ UG, w.before args s = true) ∧ va_K D classes (tysL cT) s ∧ (∀ q, s.heap.size ≤ q → A q) ∧ meth.locks = false ∧ NW s ∧ R = rm ∧ meth.sig.returnType = ret ∧
    (∀ (H : Heap) (locs : List Loc) (g : JFrame), W p l e R s m args below meth c H locs mc ms (MQ below (qg D cT ad post A) args s mc ms A) g → W p l e R s m args below meth c H locs mc ms Q g)
