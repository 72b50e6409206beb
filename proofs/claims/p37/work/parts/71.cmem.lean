/-! THE CLASS: memory, and what begins an action. Printed by wip/whole/gen/mk71.py. -/
section CM1
variable {l : Launch} {S : St} {Rg : Nat → Option Nat} {kn nk : Int} {gb : Int → Int} {cnt nx : Int} {σ : Nat → St}
def ringP (p : Nat) : Nat → Option Nat := fun i => if i < 14 then some (p + 2 + 4 * i) else none
theorem ring_eq (p q : Nat) (π : List Nat) (h : ∀ i : Nat, i < 14 → rn π (p + 2 + 4 * i) = q + 2 + 4 * i) : (fun i => (ringP p i).map (rn π)) = ringP q := by
  funext i
  unfold ringP
  by_cases hi : i < 14
  · rw [if_pos hi, if_pos hi, Option.map_some, h i hi]
  · rw [if_neg hi, if_neg hi]; rfl
theorem ringF_P : ringF = ringP 0 := by funext i; unfold ringF ringP; rw [Nat.zero_add]
abbrev mmA (p : Nat) (Rg : Nat → Option Nat) (cnt nx : Int) (σ : Nat → St) : List va_E := ob 1 [.ref (p + 1), iv cnt, iv nx] :: qa 14 Rg :: (stS (p + 2) (σ 0) ++ (stS (p + 6) (σ 1) ++ (stS (p + 10) (σ 2) ++ (stS (p + 14) (σ 3) ++ (stS (p + 18) (σ 4) ++ (stS (p + 22) (σ 5) ++ (stS (p + 26) (σ 6) ++ (stS (p + 30) (σ 7) ++ (stS (p + 34) (σ 8) ++ (stS (p + 38) (σ 9) ++ (stS (p + 42) (σ 10) ++ (stS (p + 46) (σ 11) ++ (stS (p + 50) (σ 12) ++ (stS (p + 54) (σ 13)))))))))))))))
/-- the object: text 64, state 1, memory 6, slots 65, saved 66, islands 67, nest 68, trial 69, its islands 70, contour 71, greys before 5 -/
abbrev obA (kn nk : Int) : va_E := ob 6 [.ref 64, .ref 1, .ref 6, .ref 65, .ref 66, .ref 67, .ref 68, iv kn, iv nk, .ref 69, .ref 70, .ref 71, .ref 5]
abbrev clM (Rg : Nat → Option Nat) (kn nk : Int) (S : St) (gb : Int → Int) (cnt nx : Int) (σ : Nat → St) : List va_E := obA kn nk :: (stS 1 S ++ (ia 144 gb :: mmA 6 Rg cnt nx σ))
/-- the states remembered after one more -/
def σP (S : St) (nx : Int) (σ : Nat → St) : Nat → St := fun k => if k = nx.toNat then S else σ k
abbrev obG (kn nk : Int) : va_E := ob 6 [.ref 1, .ref 2, .ref 3, .ref 4, .ref 5, .ref 6, .ref 7, iv kn, iv nk, .ref 8, .ref 9, .ref 10, .ref 11]
theorem dX6_forgetFindings_0 : decode cX6_forgetFindings 0 = .ok (.aload_n 0, 1) := by decide +kernel
theorem dX6_forgetFindings_1 : decode cX6_forgetFindings 1 = .ok (.iconst 0, 1) := by decide +kernel
theorem dX6_forgetFindings_2 : decode cX6_forgetFindings 2 = .ok (.putfield 52, 3) := by decide +kernel
theorem dX6_forgetFindings_5 : decode cX6_forgetFindings 5 = .ok (.aload_n 0, 1) := by decide +kernel
theorem dX6_forgetFindings_6 : decode cX6_forgetFindings 6 = .ok (.iconst 0, 1) := by decide +kernel
theorem dX6_forgetFindings_7 : decode cX6_forgetFindings 7 = .ok (.putfield 56, 3) := by decide +kernel
theorem dX6_forgetFindings_10 : decode cX6_forgetFindings 10 = .ok (.return_, 1) := by decide +kernel
theorem c_forgetFindings : Cd l yX6_forgetFindings cX6_forgetFindings 1 none rmX6_forgetFindings [.ref 0] [obG kn nk] none [obG 0 0] := by
  refine Ct.of miX6_forgetFindings (Nat.le_of_ble_eq_true rfl) ?_
  intro X hXl hN ok
  refine AW.cast (L2 := [some (.ref 0)]) ?_ rfl rfl rfl
  refine a_aload_n (pc := 0) ok dX6_forgetFindings_0 rfl ?_
  refine a_iconst (pc := 1) ok dX6_forgetFindings_1 ?_
  refine a_putf (pc := 2) ok dX6_forgetFindings_2 fp6_52 rfl (by first | rfl | decide) (by first | rfl | decide) (Nat.le_of_ble_eq_true rfl) ?_
  refine a_aload_n (pc := 5) ok dX6_forgetFindings_5 rfl ?_
  refine a_iconst (pc := 6) ok dX6_forgetFindings_6 ?_
  refine a_putf (pc := 7) ok dX6_forgetFindings_7 fp6_56 rfl (by first | rfl | decide) (by first | rfl | decide) (Nat.le_of_ble_eq_true rfl) ?_
  exact a_vret (pc := 10) ok dX6_forgetFindings_10 (⟨rfl, rfl⟩)
theorem ring_M : (fun i => (ringF i).map (rn [6, 7, 8, 9, 10, 11, 12, 13, 14, 15, 16, 17, 18, 19, 20, 21, 22, 23, 24, 25, 26, 27, 28, 29, 30, 31, 32, 33, 34, 35, 36, 37, 38, 39, 40, 41, 42, 43, 44, 45, 46, 47, 48, 49, 50, 51, 52, 53, 54, 55, 56, 57, 58, 59, 60, 61, 62, 63, 1, 2, 3, 4])) = ringP 6 := by rw [ringF_P]; exact ring_eq 0 6 _ (by decide)
theorem dX6_beginAction_0 : decode cX6_beginAction 0 = .ok (.aload_n 0, 1) := by decide +kernel
theorem dX6_beginAction_1 : decode cX6_beginAction 1 = .ok (.getfield 26, 3) := by decide +kernel
theorem dX6_beginAction_4 : decode cX6_beginAction 4 = .ok (.aload_n 0, 1) := by decide +kernel
theorem dX6_beginAction_5 : decode cX6_beginAction 5 = .ok (.getfield 19, 3) := by decide +kernel
theorem dX6_beginAction_8 : decode cX6_beginAction 8 = .ok (.invokevirtual 347, 3) := by decide +kernel
theorem dX6_beginAction_11 : decode cX6_beginAction 11 = .ok (.aload_n 0, 1) := by decide +kernel
theorem dX6_beginAction_12 : decode cX6_beginAction 12 = .ok (.invokevirtual 107, 3) := by decide +kernel
theorem dX6_beginAction_15 : decode cX6_beginAction 15 = .ok (.return_, 1) := by decide +kernel
set_option maxRecDepth 100000 in
theorem c_beginAction (hc : 0 ≤ cnt ∧ cnt ≤ 14) (hx : 0 ≤ nx ∧ nx < 14) : Cd l yX6_beginAction cX6_beginAction 1 none rmX6_beginAction [.ref 0] (clM (ringP 6) kn nk S gb cnt nx σ) none (clM (ringP 6) (0) (0) S gb (min (cnt + 1) 14) ((nx + 1) % 14) (σP S nx σ)) := by
  refine Ct.of miX6_beginAction (Nat.le_of_ble_eq_true rfl) ?_
  intro X hXl hN ok
  refine AW.cast (L2 := [some (.ref 0)]) ?_ rfl rfl rfl
  refine a_aload_n (pc := 0) ok dX6_beginAction_0 rfl ?_
  refine a_getf (pc := 1) ok dX6_beginAction_1 fl6_26 rfl rfl ?_
  refine a_aload_n (pc := 4) ok dX6_beginAction_4 rfl ?_
  refine a_getf (pc := 5) ok dX6_beginAction_5 fl6_19 rfl rfl ?_
  refine AW.cast (M2 := (clM (fun i => (ringF i).map (rn [6, 7, 8, 9, 10, 11, 12, 13, 14, 15, 16, 17, 18, 19, 20, 21, 22, 23, 24, 25, 26, 27, 28, 29, 30, 31, 32, 33, 34, 35, 36, 37, 38, 39, 40, 41, 42, 43, 44, 45, 46, 47, 48, 49, 50, 51, 52, 53, 54, 55, 56, 57, 58, 59, 60, 61, 62, 63, 1, 2, 3, 4])) kn nk S gb cnt nx σ)) ?_ rfl rfl (by rw [ring_M])
  refine a_callVv (pc := 8) ok [6, 7, 8, 9, 10, 11, 12, 13, 14, 15, 16, 17, 18, 19, 20, 21, 22, 23, 24, 25, 26, 27, 28, 29, 30, 31, 32, 33, 34, 35, 36, 37, 38, 39, 40, 41, 42, 43, 44, 45, 46, 47, 48, 49, 50, 51, 52, 53, 54, 55, 56, 57, 58, 59, 60, 61, 62, 63, 1, 2, 3, 4] dX6_beginAction_8 mv6_347 miX1_remember (c_remember hc hx) ⟨by decide, by decide, rfl, rfl, Nat.zero_le _, Nat.zero_le _⟩ rfl rfl (Nat.le_of_ble_eq_true rfl) rfl (by decide) rfl rfl rfl ?_
  refine AW.cast (M2 := (clM (ringP 6) kn nk S gb (min (cnt + 1) 14) ((nx + 1) % 14) (σP S nx σ))) ?_ rfl rfl (congrArg (fun f => (clM (f) kn nk S gb (min (cnt + 1) 14) ((nx + 1) % 14) (σP S nx σ))) ring_M)
  refine a_aload_n (pc := 11) ok dX6_beginAction_11 rfl ?_
  refine x_callVv (pc := 12) ok [0, 64, 1, 6, 65, 66, 67, 68, 69, 70, 71, 5] 1 dX6_beginAction_12 mv6_107 miX6_forgetFindings (c_forgetFindings) ⟨by decide, by decide, rfl, rfl, Nat.zero_le _, Nat.zero_le _⟩ rfl rfl (Nat.le_of_ble_eq_true rfl) rfl rfl (by decide) rfl rfl rfl ?_
  refine AW.cast (M2 := (clM (ringP 6) (0) (0) S gb (min (cnt + 1) 14) ((nx + 1) % 14) (σP S nx σ))) ?_ rfl rfl rfl
  exact a_vret (pc := 15) ok dX6_beginAction_15 (⟨rfl, rfl⟩)
theorem dX6_undo_0 : decode cX6_undo 0 = .ok (.aload_n 0, 1) := by decide +kernel
theorem dX6_undo_1 : decode cX6_undo 1 = .ok (.getfield 26, 3) := by decide +kernel
theorem dX6_undo_4 : decode cX6_undo 4 = .ok (.getfield 340, 3) := by decide +kernel
theorem dX6_undo_7 : decode cX6_undo 7 = .ok (.ifCond .ne 14, 3) := by decide +kernel
theorem dX6_undo_10 : decode cX6_undo 10 = .ok (.new 84, 3) := by decide +kernel
theorem dX6_undo_13 : decode cX6_undo 13 = .ok (.dup, 1) := by decide +kernel
theorem dX6_undo_14 : decode cX6_undo 14 = .ok (.ldc_w 341, 3) := by decide +kernel
theorem dX6_undo_17 : decode cX6_undo 17 = .ok (.invokespecial 88, 3) := by decide +kernel
theorem dX6_undo_20 : decode cX6_undo 20 = .ok (.athrow, 1) := by decide +kernel
theorem dX6_undo_21 : decode cX6_undo 21 = .ok (.aload_n 0, 1) := by decide +kernel
theorem dX6_undo_22 : decode cX6_undo 22 = .ok (.invokevirtual 107, 3) := by decide +kernel
theorem dX6_undo_25 : decode cX6_undo 25 = .ok (.aload_n 0, 1) := by decide +kernel
theorem dX6_undo_26 : decode cX6_undo 26 = .ok (.getfield 26, 3) := by decide +kernel
theorem dX6_undo_29 : decode cX6_undo 29 = .ok (.aload_n 0, 1) := by decide +kernel
theorem dX6_undo_30 : decode cX6_undo 30 = .ok (.getfield 19, 3) := by decide +kernel
theorem dX6_undo_33 : decode cX6_undo 33 = .ok (.invokevirtual 343, 3) := by decide +kernel
theorem dX6_undo_36 : decode cX6_undo 36 = .ok (.aload_n 0, 1) := by decide +kernel
theorem dX6_undo_37 : decode cX6_undo 37 = .ok (.getfield 26, 3) := by decide +kernel
theorem dX6_undo_40 : decode cX6_undo 40 = .ok (.getfield 340, 3) := by decide +kernel
theorem dX6_undo_43 : decode cX6_undo 43 = .ok (.ireturn, 1) := by decide +kernel
set_option maxRecDepth 100000 in
theorem c_undo (hc : 1 ≤ cnt ∧ cnt ≤ 14) (hx : 0 ≤ nx ∧ nx < 14) : Cd l yX6_undo cX6_undo 1 (some .int) rmX6_undo [.ref 0] (clM (ringP 6) kn nk S gb cnt nx σ) (some (iv (cnt - 1))) (clM (ringP 6) (0) (0) (σ ((nx + 13) % 14).toNat) gb (cnt - 1) ((nx + 13) % 14) σ) := by
  refine Ct.of miX6_undo (Nat.le_of_ble_eq_true rfl) ?_
  intro X hXl hN ok
  refine AW.cast (L2 := [some (.ref 0)]) ?_ rfl rfl rfl
  refine a_aload_n (pc := 0) ok dX6_undo_0 rfl ?_
  refine a_getf (pc := 1) ok dX6_undo_1 fl6_26 rfl rfl ?_
  refine a_getf (pc := 4) ok dX6_undo_4 fl6_340 rfl rfl ?_
  refine a_if_ne (pc := 7) (tgt := 21) ok dX6_undo_7 (by decide) (by first | omega | (unfold rg; omega) | (simp only [rg] at *; omega) | exact bz_rg _ | grind [rg]) (fun c7 => ?_) (fun c7 => ?_)
  · refine a_aload_n (pc := 21) ok dX6_undo_21 rfl ?_
    refine x_callVv (pc := 22) ok [0, 64, 1, 6, 65, 66, 67, 68, 69, 70, 71, 5] 1 dX6_undo_22 mv6_107 miX6_forgetFindings (c_forgetFindings) ⟨by decide, by decide, rfl, rfl, Nat.zero_le _, Nat.zero_le _⟩ rfl rfl (Nat.le_of_ble_eq_true rfl) rfl rfl (by decide) rfl rfl rfl ?_
    refine AW.cast (M2 := (clM (ringP 6) (0) (0) S gb cnt nx σ)) ?_ rfl rfl rfl
    refine a_aload_n (pc := 25) ok dX6_undo_25 rfl ?_
    refine a_getf (pc := 26) ok dX6_undo_26 fl6_26 rfl rfl ?_
    refine a_aload_n (pc := 29) ok dX6_undo_29 rfl ?_
    refine a_getf (pc := 30) ok dX6_undo_30 fl6_19 rfl rfl ?_
    refine AW.cast (M2 := (clM (fun i => (ringF i).map (rn [6, 7, 8, 9, 10, 11, 12, 13, 14, 15, 16, 17, 18, 19, 20, 21, 22, 23, 24, 25, 26, 27, 28, 29, 30, 31, 32, 33, 34, 35, 36, 37, 38, 39, 40, 41, 42, 43, 44, 45, 46, 47, 48, 49, 50, 51, 52, 53, 54, 55, 56, 57, 58, 59, 60, 61, 62, 63, 1, 2, 3, 4])) (0) (0) S gb cnt nx σ)) ?_ rfl rfl (by rw [ring_M])
    refine a_callVv (pc := 33) ok [6, 7, 8, 9, 10, 11, 12, 13, 14, 15, 16, 17, 18, 19, 20, 21, 22, 23, 24, 25, 26, 27, 28, 29, 30, 31, 32, 33, 34, 35, 36, 37, 38, 39, 40, 41, 42, 43, 44, 45, 46, 47, 48, 49, 50, 51, 52, 53, 54, 55, 56, 57, 58, 59, 60, 61, 62, 63, 1, 2, 3, 4] dX6_undo_33 mv6_343 miX1_takeBack (c_takeBack hc hx) ⟨by decide, by decide, rfl, rfl, Nat.zero_le _, Nat.zero_le _⟩ rfl rfl (Nat.le_of_ble_eq_true rfl) rfl (by decide) rfl rfl rfl ?_
    refine AW.cast (M2 := (clM (ringP 6) (0) (0) (σ ((nx + 13) % 14).toNat) gb (cnt - 1) ((nx + 13) % 14) σ)) ?_ rfl rfl (congrArg (fun f => (clM (f) (0) (0) (σ ((nx + 13) % 14).toNat) gb (cnt - 1) ((nx + 13) % 14) σ)) ring_M)
    refine a_aload_n (pc := 36) ok dX6_undo_36 rfl ?_
    refine a_getf (pc := 37) ok dX6_undo_37 fl6_26 rfl rfl ?_
    refine a_getf (pc := 40) ok dX6_undo_40 fl6_340 rfl rfl ?_
    exact a_iret (pc := 43) ok dX6_undo_43 (⟨rfl, rfl⟩)
  · omega
end CM1
