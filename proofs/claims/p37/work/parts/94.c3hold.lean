/-! THE LAW: what holds on each plate: cells, one by one. Printed by wip/p37/gen/mkhold.py. -/
section HO3
variable {A : Ob}
theorem hold2 {X : Cx} (hl : X.1.2.1.stackTraces = false) (hN : nLof X = 21) (gk : GK X cL_holds RL (some .boolean) rgL_holds (po1 1 A) rgL_holds.cells rgL_holds.slots 108) (ex : EX X) (hA : VA A) (hB : VB A) (f11 : Int → Int) (hf : ∀ j : Int, 0 ≤ j → j < (sN (jS A) : Int) → f11 j = sT (jS A) j) (K : ∀ (M : List va_E) (f7 f8 f9 f10 : Int → Int) (a17 a18 a19 : Option Value), WO A M → hIN A (sC (jS A) * sR (jS A)).toNat f7 f8 f9 f10 → AW X 1000 8000 446 [some (.ref 0), some (iv (sC (jS A))), some (iv (sR (jS A))), some (iv (sN (jS A) : Int)), some (iv (sE (jS A))), some (iv (mS (jS A))), some (iv (sC (jS A) * sR (jS A))), some (.ref 103), some (.ref 104), some (.ref 105), some (.ref 106), some (.ref 107), some (iv (cntK (fun j => decide (bS (jS A) j ≠ (bnd (sT (jS A)) (sN (jS A)) (sG (jS A))) j)) (sC (jS A) * sR (jS A)).toNat)), some (iv (sumK (sG (jS A)) (sC (jS A) * sR (jS A)).toNat)), some (iv 1), some (iv (rk (sC (jS A)) (sR (jS A)) (bS (jS A)) ((sC (jS A) * sR (jS A))))), some (iv (sC (jS A) * sR (jS A))), a17, a18, a19, none] [] (M ++ [ia 64 f7, ia 64 f8, ia 64 f9, ia 6 f10, ia 5 f11])) :
    ∀ d k : Nat, (k : Int) + d = (sC (jS A) * sR (jS A)) → ∀ (M : List va_E) (f7 f8 f9 f10 : Int → Int) (a17 a18 a19 : Option Value), WO A M → hIN A k f7 f8 f9 f10 → AW X (120 + 10 * k) (1200 + 60 * k) 196 [some (.ref 0), some (iv (sC (jS A))), some (iv (sR (jS A))), some (iv (sN (jS A) : Int)), some (iv (sE (jS A))), some (iv (mS (jS A))), some (iv (sC (jS A) * sR (jS A))), some (.ref 103), some (.ref 104), some (.ref 105), some (.ref 106), some (.ref 107), some (iv (cntK (fun j => decide (bS (jS A) j ≠ (bnd (sT (jS A)) (sN (jS A)) (sG (jS A))) j)) k)), some (iv (sumK (sG (jS A)) k)), some (iv 1), some (iv (rk (sC (jS A)) (sR (jS A)) (bS (jS A)) ((k : Int)))), some (iv (k : Int)), a17, a18, a19, none] [] (M ++ [ia 64 f7, ia 64 f8, ia 64 f9, ia 6 f10, ia 5 f11]) := by
  intro d
  induction d with
  | zero =>
    intro k hk M f7 f8 f9 f10 a17 a18 a19 hW hI
    have ok := gk.ok
    obtain ⟨g1, g2, g3, g4, g5, g6⟩ := H_facts hA hB
    have ek : k = (sC (jS A) * sR (jS A)).toNat := by omega
    subst ek
    have ek2 : (((sC (jS A) * sR (jS A)).toNat : Nat) : Int) = (sC (jS A) * sR (jS A)) := by omega
    refine a_iload (pc := 196) ok dL_holds_196 rfl ?_
    refine a_iload (pc := 198) ok dL_holds_198 rfl ?_
    refine a_icmp_ge (pc := 200) (tgt := 446) ok dL_holds_200 (by decide) (by first | exact rg_w _ | exact rg_tw (by unfold rg; omega) (by unfold rg; omega) | (unfold rg; omega) | omega | assumption | exact bz_rg _) (by first | exact rg_w _ | exact rg_tw (by unfold rg; omega) (by unfold rg; omega) | (unfold rg; omega) | omega | assumption | exact bz_rg _) (fun c200 => ?_) (fun c200 => ?_)
    · refine AW.widen (kc2 := 1000) (ks2 := 8000) (by omega) (by omega) ?_
      exact AW.cast (L2 := [some (.ref 0), some (iv (sC (jS A))), some (iv (sR (jS A))), some (iv (sN (jS A) : Int)), some (iv (sE (jS A))), some (iv (mS (jS A))), some (iv (sC (jS A) * sR (jS A))), some (.ref 103), some (.ref 104), some (.ref 105), some (.ref 106), some (.ref 107), some (iv (cntK (fun j => decide (bS (jS A) j ≠ (bnd (sT (jS A)) (sN (jS A)) (sG (jS A))) j)) (sC (jS A) * sR (jS A)).toNat)), some (iv (sumK (sG (jS A)) (sC (jS A) * sR (jS A)).toNat)), some (iv 1), some (iv (rk (sC (jS A)) (sR (jS A)) (bS (jS A)) ((sC (jS A) * sR (jS A))))), some (iv (sC (jS A) * sR (jS A))), a17, a18, a19, none]) (K M f7 f8 f9 f10 a17 a18 a19 hW hI) (by rw [ek2]) rfl rfl
    · exfalso; first | omega | grind
  | succ d ih =>
    intro k hk M f7 f8 f9 f10 a17 a18 a19 hW hI
    have ok := gk.ok
    obtain ⟨g1, g2, g3, g4, g5, g6⟩ := H_facts hA hB
    have hd := hA.1.1
    have hcel : cel (sC (jS A)) (sR (jS A)) (k : Int) := ⟨by omega, by omega⟩
    have hk2 := dim_k hd hcel
    have m1 : (k : Int) / sC (jS A) * sC (jS A) + (k : Int) % sC (jS A) = k := hk2.2.2.2.2.symm
    have o1 := own_rg (b := bS (jS A)) hd hcel
    have o2 : (own (sC (jS A)) (sR (jS A)) (bS (jS A))) k < mS (jS A) := o1.2.1
    have b1 := bS_rg (jS A) (k : Int)
    have gg := hA.1.2.1 (k : Int)
    have hrk := rk_rg (c := sC (jS A)) (r := sR (jS A)) (B := bS (jS A)) (k : Int)
    have x0 : aCell (jS A) ((k : Int) % sC (jS A)) ((k : Int) / sC (jS A)) 0 = sG (jS A) k := by show sG (jS A) _ = _; rw [m1]
    have x2 : aCell (jS A) ((k : Int) % sC (jS A)) ((k : Int) / sC (jS A)) 2 = (bS (jS A)) k := by show (bS (jS A)) _ = _; rw [m1]
    have x3 : aCell (jS A) ((k : Int) % sC (jS A)) ((k : Int) / sC (jS A)) 3 = (own (sC (jS A)) (sR (jS A)) (bS (jS A))) k := by show rk _ _ _ (lw _ _ _ ((k : Int) / sC (jS A) * sC (jS A) + (k : Int) % sC (jS A))) = _; rw [m1]
    have y0 : w32 (aCell (jS A) ((k : Int) % sC (jS A)) ((k : Int) / sC (jS A)) 0) = sG (jS A) k := by rw [x0]; exact w_id (by unfold rg; omega)
    have y2 : w32 (aCell (jS A) ((k : Int) % sC (jS A)) ((k : Int) / sC (jS A)) 2) = (bS (jS A)) k := by rw [x2]; exact w_id (by unfold rg; omega)
    have y3 : w32 (aCell (jS A) ((k : Int) % sC (jS A)) ((k : Int) / sC (jS A)) 3) = (own (sC (jS A)) (sR (jS A)) (bS (jS A))) k := by rw [x3]; exact w_id (by unfold rg; omega)
    have kc : ∀ w : Int, 0 ≤ w → w ≤ 5 → kCell (jS A) ((k : Int) % sC (jS A)) ((k : Int) / sC (jS A)) w 5 = 0 := fun w h1 h2 => by unfold kCell; rw [if_neg (by omega), if_pos ⟨h1, h2⟩]
    have u7 : up f7 (k : Int) ((bS (jS A)) k) k = (bS (jS A)) k := up_at
    have u8 : up f8 (k : Int) ((own (sC (jS A)) (sR (jS A)) (bS (jS A))) k) k = (own (sC (jS A)) (sR (jS A)) (bS (jS A))) k := up_at
    have hI2 := hIN_S hA hI
    have cN := cntK_rg (fun j => decide ((own (sC (jS A)) (sR (jS A)) (bS (jS A))) j = (own (sC (jS A)) (sR (jS A)) (bS (jS A))) k)) k
    have cB := cntK_rg (fun j => decide ((bS (jS A)) j = (bS (jS A)) k)) k
    have c9 : f9 ((own (sC (jS A)) (sR (jS A)) (bS (jS A))) k) = cntK (fun j => decide ((own (sC (jS A)) (sR (jS A)) (bS (jS A))) j = (own (sC (jS A)) (sR (jS A)) (bS (jS A))) k)) k := hI.2.1 _
    have c10 : f10 ((bS (jS A)) k) = cntK (fun j => decide ((bS (jS A)) j = (bS (jS A)) k)) k := hI.2.2 _
    have hbn : ((bnd (sT (jS A)) (sN (jS A)) (sG (jS A)))) (k : Int) = cntK (fun j => decide (sT (jS A) j ≤ sG (jS A) k)) (sN (jS A)) := rfl
    have c12 := cntK_rg (fun j => decide (sT (jS A) j ≤ sG (jS A) k)) (sN (jS A))
    have nS := rk_S (c := sC (jS A)) (r := sR (jS A)) (b := bS (jS A)) k
    have fin : ∀ (M : List va_E) (f7 f8 f9 f10 : Int → Int) (a17 a18 a19 : Option Value), WO A M → hIN A (k + 1) f7 f8 f9 f10 → AW X (120 + 10 * (k + 1)) (1200 + 60 * (k + 1)) 196 [some (.ref 0), some (iv (sC (jS A))), some (iv (sR (jS A))), some (iv (sN (jS A) : Int)), some (iv (sE (jS A))), some (iv (mS (jS A))), some (iv (sC (jS A) * sR (jS A))), some (.ref 103), some (.ref 104), some (.ref 105), some (.ref 106), some (.ref 107), some (iv (cntK (fun j => decide (bS (jS A) j ≠ (bnd (sT (jS A)) (sN (jS A)) (sG (jS A))) j)) (k + 1))), some (iv (sumK (sG (jS A)) (k + 1))), some (iv 1), some (iv (rk (sC (jS A)) (sR (jS A)) (bS (jS A)) (((k + 1 : Nat) : Int)))), some (iv ((k + 1 : Nat) : Int)), a17, a18, a19, none] [] (M ++ [ia 64 f7, ia 64 f8, ia 64 f9, ia 6 f10, ia 5 f11]) := fun M f7 f8 f9 f10 a17 a18 a19 hW h => ih (k + 1) (by omega) M f7 f8 f9 f10 a17 a18 a19 hW h
    have k262 : ∀ M : List va_E, WO A M → AW X (120 + 10 * k + 1) (1200 + 60 * k + 6) 262 [some (.ref 0), some (iv (sC (jS A))), some (iv (sR (jS A))), some (iv (sN (jS A) : Int)), some (iv (sE (jS A))), some (iv (mS (jS A))), some (iv (sC (jS A) * sR (jS A))), some (.ref 103), some (.ref 104), some (.ref 105), some (.ref 106), some (.ref 107), some (iv (cntK (fun j => decide (bS (jS A) j ≠ (bnd (sT (jS A)) (sN (jS A)) (sG (jS A))) j)) k)), some (iv (sumK (sG (jS A)) k)), some (iv 1), some (iv (rk (sC (jS A)) (sR (jS A)) (bS (jS A)) ((k : Int)))), some (iv (k : Int)), some (iv (sG (jS A) k)), some (iv (cntK (fun j => decide (sT (jS A) j ≤ sG (jS A) k)) (sN (jS A)))), some (iv (sN (jS A) : Int)), none] [] (M ++ [ia 64 f7, ia 64 f8, ia 64 f9, ia 6 f10, ia 5 f11]) := by
      intro M hW
      refine a_aload (pc := 262) ok dL_holds_262 rfl ?_
      refine a_iload (pc := 264) ok dL_holds_264 rfl ?_
      refine a_aload_n (pc := 266) ok dL_holds_266 rfl ?_
      refine a_iconst (pc := 267) ok dL_holds_267 ?_
      refine a_iload (pc := 268) ok dL_holds_268 rfl ?_
      refine a_iload_n (pc := 270) ok dL_holds_270 rfl ?_
      refine a_irem (pc := 271) ok dL_holds_271 (by first | exact rg_w _ | exact rg_tw (by unfold rg; omega) (by unfold rg; omega) | (unfold rg; omega) | omega | assumption | exact bz_rg _) (by first | exact rg_w _ | exact rg_tw (by unfold rg; omega) (by unfold rg; omega) | (unfold rg; omega) | omega | assumption | exact bz_rg _) ?_
      refine a_iload (pc := 272) ok dL_holds_272 rfl ?_
      refine a_iload_n (pc := 274) ok dL_holds_274 rfl ?_
      refine a_idiv (pc := 275) ok dL_holds_275 (by first | exact rg_w _ | exact rg_tw (by unfold rg; omega) (by unfold rg; omega) | (unfold rg; omega) | omega | assumption | exact bz_rg _) (by first | exact rg_w _ | exact rg_tw (by unfold rg; omega) (by unfold rg; omega) | (unfold rg; omega) | omega | assumption | exact bz_rg _) ?_
      refine a_iconst (pc := 276) ok dL_holds_276 ?_
      refine v_h (pc := 277) ok ex gk.1 dL_holds_277 (ug2 16 (by decide +kernel) rfl) (ug2 17 (by decide +kernel) rfl) miL_call hW (ctv_eq y2 (ctv_ok (kc 2 (by omega) (by omega)) (C_3 hl hA hW (x := (k : Int) % sC (jS A)) (y := (k : Int) / sC (jS A)) (w := 2) (by unfold rg; omega) (by unfold rg; omega) (by unfold rg; omega)))) ⟨by decide, by decide⟩ ⟨by show 120 + 10 * k + 1 + 1 ≤ 5000; omega, by show 1200 + 60 * k + 6 + 6 ≤ 40000; omega⟩ rfl rfl (Nat.le_of_ble_eq_true rfl) ?_
      intro M hW
      refine a_haS (pc := 280) (j := 0) ok (WO_len hW) dL_holds_280 rfl (by decide) (by first | exact rg_w _ | exact rg_tw (by unfold rg; omega) (by unfold rg; omega) | (unfold rg; omega) | omega | assumption | exact bz_rg _) ?_
      refine a_aload (pc := 281) ok dL_holds_281 rfl ?_
      refine a_iload (pc := 283) ok dL_holds_283 rfl ?_
      refine a_aload_n (pc := 285) ok dL_holds_285 rfl ?_
      refine a_iconst (pc := 286) ok dL_holds_286 ?_
      refine a_iload (pc := 287) ok dL_holds_287 rfl ?_
      refine a_iload_n (pc := 289) ok dL_holds_289 rfl ?_
      refine a_irem (pc := 290) ok dL_holds_290 (by first | exact rg_w _ | exact rg_tw (by unfold rg; omega) (by unfold rg; omega) | (unfold rg; omega) | omega | assumption | exact bz_rg _) (by first | exact rg_w _ | exact rg_tw (by unfold rg; omega) (by unfold rg; omega) | (unfold rg; omega) | omega | assumption | exact bz_rg _) ?_
      refine a_iload (pc := 291) ok dL_holds_291 rfl ?_
      refine a_iload_n (pc := 293) ok dL_holds_293 rfl ?_
      refine a_idiv (pc := 294) ok dL_holds_294 (by first | exact rg_w _ | exact rg_tw (by unfold rg; omega) (by unfold rg; omega) | (unfold rg; omega) | omega | assumption | exact bz_rg _) (by first | exact rg_w _ | exact rg_tw (by unfold rg; omega) (by unfold rg; omega) | (unfold rg; omega) | omega | assumption | exact bz_rg _) ?_
      refine a_iconst (pc := 295) ok dL_holds_295 ?_
      refine v_h (pc := 296) ok ex gk.1 dL_holds_296 (ug2 16 (by decide +kernel) rfl) (ug2 17 (by decide +kernel) rfl) miL_call hW (ctv_eq y3 (ctv_ok (kc 3 (by omega) (by omega)) (C_3 hl hA hW (x := (k : Int) % sC (jS A)) (y := (k : Int) / sC (jS A)) (w := 3) (by unfold rg; omega) (by unfold rg; omega) (by unfold rg; omega)))) ⟨by decide, by decide⟩ ⟨by show 120 + 10 * k + 1 + 1 + 1 ≤ 5000; omega, by show 1200 + 60 * k + 6 + 6 + 6 ≤ 40000; omega⟩ rfl rfl (Nat.le_of_ble_eq_true rfl) ?_
      intro M hW
      refine a_haS (pc := 299) (j := 1) ok (WO_len hW) dL_holds_299 rfl (by decide) (by first | exact rg_w _ | exact rg_tw (by unfold rg; omega) (by unfold rg; omega) | (unfold rg; omega) | omega | assumption | exact bz_rg _) ?_
      refine a_iload (pc := 300) ok dL_holds_300 rfl ?_
      refine a_iload (pc := 302) ok dL_holds_302 rfl ?_
      refine a_iadd (pc := 304) ok dL_holds_304 ?_
      refine a_istore (pc := 305) ok dL_holds_305 rfl (by rw [hN]; decide) ?_
      refine a_iload (pc := 307) ok dL_holds_307 rfl ?_
      refine a_iload (pc := 309) ok dL_holds_309 rfl ?_
      refine a_aload (pc := 311) ok dL_holds_311 rfl ?_
      refine a_iload (pc := 313) ok dL_holds_313 rfl ?_
      refine a_haL (pc := 315) (j := 0) ok (WO_len hW) dL_holds_315 rfl (by decide) (by first | exact rg_w _ | exact rg_tw (by unfold rg; omega) (by unfold rg; omega) | (unfold rg; omega) | omega | assumption | exact bz_rg _) ?_
      refine a_icmp_ne (pc := 316) (tgt := 323) ok dL_holds_316 (by decide) (by first | exact rg_w _ | exact rg_tw (by unfold rg; omega) (by unfold rg; omega) | (unfold rg; omega) | omega | assumption | exact bz_rg _) (by first | exact rg_w _ | exact rg_tw (by unfold rg; omega) (by unfold rg; omega) | (unfold rg; omega) | omega | assumption | exact bz_rg _) (fun c316 => ?_) (fun c316 => ?_)
      · refine a_iconst (pc := 323) ok dL_holds_323 ?_
        refine a_iadd (pc := 324) ok dL_holds_324 ?_
        refine a_istore (pc := 325) ok dL_holds_325 rfl (by rw [hN]; decide) ?_
        refine a_iload (pc := 327) ok dL_holds_327 rfl ?_
        refine a_if_lt (pc := 329) (tgt := 388) ok dL_holds_329 (by decide) (by first | exact rg_w _ | exact rg_tw (by unfold rg; omega) (by unfold rg; omega) | (unfold rg; omega) | omega | assumption | exact bz_rg _) (fun c329 => ?_) (fun c329 => ?_)
        · exfalso; first | omega | grind
        · refine a_iload (pc := 332) ok dL_holds_332 rfl ?_
          refine a_bipush (pc := 334) ok dL_holds_334 (by decide) ?_
          refine a_icmp_ge (pc := 336) (tgt := 388) ok dL_holds_336 (by decide) (by first | exact rg_w _ | exact rg_tw (by unfold rg; omega) (by unfold rg; omega) | (unfold rg; omega) | omega | assumption | exact bz_rg _) (by first | exact rg_w _ | exact rg_tw (by unfold rg; omega) (by unfold rg; omega) | (unfold rg; omega) | omega | assumption | exact bz_rg _) (fun c336 => ?_) (fun c336 => ?_)
          · exfalso; first | omega | grind
          · refine a_aload (pc := 339) ok dL_holds_339 rfl ?_
            refine a_iload (pc := 341) ok dL_holds_341 rfl ?_
            refine a_haL (pc := 343) (j := 0) ok (WO_len hW) dL_holds_343 rfl (by decide) (by first | exact rg_w _ | exact rg_tw (by unfold rg; omega) (by unfold rg; omega) | (unfold rg; omega) | omega | assumption | exact bz_rg _) ?_
            refine a_if_lt (pc := 344) (tgt := 388) ok dL_holds_344 (by decide) (by first | exact rg_w _ | exact rg_tw (by unfold rg; omega) (by unfold rg; omega) | (unfold rg; omega) | omega | assumption | exact bz_rg _) (fun c344 => ?_) (fun c344 => ?_)
            · exfalso; first | omega | grind
            · refine a_aload (pc := 347) ok dL_holds_347 rfl ?_
              refine a_iload (pc := 349) ok dL_holds_349 rfl ?_
              refine a_haL (pc := 351) (j := 0) ok (WO_len hW) dL_holds_351 rfl (by decide) (by first | exact rg_w _ | exact rg_tw (by unfold rg; omega) (by unfold rg; omega) | (unfold rg; omega) | omega | assumption | exact bz_rg _) ?_
              refine a_iload_n (pc := 352) ok dL_holds_352 rfl ?_
              refine a_icmp_gt (pc := 353) (tgt := 388) ok dL_holds_353 (by decide) (by first | exact rg_w _ | exact rg_tw (by unfold rg; omega) (by unfold rg; omega) | (unfold rg; omega) | omega | assumption | exact bz_rg _) (by first | exact rg_w _ | exact rg_tw (by unfold rg; omega) (by unfold rg; omega) | (unfold rg; omega) | omega | assumption | exact bz_rg _) (fun c353 => ?_) (fun c353 => ?_)
              · exfalso; first | omega | grind
              · refine a_aload (pc := 356) ok dL_holds_356 rfl ?_
                refine a_iload (pc := 358) ok dL_holds_358 rfl ?_
                refine a_haL (pc := 360) (j := 1) ok (WO_len hW) dL_holds_360 rfl (by decide) (by first | exact rg_w _ | exact rg_tw (by unfold rg; omega) (by unfold rg; omega) | (unfold rg; omega) | omega | assumption | exact bz_rg _) ?_
                refine a_if_lt (pc := 361) (tgt := 388) ok dL_holds_361 (by decide) (by first | exact rg_w _ | exact rg_tw (by unfold rg; omega) (by unfold rg; omega) | (unfold rg; omega) | omega | assumption | exact bz_rg _) (fun c361 => ?_) (fun c361 => ?_)
                · exfalso; first | omega | grind
                · refine a_aload (pc := 364) ok dL_holds_364 rfl ?_
                  refine a_iload (pc := 366) ok dL_holds_366 rfl ?_
                  refine a_haL (pc := 368) (j := 1) ok (WO_len hW) dL_holds_368 rfl (by decide) (by first | exact rg_w _ | exact rg_tw (by unfold rg; omega) (by unfold rg; omega) | (unfold rg; omega) | omega | assumption | exact bz_rg _) ?_
                  refine a_iload (pc := 369) ok dL_holds_369 rfl ?_
                  refine a_icmp_gt (pc := 371) (tgt := 388) ok dL_holds_371 (by decide) (by first | exact rg_w _ | exact rg_tw (by unfold rg; omega) (by unfold rg; omega) | (unfold rg; omega) | omega | assumption | exact bz_rg _) (by first | exact rg_w _ | exact rg_tw (by unfold rg; omega) (by unfold rg; omega) | (unfold rg; omega) | omega | assumption | exact bz_rg _) (fun c371 => ?_) (fun c371 => ?_)
                  · exfalso; first | omega | grind
                  · refine a_aload (pc := 374) ok dL_holds_374 rfl ?_
                    refine a_iload (pc := 376) ok dL_holds_376 rfl ?_
                    refine a_haL (pc := 378) (j := 1) ok (WO_len hW) dL_holds_378 rfl (by decide) (by first | exact rg_w _ | exact rg_tw (by unfold rg; omega) (by unfold rg; omega) | (unfold rg; omega) | omega | assumption | exact bz_rg _) ?_
                    refine a_iload (pc := 379) ok dL_holds_379 rfl ?_
                    refine a_icmp_ge (pc := 381) (tgt := 388) ok dL_holds_381 (by decide) (by first | exact rg_w _ | exact rg_tw (by unfold rg; omega) (by unfold rg; omega) | (unfold rg; omega) | omega | assumption | exact bz_rg _) (by first | exact rg_w _ | exact rg_tw (by unfold rg; omega) (by unfold rg; omega) | (unfold rg; omega) | omega | assumption | exact bz_rg _) (fun c381 => ?_) (fun c381 => ?_)
                    · exfalso; first | omega | grind
                    · refine a_iconst (pc := 384) ok dL_holds_384 ?_
                      refine a_goto (pc := 385) (tgt := 389) ok dL_holds_385 (by decide) ?_
                      refine a_istore (pc := 389) ok dL_holds_389 rfl (by rw [hN]; decide) ?_
                      refine a_iload (pc := 391) ok dL_holds_391 rfl ?_
                      refine a_if_eq (pc := 393) (tgt := 440) ok dL_holds_393 (by decide) (by first | exact rg_w _ | exact rg_tw (by unfold rg; omega) (by unfold rg; omega) | (unfold rg; omega) | omega | assumption | exact bz_rg _) (fun c393 => ?_) (fun c393 => ?_)
                      · exfalso; first | omega | grind
                      · refine a_iload (pc := 396) ok dL_holds_396 rfl ?_
                        refine a_aload (pc := 398) ok dL_holds_398 rfl ?_
                        refine a_iload (pc := 400) ok dL_holds_400 rfl ?_
                        refine a_haL (pc := 402) (j := 1) ok (WO_len hW) dL_holds_402 rfl (by decide) (by first | omega | (unfold rg; omega)) ?_
                        refine a_iload (pc := 403) ok dL_holds_403 rfl ?_
                        refine a_icmp_ne (pc := 405) (tgt := 412) ok dL_holds_405 (by decide) (by first | exact rg_w _ | exact rg_tw (by unfold rg; omega) (by unfold rg; omega) | (unfold rg; omega) | omega | assumption | exact bz_rg _) (by first | exact rg_w _ | exact rg_tw (by unfold rg; omega) (by unfold rg; omega) | (unfold rg; omega) | omega | assumption | exact bz_rg _) (fun c405 => ?_) (fun c405 => ?_)
                        · refine a_iconst (pc := 412) ok dL_holds_412 ?_
                          refine a_iadd (pc := 413) ok dL_holds_413 ?_
                          refine a_istore (pc := 414) ok dL_holds_414 rfl (by rw [hN]; decide) ?_
                          refine a_aload (pc := 416) ok dL_holds_416 rfl ?_
                          refine a_aload (pc := 418) ok dL_holds_418 rfl ?_
                          refine a_iload (pc := 420) ok dL_holds_420 rfl ?_
                          refine a_haL (pc := 422) (j := 1) ok (WO_len hW) dL_holds_422 rfl (by decide) (by first | omega | (unfold rg; omega)) ?_
                          refine a_dup2 (pc := 423) ok dL_holds_423 rfl rfl ?_
                          refine a_haL (pc := 424) (j := 2) ok (WO_len hW) dL_holds_424 rfl (by decide) (by first | omega | (unfold rg; omega)) ?_
                          refine a_iconst (pc := 425) ok dL_holds_425 ?_
                          refine a_iadd (pc := 426) ok dL_holds_426 ?_
                          refine a_haS (pc := 427) (j := 2) ok (WO_len hW) dL_holds_427 rfl (by decide) (by omega) ?_
                          refine a_aload (pc := 428) ok dL_holds_428 rfl ?_
                          refine a_aload (pc := 430) ok dL_holds_430 rfl ?_
                          refine a_iload (pc := 432) ok dL_holds_432 rfl ?_
                          refine a_haL (pc := 434) (j := 0) ok (WO_len hW) dL_holds_434 rfl (by decide) (by first | omega | (unfold rg; omega)) ?_
                          refine a_dup2 (pc := 435) ok dL_holds_435 rfl rfl ?_
                          refine a_haL (pc := 436) (j := 3) ok (WO_len hW) dL_holds_436 rfl (by decide) (by first | omega | (unfold rg; omega)) ?_
                          refine a_iconst (pc := 437) ok dL_holds_437 ?_
                          refine a_iadd (pc := 438) ok dL_holds_438 ?_
                          refine a_haS (pc := 439) (j := 3) ok (WO_len hW) dL_holds_439 rfl (by decide) (by omega) ?_
                          refine AW.widen (kc2 := 120 + 10 * (k + 1)) (ks2 := 1200 + 60 * (k + 1)) (by show 120 + 10 * k + 1 + 1 + 1 ≤ _; omega) (by show 1200 + 60 * k + 6 + 6 + 6 ≤ _; omega) ?_
                          refine a_iinc (pc := 440) ok dL_holds_440 rfl rfl (by rw [hN]; decide) ?_
                          refine a_goto (pc := 443) (tgt := 196) ok dL_holds_443 (by decide) ?_
                          have z9 : (bS (jS A)) (k : Int) ≠ (bnd (sT (jS A)) (sN (jS A)) (sG (jS A))) (k : Int) := fun y => c316 (by rw [u7]; rw [hbn] at y; exact y.symm)
                          have q12 : cntK (fun j => decide (bS (jS A) j ≠ (bnd (sT (jS A)) (sN (jS A)) (sG (jS A))) j)) k + 1 = cntK (fun j => decide (bS (jS A) j ≠ (bnd (sT (jS A)) (sN (jS A)) (sG (jS A))) j)) (k + 1) := by rw [cntK_1, if_pos (decide_eq_true z9)]
                          have q15 : rk (sC (jS A)) (sR (jS A)) (bS (jS A)) ((k : Int)) + 0 = rk (sC (jS A)) (sR (jS A)) (bS (jS A)) (((k + 1 : Nat) : Int)) := by rw [nS, if_neg (fun y => c405 (by rw [u8]; exact o1.2.2.mpr y))]
                          refine AW.cast (fin M _ _ _ _ (some (iv (sG (jS A) k))) (some (iv (cntK (fun j => decide (sT (jS A) j ≤ sG (jS A) k)) (sN (jS A))))) (some (iv (sN (jS A) : Int))) hW hI2) ?_ rfl ?_
                          · rw [← q12, ← q15] <;> rfl
                          · show M ++ [_, _, ia 64 (up f9 (up f8 (k : Int) ((own (sC (jS A)) (sR (jS A)) (bS (jS A))) k) k) (f9 (up f8 (k : Int) ((own (sC (jS A)) (sR (jS A)) (bS (jS A))) k) k) + 1)), ia 6 (up f10 (up f7 (k : Int) ((bS (jS A)) k) k) (f10 (up f7 (k : Int) ((bS (jS A)) k) k) + 1)), _] = _
                            rw [u7, u8]
                        · refine a_iconst (pc := 408) ok dL_holds_408 ?_
                          refine a_goto (pc := 409) (tgt := 413) ok dL_holds_409 (by decide) ?_
                          refine a_iadd (pc := 413) ok dL_holds_413 ?_
                          refine a_istore (pc := 414) ok dL_holds_414 rfl (by rw [hN]; decide) ?_
                          refine a_aload (pc := 416) ok dL_holds_416 rfl ?_
                          refine a_aload (pc := 418) ok dL_holds_418 rfl ?_
                          refine a_iload (pc := 420) ok dL_holds_420 rfl ?_
                          refine a_haL (pc := 422) (j := 1) ok (WO_len hW) dL_holds_422 rfl (by decide) (by first | omega | (unfold rg; omega)) ?_
                          refine a_dup2 (pc := 423) ok dL_holds_423 rfl rfl ?_
                          refine a_haL (pc := 424) (j := 2) ok (WO_len hW) dL_holds_424 rfl (by decide) (by first | omega | (unfold rg; omega)) ?_
                          refine a_iconst (pc := 425) ok dL_holds_425 ?_
                          refine a_iadd (pc := 426) ok dL_holds_426 ?_
                          refine a_haS (pc := 427) (j := 2) ok (WO_len hW) dL_holds_427 rfl (by decide) (by omega) ?_
                          refine a_aload (pc := 428) ok dL_holds_428 rfl ?_
                          refine a_aload (pc := 430) ok dL_holds_430 rfl ?_
                          refine a_iload (pc := 432) ok dL_holds_432 rfl ?_
                          refine a_haL (pc := 434) (j := 0) ok (WO_len hW) dL_holds_434 rfl (by decide) (by first | omega | (unfold rg; omega)) ?_
                          refine a_dup2 (pc := 435) ok dL_holds_435 rfl rfl ?_
                          refine a_haL (pc := 436) (j := 3) ok (WO_len hW) dL_holds_436 rfl (by decide) (by first | omega | (unfold rg; omega)) ?_
                          refine a_iconst (pc := 437) ok dL_holds_437 ?_
                          refine a_iadd (pc := 438) ok dL_holds_438 ?_
                          refine a_haS (pc := 439) (j := 3) ok (WO_len hW) dL_holds_439 rfl (by decide) (by omega) ?_
                          refine AW.widen (kc2 := 120 + 10 * (k + 1)) (ks2 := 1200 + 60 * (k + 1)) (by show 120 + 10 * k + 1 + 1 + 1 ≤ _; omega) (by show 1200 + 60 * k + 6 + 6 + 6 ≤ _; omega) ?_
                          refine a_iinc (pc := 440) ok dL_holds_440 rfl rfl (by rw [hN]; decide) ?_
                          refine a_goto (pc := 443) (tgt := 196) ok dL_holds_443 (by decide) ?_
                          have z9 : (bS (jS A)) (k : Int) ≠ (bnd (sT (jS A)) (sN (jS A)) (sG (jS A))) (k : Int) := fun y => c316 (by rw [u7]; rw [hbn] at y; exact y.symm)
                          have q12 : cntK (fun j => decide (bS (jS A) j ≠ (bnd (sT (jS A)) (sN (jS A)) (sG (jS A))) j)) k + 1 = cntK (fun j => decide (bS (jS A) j ≠ (bnd (sT (jS A)) (sN (jS A)) (sG (jS A))) j)) (k + 1) := by rw [cntK_1, if_pos (decide_eq_true z9)]
                          have q15 : rk (sC (jS A)) (sR (jS A)) (bS (jS A)) ((k : Int)) + 1 = rk (sC (jS A)) (sR (jS A)) (bS (jS A)) (((k + 1 : Nat) : Int)) := by rw [nS, if_pos (o1.2.2.mp (by rw [u8] at c405; exact c405))]
                          refine AW.cast (fin M _ _ _ _ (some (iv (sG (jS A) k))) (some (iv (cntK (fun j => decide (sT (jS A) j ≤ sG (jS A) k)) (sN (jS A))))) (some (iv (sN (jS A) : Int))) hW hI2) ?_ rfl ?_
                          · rw [← q12, ← q15] <;> rfl
                          · show M ++ [_, _, ia 64 (up f9 (up f8 (k : Int) ((own (sC (jS A)) (sR (jS A)) (bS (jS A))) k) k) (f9 (up f8 (k : Int) ((own (sC (jS A)) (sR (jS A)) (bS (jS A))) k) k) + 1)), ia 6 (up f10 (up f7 (k : Int) ((bS (jS A)) k) k) (f10 (up f7 (k : Int) ((bS (jS A)) k) k) + 1)), _] = _
                            rw [u7, u8]
      · refine a_iconst (pc := 319) ok dL_holds_319 ?_
        refine a_goto (pc := 320) (tgt := 324) ok dL_holds_320 (by decide) ?_
        refine a_iadd (pc := 324) ok dL_holds_324 ?_
        refine a_istore (pc := 325) ok dL_holds_325 rfl (by rw [hN]; decide) ?_
        refine a_iload (pc := 327) ok dL_holds_327 rfl ?_
        refine a_if_lt (pc := 329) (tgt := 388) ok dL_holds_329 (by decide) (by first | exact rg_w _ | exact rg_tw (by unfold rg; omega) (by unfold rg; omega) | (unfold rg; omega) | omega | assumption | exact bz_rg _) (fun c329 => ?_) (fun c329 => ?_)
        · exfalso; first | omega | grind
        · refine a_iload (pc := 332) ok dL_holds_332 rfl ?_
          refine a_bipush (pc := 334) ok dL_holds_334 (by decide) ?_
          refine a_icmp_ge (pc := 336) (tgt := 388) ok dL_holds_336 (by decide) (by first | exact rg_w _ | exact rg_tw (by unfold rg; omega) (by unfold rg; omega) | (unfold rg; omega) | omega | assumption | exact bz_rg _) (by first | exact rg_w _ | exact rg_tw (by unfold rg; omega) (by unfold rg; omega) | (unfold rg; omega) | omega | assumption | exact bz_rg _) (fun c336 => ?_) (fun c336 => ?_)
          · exfalso; first | omega | grind
          · refine a_aload (pc := 339) ok dL_holds_339 rfl ?_
            refine a_iload (pc := 341) ok dL_holds_341 rfl ?_
            refine a_haL (pc := 343) (j := 0) ok (WO_len hW) dL_holds_343 rfl (by decide) (by first | exact rg_w _ | exact rg_tw (by unfold rg; omega) (by unfold rg; omega) | (unfold rg; omega) | omega | assumption | exact bz_rg _) ?_
            refine a_if_lt (pc := 344) (tgt := 388) ok dL_holds_344 (by decide) (by first | exact rg_w _ | exact rg_tw (by unfold rg; omega) (by unfold rg; omega) | (unfold rg; omega) | omega | assumption | exact bz_rg _) (fun c344 => ?_) (fun c344 => ?_)
            · exfalso; first | omega | grind
            · refine a_aload (pc := 347) ok dL_holds_347 rfl ?_
              refine a_iload (pc := 349) ok dL_holds_349 rfl ?_
              refine a_haL (pc := 351) (j := 0) ok (WO_len hW) dL_holds_351 rfl (by decide) (by first | exact rg_w _ | exact rg_tw (by unfold rg; omega) (by unfold rg; omega) | (unfold rg; omega) | omega | assumption | exact bz_rg _) ?_
              refine a_iload_n (pc := 352) ok dL_holds_352 rfl ?_
              refine a_icmp_gt (pc := 353) (tgt := 388) ok dL_holds_353 (by decide) (by first | exact rg_w _ | exact rg_tw (by unfold rg; omega) (by unfold rg; omega) | (unfold rg; omega) | omega | assumption | exact bz_rg _) (by first | exact rg_w _ | exact rg_tw (by unfold rg; omega) (by unfold rg; omega) | (unfold rg; omega) | omega | assumption | exact bz_rg _) (fun c353 => ?_) (fun c353 => ?_)
              · exfalso; first | omega | grind
              · refine a_aload (pc := 356) ok dL_holds_356 rfl ?_
                refine a_iload (pc := 358) ok dL_holds_358 rfl ?_
                refine a_haL (pc := 360) (j := 1) ok (WO_len hW) dL_holds_360 rfl (by decide) (by first | exact rg_w _ | exact rg_tw (by unfold rg; omega) (by unfold rg; omega) | (unfold rg; omega) | omega | assumption | exact bz_rg _) ?_
                refine a_if_lt (pc := 361) (tgt := 388) ok dL_holds_361 (by decide) (by first | exact rg_w _ | exact rg_tw (by unfold rg; omega) (by unfold rg; omega) | (unfold rg; omega) | omega | assumption | exact bz_rg _) (fun c361 => ?_) (fun c361 => ?_)
                · exfalso; first | omega | grind
                · refine a_aload (pc := 364) ok dL_holds_364 rfl ?_
                  refine a_iload (pc := 366) ok dL_holds_366 rfl ?_
                  refine a_haL (pc := 368) (j := 1) ok (WO_len hW) dL_holds_368 rfl (by decide) (by first | exact rg_w _ | exact rg_tw (by unfold rg; omega) (by unfold rg; omega) | (unfold rg; omega) | omega | assumption | exact bz_rg _) ?_
                  refine a_iload (pc := 369) ok dL_holds_369 rfl ?_
                  refine a_icmp_gt (pc := 371) (tgt := 388) ok dL_holds_371 (by decide) (by first | exact rg_w _ | exact rg_tw (by unfold rg; omega) (by unfold rg; omega) | (unfold rg; omega) | omega | assumption | exact bz_rg _) (by first | exact rg_w _ | exact rg_tw (by unfold rg; omega) (by unfold rg; omega) | (unfold rg; omega) | omega | assumption | exact bz_rg _) (fun c371 => ?_) (fun c371 => ?_)
                  · exfalso; first | omega | grind
                  · refine a_aload (pc := 374) ok dL_holds_374 rfl ?_
                    refine a_iload (pc := 376) ok dL_holds_376 rfl ?_
                    refine a_haL (pc := 378) (j := 1) ok (WO_len hW) dL_holds_378 rfl (by decide) (by first | exact rg_w _ | exact rg_tw (by unfold rg; omega) (by unfold rg; omega) | (unfold rg; omega) | omega | assumption | exact bz_rg _) ?_
                    refine a_iload (pc := 379) ok dL_holds_379 rfl ?_
                    refine a_icmp_ge (pc := 381) (tgt := 388) ok dL_holds_381 (by decide) (by first | exact rg_w _ | exact rg_tw (by unfold rg; omega) (by unfold rg; omega) | (unfold rg; omega) | omega | assumption | exact bz_rg _) (by first | exact rg_w _ | exact rg_tw (by unfold rg; omega) (by unfold rg; omega) | (unfold rg; omega) | omega | assumption | exact bz_rg _) (fun c381 => ?_) (fun c381 => ?_)
                    · exfalso; first | omega | grind
                    · refine a_iconst (pc := 384) ok dL_holds_384 ?_
                      refine a_goto (pc := 385) (tgt := 389) ok dL_holds_385 (by decide) ?_
                      refine a_istore (pc := 389) ok dL_holds_389 rfl (by rw [hN]; decide) ?_
                      refine a_iload (pc := 391) ok dL_holds_391 rfl ?_
                      refine a_if_eq (pc := 393) (tgt := 440) ok dL_holds_393 (by decide) (by first | exact rg_w _ | exact rg_tw (by unfold rg; omega) (by unfold rg; omega) | (unfold rg; omega) | omega | assumption | exact bz_rg _) (fun c393 => ?_) (fun c393 => ?_)
                      · exfalso; first | omega | grind
                      · refine a_iload (pc := 396) ok dL_holds_396 rfl ?_
                        refine a_aload (pc := 398) ok dL_holds_398 rfl ?_
                        refine a_iload (pc := 400) ok dL_holds_400 rfl ?_
                        refine a_haL (pc := 402) (j := 1) ok (WO_len hW) dL_holds_402 rfl (by decide) (by first | omega | (unfold rg; omega)) ?_
                        refine a_iload (pc := 403) ok dL_holds_403 rfl ?_
                        refine a_icmp_ne (pc := 405) (tgt := 412) ok dL_holds_405 (by decide) (by first | exact rg_w _ | exact rg_tw (by unfold rg; omega) (by unfold rg; omega) | (unfold rg; omega) | omega | assumption | exact bz_rg _) (by first | exact rg_w _ | exact rg_tw (by unfold rg; omega) (by unfold rg; omega) | (unfold rg; omega) | omega | assumption | exact bz_rg _) (fun c405 => ?_) (fun c405 => ?_)
                        · refine a_iconst (pc := 412) ok dL_holds_412 ?_
                          refine a_iadd (pc := 413) ok dL_holds_413 ?_
                          refine a_istore (pc := 414) ok dL_holds_414 rfl (by rw [hN]; decide) ?_
                          refine a_aload (pc := 416) ok dL_holds_416 rfl ?_
                          refine a_aload (pc := 418) ok dL_holds_418 rfl ?_
                          refine a_iload (pc := 420) ok dL_holds_420 rfl ?_
                          refine a_haL (pc := 422) (j := 1) ok (WO_len hW) dL_holds_422 rfl (by decide) (by first | omega | (unfold rg; omega)) ?_
                          refine a_dup2 (pc := 423) ok dL_holds_423 rfl rfl ?_
                          refine a_haL (pc := 424) (j := 2) ok (WO_len hW) dL_holds_424 rfl (by decide) (by first | omega | (unfold rg; omega)) ?_
                          refine a_iconst (pc := 425) ok dL_holds_425 ?_
                          refine a_iadd (pc := 426) ok dL_holds_426 ?_
                          refine a_haS (pc := 427) (j := 2) ok (WO_len hW) dL_holds_427 rfl (by decide) (by omega) ?_
                          refine a_aload (pc := 428) ok dL_holds_428 rfl ?_
                          refine a_aload (pc := 430) ok dL_holds_430 rfl ?_
                          refine a_iload (pc := 432) ok dL_holds_432 rfl ?_
                          refine a_haL (pc := 434) (j := 0) ok (WO_len hW) dL_holds_434 rfl (by decide) (by first | omega | (unfold rg; omega)) ?_
                          refine a_dup2 (pc := 435) ok dL_holds_435 rfl rfl ?_
                          refine a_haL (pc := 436) (j := 3) ok (WO_len hW) dL_holds_436 rfl (by decide) (by first | omega | (unfold rg; omega)) ?_
                          refine a_iconst (pc := 437) ok dL_holds_437 ?_
                          refine a_iadd (pc := 438) ok dL_holds_438 ?_
                          refine a_haS (pc := 439) (j := 3) ok (WO_len hW) dL_holds_439 rfl (by decide) (by omega) ?_
                          refine AW.widen (kc2 := 120 + 10 * (k + 1)) (ks2 := 1200 + 60 * (k + 1)) (by show 120 + 10 * k + 1 + 1 + 1 ≤ _; omega) (by show 1200 + 60 * k + 6 + 6 + 6 ≤ _; omega) ?_
                          refine a_iinc (pc := 440) ok dL_holds_440 rfl rfl (by rw [hN]; decide) ?_
                          refine a_goto (pc := 443) (tgt := 196) ok dL_holds_443 (by decide) ?_
                          have z9 : (bS (jS A)) (k : Int) = (bnd (sT (jS A)) (sN (jS A)) (sG (jS A))) (k : Int) := by rw [hbn]; rw [u7] at c316; exact c316.symm
                          have z8 : decide ((bS (jS A)) (k : Int) ≠ (bnd (sT (jS A)) (sN (jS A)) (sG (jS A))) (k : Int)) = false := decide_eq_false (p := (bS (jS A)) (k : Int) ≠ (bnd (sT (jS A)) (sN (jS A)) (sG (jS A))) (k : Int)) (fun y => y z9)
                          have q12 : cntK (fun j => decide (bS (jS A) j ≠ (bnd (sT (jS A)) (sN (jS A)) (sG (jS A))) j)) k + 0 = cntK (fun j => decide (bS (jS A) j ≠ (bnd (sT (jS A)) (sN (jS A)) (sG (jS A))) j)) (k + 1) := by rw [cntK_1, if_neg (by rw [z8]; decide)]
                          have q15 : rk (sC (jS A)) (sR (jS A)) (bS (jS A)) ((k : Int)) + 0 = rk (sC (jS A)) (sR (jS A)) (bS (jS A)) (((k + 1 : Nat) : Int)) := by rw [nS, if_neg (fun y => c405 (by rw [u8]; exact o1.2.2.mpr y))]
                          refine AW.cast (fin M _ _ _ _ (some (iv (sG (jS A) k))) (some (iv (cntK (fun j => decide (sT (jS A) j ≤ sG (jS A) k)) (sN (jS A))))) (some (iv (sN (jS A) : Int))) hW hI2) ?_ rfl ?_
                          · rw [← q12, ← q15] <;> rfl
                          · show M ++ [_, _, ia 64 (up f9 (up f8 (k : Int) ((own (sC (jS A)) (sR (jS A)) (bS (jS A))) k) k) (f9 (up f8 (k : Int) ((own (sC (jS A)) (sR (jS A)) (bS (jS A))) k) k) + 1)), ia 6 (up f10 (up f7 (k : Int) ((bS (jS A)) k) k) (f10 (up f7 (k : Int) ((bS (jS A)) k) k) + 1)), _] = _
                            rw [u7, u8]
                        · refine a_iconst (pc := 408) ok dL_holds_408 ?_
                          refine a_goto (pc := 409) (tgt := 413) ok dL_holds_409 (by decide) ?_
                          refine a_iadd (pc := 413) ok dL_holds_413 ?_
                          refine a_istore (pc := 414) ok dL_holds_414 rfl (by rw [hN]; decide) ?_
                          refine a_aload (pc := 416) ok dL_holds_416 rfl ?_
                          refine a_aload (pc := 418) ok dL_holds_418 rfl ?_
                          refine a_iload (pc := 420) ok dL_holds_420 rfl ?_
                          refine a_haL (pc := 422) (j := 1) ok (WO_len hW) dL_holds_422 rfl (by decide) (by first | omega | (unfold rg; omega)) ?_
                          refine a_dup2 (pc := 423) ok dL_holds_423 rfl rfl ?_
                          refine a_haL (pc := 424) (j := 2) ok (WO_len hW) dL_holds_424 rfl (by decide) (by first | omega | (unfold rg; omega)) ?_
                          refine a_iconst (pc := 425) ok dL_holds_425 ?_
                          refine a_iadd (pc := 426) ok dL_holds_426 ?_
                          refine a_haS (pc := 427) (j := 2) ok (WO_len hW) dL_holds_427 rfl (by decide) (by omega) ?_
                          refine a_aload (pc := 428) ok dL_holds_428 rfl ?_
                          refine a_aload (pc := 430) ok dL_holds_430 rfl ?_
                          refine a_iload (pc := 432) ok dL_holds_432 rfl ?_
                          refine a_haL (pc := 434) (j := 0) ok (WO_len hW) dL_holds_434 rfl (by decide) (by first | omega | (unfold rg; omega)) ?_
                          refine a_dup2 (pc := 435) ok dL_holds_435 rfl rfl ?_
                          refine a_haL (pc := 436) (j := 3) ok (WO_len hW) dL_holds_436 rfl (by decide) (by first | omega | (unfold rg; omega)) ?_
                          refine a_iconst (pc := 437) ok dL_holds_437 ?_
                          refine a_iadd (pc := 438) ok dL_holds_438 ?_
                          refine a_haS (pc := 439) (j := 3) ok (WO_len hW) dL_holds_439 rfl (by decide) (by omega) ?_
                          refine AW.widen (kc2 := 120 + 10 * (k + 1)) (ks2 := 1200 + 60 * (k + 1)) (by show 120 + 10 * k + 1 + 1 + 1 ≤ _; omega) (by show 1200 + 60 * k + 6 + 6 + 6 ≤ _; omega) ?_
                          refine a_iinc (pc := 440) ok dL_holds_440 rfl rfl (by rw [hN]; decide) ?_
                          refine a_goto (pc := 443) (tgt := 196) ok dL_holds_443 (by decide) ?_
                          have z9 : (bS (jS A)) (k : Int) = (bnd (sT (jS A)) (sN (jS A)) (sG (jS A))) (k : Int) := by rw [hbn]; rw [u7] at c316; exact c316.symm
                          have z8 : decide ((bS (jS A)) (k : Int) ≠ (bnd (sT (jS A)) (sN (jS A)) (sG (jS A))) (k : Int)) = false := decide_eq_false (p := (bS (jS A)) (k : Int) ≠ (bnd (sT (jS A)) (sN (jS A)) (sG (jS A))) (k : Int)) (fun y => y z9)
                          have q12 : cntK (fun j => decide (bS (jS A) j ≠ (bnd (sT (jS A)) (sN (jS A)) (sG (jS A))) j)) k + 0 = cntK (fun j => decide (bS (jS A) j ≠ (bnd (sT (jS A)) (sN (jS A)) (sG (jS A))) j)) (k + 1) := by rw [cntK_1, if_neg (by rw [z8]; decide)]
                          have q15 : rk (sC (jS A)) (sR (jS A)) (bS (jS A)) ((k : Int)) + 1 = rk (sC (jS A)) (sR (jS A)) (bS (jS A)) (((k + 1 : Nat) : Int)) := by rw [nS, if_pos (o1.2.2.mp (by rw [u8] at c405; exact c405))]
                          refine AW.cast (fin M _ _ _ _ (some (iv (sG (jS A) k))) (some (iv (cntK (fun j => decide (sT (jS A) j ≤ sG (jS A) k)) (sN (jS A))))) (some (iv (sN (jS A) : Int))) hW hI2) ?_ rfl ?_
                          · rw [← q12, ← q15] <;> rfl
                          · show M ++ [_, _, ia 64 (up f9 (up f8 (k : Int) ((own (sC (jS A)) (sR (jS A)) (bS (jS A))) k) k) (f9 (up f8 (k : Int) ((own (sC (jS A)) (sR (jS A)) (bS (jS A))) k) k) + 1)), ia 6 (up f10 (up f7 (k : Int) ((bS (jS A)) k) k) (f10 (up f7 (k : Int) ((bS (jS A)) k) k) + 1)), _] = _
                            rw [u7, u8]
    refine a_iload (pc := 196) ok dL_holds_196 rfl ?_
    refine a_iload (pc := 198) ok dL_holds_198 rfl ?_
    refine a_icmp_ge (pc := 200) (tgt := 446) ok dL_holds_200 (by decide) (by first | exact rg_w _ | exact rg_tw (by unfold rg; omega) (by unfold rg; omega) | (unfold rg; omega) | omega | assumption | exact bz_rg _) (by first | exact rg_w _ | exact rg_tw (by unfold rg; omega) (by unfold rg; omega) | (unfold rg; omega) | omega | assumption | exact bz_rg _) (fun c200 => ?_) (fun c200 => ?_)
    · exfalso; first | omega | grind
    · refine a_iload (pc := 203) ok dL_holds_203 rfl ?_
      refine a_if_eq (pc := 205) (tgt := 446) ok dL_holds_205 (by decide) (by first | exact rg_w _ | exact rg_tw (by unfold rg; omega) (by unfold rg; omega) | (unfold rg; omega) | omega | assumption | exact bz_rg _) (fun c205 => ?_) (fun c205 => ?_)
      · exfalso; first | omega | grind
      · refine a_aload_n (pc := 208) ok dL_holds_208 rfl ?_
        refine a_iconst (pc := 209) ok dL_holds_209 ?_
        refine a_iload (pc := 210) ok dL_holds_210 rfl ?_
        refine a_iload_n (pc := 212) ok dL_holds_212 rfl ?_
        refine a_irem (pc := 213) ok dL_holds_213 (by first | exact rg_w _ | exact rg_tw (by unfold rg; omega) (by unfold rg; omega) | (unfold rg; omega) | omega | assumption | exact bz_rg _) (by first | exact rg_w _ | exact rg_tw (by unfold rg; omega) (by unfold rg; omega) | (unfold rg; omega) | omega | assumption | exact bz_rg _) ?_
        refine a_iload (pc := 214) ok dL_holds_214 rfl ?_
        refine a_iload_n (pc := 216) ok dL_holds_216 rfl ?_
        refine a_idiv (pc := 217) ok dL_holds_217 (by first | exact rg_w _ | exact rg_tw (by unfold rg; omega) (by unfold rg; omega) | (unfold rg; omega) | omega | assumption | exact bz_rg _) (by first | exact rg_w _ | exact rg_tw (by unfold rg; omega) (by unfold rg; omega) | (unfold rg; omega) | omega | assumption | exact bz_rg _) ?_
        refine a_iconst (pc := 218) ok dL_holds_218 ?_
        refine v_h (pc := 219) ok ex gk.1 dL_holds_219 (ug2 16 (by decide +kernel) rfl) (ug2 17 (by decide +kernel) rfl) miL_call hW (ctv_eq y0 (ctv_ok (kc 0 (by omega) (by omega)) (C_3 hl hA hW (x := (k : Int) % sC (jS A)) (y := (k : Int) / sC (jS A)) (w := 0) (by unfold rg; omega) (by unfold rg; omega) (by unfold rg; omega)))) ⟨by decide, by decide⟩ ⟨by show 120 + 10 * k + 1 ≤ 5000; omega, by show 1200 + 60 * k + 6 ≤ 40000; omega⟩ rfl rfl (Nat.le_of_ble_eq_true rfl) ?_
        intro M hW
        refine a_istore (pc := 222) ok dL_holds_222 rfl (by rw [hN]; decide) ?_
        refine a_iconst (pc := 224) ok dL_holds_224 ?_
        refine a_istore (pc := 225) ok dL_holds_225 rfl (by rw [hN]; decide) ?_
        refine a_iconst (pc := 227) ok dL_holds_227 ?_
        refine a_istore (pc := 228) ok dL_holds_228 rfl (by rw [hN]; decide) ?_
        exact hold2i hl hN gk ex hA hB f7 f8 f9 f10 f11 gg hf hW (k262 M hW) (sN (jS A)) 0 (by omega)
end HO3
