/-! THE LAW: its loop -/
theorem sp_mx6 : ∀ u, u < 6 → ∀ j, j < 51 → sj_wi (nI j) 0 (sj_mst (nI u)) = true := by decide +kernel
theorem sp_mx7 : ∀ j, j < 100 → sj_wi (nI j) 0 (sj_mst (nI 6)) = true := by decide +kernel
theorem sp_mx8 : ∀ j, j < 10 → sj_wi (nI j) 0 (sj_mst (nI 7)) = true := by decide +kernel
theorem sp_mx9 : ∀ j, j < 7 → sj_wi (nI j) 0 (sj_mst (nI 8)) = true := by decide +kernel
set_option maxRecDepth 100000 in
set_option maxHeartbeats 400000 in
theorem lw_turn {X : sj_X} {nm : String} (C : sj_C X (mL_law nm)) (hl : X.2.1.stackTraces = false) {b Lx : Nat} {xs : Nat → Int32} (hT : sj_Scr X b Lx xs) (hLx : Lx ≤ 260) {k : Nat} (hk36 : k < 36) {S : sj_St} {g : Nat → Nat} {m : Nat → Int32} {p q : Nat} {Q : Nat → Nat → Int32} {n : Nat} {B : Nat → Int32} (hM : sp_M S g m m p q Q n B) {cl sl : Nat} (hcl : cl ≤ 600000) (hsl : sl ≤ 7000000) (hK : ∀ (U : sj_St) (m' : Nat → Int32) (p' q' : Nat) (Q' : Nat → Nat → Int32) (n' : Nat) (B' : Nat → Int32) (cl' sl' : Nat), sp_M U g m' m' p' q' Q' n' B' → cl' ≤ cl + 800 → sl' ≤ sl + 5000 → sj_G X U cl' sl' [some (.ref b), some (.ref (g 141)), some (.ref (g 142)), some (.ref (g 143)), some (.ref (g 144)), some (.ref (g 145)), some (.ref (g 146)), some (.ref (g 147)), some (.int (nI (k))), none, none, none, none, none, none, none, none, none] 616 []) : sj_G X S cl sl [some (.ref b), some (.ref (g 141)), some (.ref (g 142)), some (.ref (g 143)), some (.ref (g 144)), some (.ref (g 145)), some (.ref (g 146)), some (.ref (g 147)), some (.int (nI (k))), none, none, none, none, none, none, none, none, none] 96 [] := by
  have hz := hM.2.2.2
  have kd_q := hz.2.1.1.1
  have il_q := hz.2.1.1.2
  have h8q := hM.2.1.1.1.2
  have hq9 : sj_ia S (g 142) 9 = nI (sj_tn (m 9)) := (hz.2.1.2.2.2.2.2.1 9 (by omega)).trans hM.2.1.1.1.1
  have hcl9 : cl ≤ 600000 := by omega
  have hsl9 : sl ≤ 7000000 := by omega
  have cut_426 : ∀ kd u : Nat, kd ≤ 6 → u < 9 → ∀ v : Nat, (kd = 0 → v ≤ 99) → (0 < kd → sp_ok kd u v) → sj_G X S cl sl [some (.ref b), some (.ref (g 141)), some (.ref (g 142)), some (.ref (g 143)), some (.ref (g 144)), some (.ref (g 145)), some (.ref (g 146)), some (.ref (g 147)), some (.int (nI (k))), some (.int ((sp_cell Lx xs (2 * k)))), some (.int ((sp_cell Lx xs (2 * k + 1)))), some (.int (nI (kd))), some (.int (nI (u))), none, none, none, none, none] 426 [.int (nI v)] := by
    intro kd u hkd hu v h0 h1
    refine sj_istore_13 C 428 rfl dL_law_426 rfl rfl ?_
    exact lw_tail C hl hM _ _ h0 h1 hcl9 hsl9 hK
  have cut_263 : ∀ kd : Nat, kd ≤ 6 → ∀ u : Nat, u < 9 → sj_G X S cl sl [some (.ref b), some (.ref (g 141)), some (.ref (g 142)), some (.ref (g 143)), some (.ref (g 144)), some (.ref (g 145)), some (.ref (g 146)), some (.ref (g 147)), some (.int (nI (k))), some (.int ((sp_cell Lx xs (2 * k)))), some (.int ((sp_cell Lx xs (2 * k + 1)))), some (.int (nI (kd))), none, none, none, none, none, none] 263 [.int (nI u)] := by
    intro kd hkd u hu
    have cut_426 := cut_426 kd u hkd hu
    refine sj_istore_12 C 265 rfl dL_law_263 rfl rfl ?_
    refine sj_iload C 267 rfl dL_law_265 rfl ?_
    refine sj_if_ne C 299 270 rfl rfl dL_law_267 (fun c_267 => ?_) (fun c_267 => ?_)
    · refine sj_iload C 301 rfl dL_law_299 rfl ?_
      refine sj_iconstv C (4) 302 rfl dL_law_301 rfl ?_
      refine sj_icmp_ne C 336 305 rfl rfl dL_law_302 (fun c_302 => ?_) (fun c_302 => ?_)
      · refine sj_iload C 338 rfl dL_law_336 rfl ?_
        refine sj_iconstv C (5) 339 rfl dL_law_338 rfl ?_
        refine sj_icmp_ne C 390 342 rfl rfl dL_law_339 (fun c_339 => ?_) (fun c_339 => ?_)
        · have hk : kd ≠ 0 ∧ kd ≠ 4 ∧ kd ≠ 5 := ⟨fun h => c_267 (by rw [h]; rfl), fun h => c_302 (by rw [h]; rfl), fun h => c_339 (by rw [h]; rfl)⟩
          refine sj_iload C 392 rfl dL_law_390 rfl ?_
          refine sj_iconstv C (4) 393 rfl dL_law_392 rfl ?_
          refine sj_ishr C 394 rfl dL_law_393 ?_
          refine sj_iload C 396 rfl dL_law_394 rfl ?_
          refine sj_bipush C (20) 398 rfl dL_law_396 (by decide) ?_
          refine sj_ishr C 399 rfl dL_law_398 ?_
          refine sj_bipush C (9) 401 rfl dL_law_399 (by decide) ?_
          refine sj_callSd C 404 rfl dL_law_401 cv_L_85 (sj_fitO rfl rfl (show cl + 0 ≤ 677992 by omega) (show sl + 0 ≤ 7067491 by omega)) (ct_L_low _ _ (((sp_cell Lx xs (2 * k + 1))) >>> (20 &&& 31)) _ (by decide)) rfl rfl rfl ⟨rfl, rfl⟩ ?_
          have lw404 := sp_lw_lt (((sp_cell Lx xs (2 * k + 1))) >>> (20 &&& 31)) (n := 9) (by omega) (by omega)
          rw [show sp_low (((sp_cell Lx xs (2 * k + 1))) >>> (20 &&& 31)) 9 = nI (sp_lw (((sp_cell Lx xs (2 * k + 1))) >>> (20 &&& 31)) 9) from sp_lw_e _ (n := 9) (by omega) (by omega)]
          have cut_423 : ∀ j423 : Int32, (((nI (sp_lw (((sp_cell Lx xs (2 * k + 1))) >>> (20 &&& 31)) 9) = 0) ∧ j423 = 8) ∨ ((¬ nI (sp_lw (((sp_cell Lx xs (2 * k + 1))) >>> (20 &&& 31)) 9) = 0) ∧ (¬ nI (sj_tn (m 9)) = 0) ∧ j423 = nI (sj_tn (m 9))) ∨ ((¬ nI (sp_lw (((sp_cell Lx xs (2 * k + 1))) >>> (20 &&& 31)) 9) = 0) ∧ (nI (sj_tn (m 9)) = 0) ∧ j423 = 8)) → sj_G X S cl sl [some (.ref b), some (.ref (g 141)), some (.ref (g 142)), some (.ref (g 143)), some (.ref (g 144)), some (.ref (g 145)), some (.ref (g 146)), some (.ref (g 147)), some (.int (nI (k))), some (.int ((sp_cell Lx xs (2 * k)))), some (.int ((sp_cell Lx xs (2 * k + 1)))), some (.int (nI (kd))), some (.int (nI (u))), none, none, none, none, none] 423 [.int (j423), .int (((sp_cell Lx xs (2 * k + 1))) >>> (4 &&& 31))] := by
            intro j423 h423
            obtain ⟨z2, hz20, hz28, rfl⟩ : ∃ z : Nat, 0 < z ∧ z ≤ 8 ∧ j423 = nI z := by
              rcases h423 with h | h | h
              · exact ⟨8, by omega, by omega, h.2⟩
              · exact ⟨sj_tn (m 9), Nat.pos_of_ne_zero (fun h9 => h.2.1 (by rw [h9]; rfl)), h8q, h.2.2⟩
              · exact ⟨8, by omega, by omega, h.2.2⟩
            refine sj_callSd C 426 rfl dL_law_423 cv_L_85 (sj_fitO rfl rfl (show cl + 0 ≤ 677992 by omega) (show sl + 0 ≤ 7067491 by omega)) (ct_L_low _ _ (((sp_cell Lx xs (2 * k + 1))) >>> (4 &&& 31)) _ (nI_ne0 (by omega) (by omega))) rfl rfl rfl ⟨rfl, rfl⟩ ?_
            have lw426 := sp_lw_lt (((sp_cell Lx xs (2 * k + 1))) >>> (4 &&& 31)) (n := z2) (by omega) (by omega)
            rw [show sp_low (((sp_cell Lx xs (2 * k + 1))) >>> (4 &&& 31)) (nI z2) = nI (sp_lw (((sp_cell Lx xs (2 * k + 1))) >>> (4 &&& 31)) z2) from sp_lw_e _ (n := z2) (by omega) (by omega)]
            exact cut_426 _ (fun h => absurd h (by omega)) (fun _ => Or.inr (Or.inr ⟨by omega, hu, by omega⟩))
          refine sj_if_eq C 414 407 rfl rfl dL_law_404 (fun c_404 => ?_) (fun c_404 => ?_)
          · refine sj_bipush C (8) 416 rfl dL_law_414 (by decide) ?_
            refine sj_goto C 423 rfl dL_law_416 ?_
            exact cut_423 _  (Or.inl ⟨c_404, rfl⟩)
          · refine sj_aload_n C 408 rfl dL_law_407 rfl rfl ?_
            refine sj_bipush C (9) 410 rfl dL_law_408 (by decide) ?_
            refine sj_iald C 411 rfl dL_law_410 kd_q (sp_vp (i := 9) il_q (by omega) (by omega)) ?_
            rw [show Int32.toNatClampNeg 9 = 9 from rfl]
            rw [hq9]
            refine sj_if_ne C 419 414 rfl rfl dL_law_411 (fun c_411 => ?_) (fun c_411 => ?_)
            · refine sj_aload_n C 420 rfl dL_law_419 rfl rfl ?_
              refine sj_bipush C (9) 422 rfl dL_law_420 (by decide) ?_
              refine sj_iald C 423 rfl dL_law_422 kd_q (sp_vp (i := 9) il_q (by omega) (by omega)) ?_
              rw [show Int32.toNatClampNeg 9 = 9 from rfl]
              rw [hq9]
              exact cut_423 _  (Or.inr (Or.inl ⟨c_404, c_411, rfl⟩))
            · refine sj_bipush C (8) 416 rfl dL_law_414 (by decide) ?_
              refine sj_goto C 423 rfl dL_law_416 ?_
              exact cut_423 _  (Or.inr (Or.inr (⟨c_404, c_411, rfl⟩)))
        · have hk : kd = 5 := (nI_eq (by omega) (by omega)).mp (show nI kd = nI 5 from c_339)
          refine sj_iload C 344 rfl dL_law_342 rfl ?_
          refine sj_iconstv C (4) 345 rfl dL_law_344 rfl ?_
          refine sj_ishr C 346 rfl dL_law_345 ?_
          refine sj_iload C 348 rfl dL_law_346 rfl ?_
          refine sj_bipush C (6) 350 rfl dL_law_348 (by decide) ?_
          have cut_384 : ∀ j384 : Int32, (((6 ≤ nI (u)) ∧ (¬ nI (u) = 6) ∧ (¬ nI (u) = 7) ∧ j384 = 7) ∨ ((6 ≤ nI (u)) ∧ (¬ nI (u) = 6) ∧ (nI (u) = 7) ∧ j384 = 10) ∨ ((6 ≤ nI (u)) ∧ (nI (u) = 6) ∧ j384 = 100) ∨ ((¬ 6 ≤ nI (u)) ∧ j384 = 51)) → sj_G X S cl sl [some (.ref b), some (.ref (g 141)), some (.ref (g 142)), some (.ref (g 143)), some (.ref (g 144)), some (.ref (g 145)), some (.ref (g 146)), some (.ref (g 147)), some (.int (nI (k))), some (.int ((sp_cell Lx xs (2 * k)))), some (.int ((sp_cell Lx xs (2 * k + 1)))), some (.int (nI (kd))), some (.int (nI (u))), none, none, none, none, none] 384 [.int (j384), .int (((sp_cell Lx xs (2 * k + 1))) >>> (4 &&& 31))] := by
            intro j384 h384
            obtain ⟨z7, hz0, hz8, hm7, rfl⟩ : ∃ z : Nat, 0 < z ∧ z < 1000 ∧ (∀ j, j < z → sj_wi (nI j) 0 (sj_mst (nI u)) = true) ∧ j384 = nI z := by
              rcases h384 with h | h | h | h
              · have h9 : ¬ u < 6 := fun h5 => nI_ge h5 (by omega) h.1
                have h10 : u ≠ 6 := fun h5 => h.2.1 (by rw [h5]; rfl)
                have h11 : u ≠ 7 := fun h5 => h.2.2.1 (by rw [h5]; rfl)
                have h12 : u = 8 := by omega
                exact ⟨7, by omega, by omega, by rw [h12]; exact sp_mx9, h.2.2.2⟩
              · have h9 : u = 7 := (nI_eq (by omega) (by omega)).mp h.2.2.1
                exact ⟨10, by omega, by omega, by rw [h9]; exact sp_mx8, h.2.2.2⟩
              · have h9 : u = 6 := (nI_eq (by omega) (by omega)).mp h.2.1
                exact ⟨100, by omega, by omega, by rw [h9]; exact sp_mx7, h.2.2⟩
              · have h9 : u < 6 := Nat.not_le.mp (fun h5 => h.1 (nI_le h5 (by omega)))
                exact ⟨51, by omega, by omega, sp_mx6 u h9, h.2⟩
            refine sj_callSd C 387 rfl dL_law_384 cv_L_85 (sj_fitO rfl rfl (show cl + 0 ≤ 677992 by omega) (show sl + 0 ≤ 7067491 by omega)) (ct_L_low _ _ (((sp_cell Lx xs (2 * k + 1))) >>> (4 &&& 31)) _ (nI_ne0 (by omega) (by omega))) rfl rfl rfl ⟨rfl, rfl⟩ ?_
            have lw387 := sp_lw_lt (((sp_cell Lx xs (2 * k + 1))) >>> (4 &&& 31)) (n := z7) (by omega) (by omega)
            rw [show sp_low (((sp_cell Lx xs (2 * k + 1))) >>> (4 &&& 31)) (nI z7) = nI (sp_lw (((sp_cell Lx xs (2 * k + 1))) >>> (4 &&& 31)) z7) from sp_lw_e _ (n := z7) (by omega) (by omega)]
            refine sj_goto C 426 rfl dL_law_387 ?_
            exact cut_426 _ (fun h => absurd h (by omega)) (fun _ => Or.inr (Or.inl ⟨hk, hu, hm7 _ (by assumption)⟩))
          refine sj_icmp_ge C 358 353 rfl rfl dL_law_350 (fun c_350 => ?_) (fun c_350 => ?_)
          · refine sj_iload C 360 rfl dL_law_358 rfl ?_
            refine sj_bipush C (6) 362 rfl dL_law_360 (by decide) ?_
            refine sj_icmp_ne C 370 365 rfl rfl dL_law_362 (fun c_362 => ?_) (fun c_362 => ?_)
            · refine sj_iload C 372 rfl dL_law_370 rfl ?_
              refine sj_bipush C (7) 374 rfl dL_law_372 (by decide) ?_
              refine sj_icmp_ne C 382 377 rfl rfl dL_law_374 (fun c_374 => ?_) (fun c_374 => ?_)
              · refine sj_bipush C (7) 384 rfl dL_law_382 (by decide) ?_
                exact cut_384 _  (Or.inl ⟨c_350, c_362, c_374, rfl⟩)
              · refine sj_bipush C (10) 379 rfl dL_law_377 (by decide) ?_
                refine sj_goto C 384 rfl dL_law_379 ?_
                exact cut_384 _  (Or.inr (Or.inl ⟨c_350, c_362, c_374, rfl⟩))
            · refine sj_bipush C (100) 367 rfl dL_law_365 (by decide) ?_
              refine sj_goto C 384 rfl dL_law_367 ?_
              exact cut_384 _  (Or.inr (Or.inr (Or.inl ⟨c_350, c_362, rfl⟩)))
          · refine sj_bipush C (51) 355 rfl dL_law_353 (by decide) ?_
            refine sj_goto C 384 rfl dL_law_355 ?_
            exact cut_384 _  (Or.inr (Or.inr (Or.inr (⟨c_350, rfl⟩))))
      · have hk : kd = 4 := (nI_eq (by omega) (by omega)).mp (show nI kd = nI 4 from c_302)
        refine sj_iconstv C (1) 306 rfl dL_law_305 rfl ?_
        refine sj_iload C 308 rfl dL_law_306 rfl ?_
        refine sj_iconstv C (4) 309 rfl dL_law_308 rfl ?_
        refine sj_ishr C 310 rfl dL_law_309 ?_
        refine sj_iload C 312 rfl dL_law_310 rfl ?_
        refine sj_bipush C (20) 314 rfl dL_law_312 (by decide) ?_
        refine sj_ishr C 315 rfl dL_law_314 ?_
        refine sj_iconstv C (3) 316 rfl dL_law_315 rfl ?_
        refine sj_callSd C 319 rfl dL_law_316 cv_L_85 (sj_fitO rfl rfl (show cl + 0 ≤ 677992 by omega) (show sl + 0 ≤ 7067491 by omega)) (ct_L_low _ _ (((sp_cell Lx xs (2 * k + 1))) >>> (20 &&& 31)) _ (by decide)) rfl rfl rfl ⟨rfl, rfl⟩ ?_
        have lw319 := sp_lw_lt (((sp_cell Lx xs (2 * k + 1))) >>> (20 &&& 31)) (n := 3) (by omega) (by omega)
        rw [show sp_low (((sp_cell Lx xs (2 * k + 1))) >>> (20 &&& 31)) 3 = nI (sp_lw (((sp_cell Lx xs (2 * k + 1))) >>> (20 &&& 31)) 3) from sp_lw_e _ (n := 3) (by omega) (by omega)]
        have cut_329 : ∀ j329 : Int32, (j329 = if nI (sp_lw (((sp_cell Lx xs (2 * k + 1))) >>> (20 &&& 31)) 3) = 0 then 99 else 12) → sj_G X S cl sl [some (.ref b), some (.ref (g 141)), some (.ref (g 142)), some (.ref (g 143)), some (.ref (g 144)), some (.ref (g 145)), some (.ref (g 146)), some (.ref (g 147)), some (.int (nI (k))), some (.int ((sp_cell Lx xs (2 * k)))), some (.int ((sp_cell Lx xs (2 * k + 1)))), some (.int (nI (kd))), some (.int (nI (u))), none, none, none, none, none] 329 [.int (j329), .int (((sp_cell Lx xs (2 * k + 1))) >>> (4 &&& 31)), .int (1)] := by
          intro j329 h329
          obtain ⟨z4, hz40, hz48, rfl⟩ : ∃ z : Nat, 0 < z ∧ z ≤ 99 ∧ j329 = nI z := by
            rw [h329]
            split
            · exact ⟨99, by omega, by omega, rfl⟩
            · exact ⟨12, by omega, by omega, rfl⟩
          refine sj_callSd C 332 rfl dL_law_329 cv_L_85 (sj_fitO rfl rfl (show cl + 0 ≤ 677992 by omega) (show sl + 0 ≤ 7067491 by omega)) (ct_L_low _ _ (((sp_cell Lx xs (2 * k + 1))) >>> (4 &&& 31)) _ (nI_ne0 (by omega) (by omega))) rfl rfl rfl ⟨rfl, rfl⟩ ?_
          have lw332 := sp_lw_lt (((sp_cell Lx xs (2 * k + 1))) >>> (4 &&& 31)) (n := z4) (by omega) (by omega)
          rw [show sp_low (((sp_cell Lx xs (2 * k + 1))) >>> (4 &&& 31)) (nI z4) = nI (sp_lw (((sp_cell Lx xs (2 * k + 1))) >>> (4 &&& 31)) z4) from sp_lw_e _ (n := z4) (by omega) (by omega)]
          refine sj_iadd C 333 rfl dL_law_332 ?_
          rw [show (1 : Int32) + nI (sp_lw (((sp_cell Lx xs (2 * k + 1))) >>> (4 &&& 31)) z4) = nI (1 + (sp_lw (((sp_cell Lx xs (2 * k + 1))) >>> (4 &&& 31)) z4)) from nI_add 1 (sp_lw (((sp_cell Lx xs (2 * k + 1))) >>> (4 &&& 31)) z4)]
          refine sj_goto C 426 rfl dL_law_333 ?_
          exact cut_426 _ (fun h => absurd h (by omega)) (fun _ => Or.inl ⟨hk, by omega, by omega⟩)
        refine sj_if_ne C 327 322 rfl rfl dL_law_319 (fun c_319 => ?_) (fun c_319 => ?_)
        · refine sj_bipush C (12) 329 rfl dL_law_327 (by decide) ?_
          exact cut_329 _  ((if_neg c_319).symm)
        · refine sj_bipush C (99) 324 rfl dL_law_322 (by decide) ?_
          refine sj_goto C 329 rfl dL_law_324 ?_
          exact cut_329 _  ((if_pos c_319).symm)
    · have hk : kd = 0 := (nI_eq (by omega) (by omega)).mp (show nI kd = nI 0 from c_267)
      refine sj_iload C 272 rfl dL_law_270 rfl ?_
      refine sj_iconstv C (4) 273 rfl dL_law_272 rfl ?_
      refine sj_ishr C 274 rfl dL_law_273 ?_
      refine sj_iload C 276 rfl dL_law_274 rfl ?_
      refine sj_bipush C (20) 278 rfl dL_law_276 (by decide) ?_
      refine sj_ishr C 279 rfl dL_law_278 ?_
      refine sj_iconstv C (2) 280 rfl dL_law_279 rfl ?_
      refine sj_callSd C 283 rfl dL_law_280 cv_L_85 (sj_fitO rfl rfl (show cl + 0 ≤ 677992 by omega) (show sl + 0 ≤ 7067491 by omega)) (ct_L_low _ _ (((sp_cell Lx xs (2 * k + 1))) >>> (20 &&& 31)) _ (by decide)) rfl rfl rfl ⟨rfl, rfl⟩ ?_
      have lw283 := sp_lw_lt (((sp_cell Lx xs (2 * k + 1))) >>> (20 &&& 31)) (n := 2) (by omega) (by omega)
      rw [show sp_low (((sp_cell Lx xs (2 * k + 1))) >>> (20 &&& 31)) 2 = nI (sp_lw (((sp_cell Lx xs (2 * k + 1))) >>> (20 &&& 31)) 2) from sp_lw_e _ (n := 2) (by omega) (by omega)]
      have cut_293 : ∀ j293 : Int32, (j293 = if nI (sp_lw (((sp_cell Lx xs (2 * k + 1))) >>> (20 &&& 31)) 2) = 0 then 100 else 30) → sj_G X S cl sl [some (.ref b), some (.ref (g 141)), some (.ref (g 142)), some (.ref (g 143)), some (.ref (g 144)), some (.ref (g 145)), some (.ref (g 146)), some (.ref (g 147)), some (.int (nI (k))), some (.int ((sp_cell Lx xs (2 * k)))), some (.int ((sp_cell Lx xs (2 * k + 1)))), some (.int (nI (kd))), some (.int (nI (u))), none, none, none, none, none] 293 [.int (j293), .int (((sp_cell Lx xs (2 * k + 1))) >>> (4 &&& 31))] := by
        intro j293 h293
        obtain ⟨z3, hz30, hz38, rfl⟩ : ∃ z : Nat, 0 < z ∧ z ≤ 100 ∧ j293 = nI z := by
          rw [h293]
          split
          · exact ⟨100, by omega, by omega, rfl⟩
          · exact ⟨30, by omega, by omega, rfl⟩
        refine sj_callSd C 296 rfl dL_law_293 cv_L_85 (sj_fitO rfl rfl (show cl + 0 ≤ 677992 by omega) (show sl + 0 ≤ 7067491 by omega)) (ct_L_low _ _ (((sp_cell Lx xs (2 * k + 1))) >>> (4 &&& 31)) _ (nI_ne0 (by omega) (by omega))) rfl rfl rfl ⟨rfl, rfl⟩ ?_
        have lw296 := sp_lw_lt (((sp_cell Lx xs (2 * k + 1))) >>> (4 &&& 31)) (n := z3) (by omega) (by omega)
        rw [show sp_low (((sp_cell Lx xs (2 * k + 1))) >>> (4 &&& 31)) (nI z3) = nI (sp_lw (((sp_cell Lx xs (2 * k + 1))) >>> (4 &&& 31)) z3) from sp_lw_e _ (n := z3) (by omega) (by omega)]
        refine sj_goto C 426 rfl dL_law_296 ?_
        exact cut_426 _ (fun _ => by omega) (fun h => absurd h (by omega))
      refine sj_if_ne C 291 286 rfl rfl dL_law_283 (fun c_283 => ?_) (fun c_283 => ?_)
      · refine sj_bipush C (30) 293 rfl dL_law_291 (by decide) ?_
        exact cut_293 _  ((if_neg c_283).symm)
      · refine sj_bipush C (100) 288 rfl dL_law_286 (by decide) ?_
        refine sj_goto C 293 rfl dL_law_288 ?_
        exact cut_293 _  ((if_pos c_283).symm)
  have cut_211 : ∀ kd : Nat, kd ≤ 6 → sj_G X S cl sl [some (.ref b), some (.ref (g 141)), some (.ref (g 142)), some (.ref (g 143)), some (.ref (g 144)), some (.ref (g 145)), some (.ref (g 146)), some (.ref (g 147)), some (.int (nI (k))), some (.int ((sp_cell Lx xs (2 * k)))), some (.int ((sp_cell Lx xs (2 * k + 1)))), none, none, none, none, none, none, none] 211 [.int (nI kd)] := by
    intro kd hkd
    have cut_263 := cut_263 kd hkd
    refine sj_istore_11 C 213 rfl dL_law_211 rfl rfl ?_
    refine sj_iload C 215 rfl dL_law_213 rfl ?_
    refine sj_iconstv C (5) 216 rfl dL_law_215 rfl ?_
    refine sj_icmp_ne C 229 219 rfl rfl dL_law_216 (fun c_216 => ?_) (fun c_216 => ?_)
    · refine sj_iload C 231 rfl dL_law_229 rfl ?_
      refine sj_iload C 233 rfl dL_law_231 rfl ?_
      refine sj_bipush C (20) 235 rfl dL_law_233 (by decide) ?_
      refine sj_ishr C 236 rfl dL_law_235 ?_
      refine sj_bipush C (9) 238 rfl dL_law_236 (by decide) ?_
      refine sj_callSd C 241 rfl dL_law_238 cv_L_85 (sj_fitO rfl rfl (show cl + 0 ≤ 677992 by omega) (show sl + 0 ≤ 7067491 by omega)) (ct_L_low _ _ (((sp_cell Lx xs (2 * k + 1))) >>> (20 &&& 31)) _ (by decide)) rfl rfl rfl ⟨rfl, rfl⟩ ?_
      have lw241 := sp_lw_lt (((sp_cell Lx xs (2 * k + 1))) >>> (20 &&& 31)) (n := 9) (by omega) (by omega)
      rw [show sp_low (((sp_cell Lx xs (2 * k + 1))) >>> (20 &&& 31)) 9 = nI (sp_lw (((sp_cell Lx xs (2 * k + 1))) >>> (20 &&& 31)) 9) from sp_lw_e _ (n := 9) (by omega) (by omega)]
      have cut_260 : ∀ j260 : Int32, (((nI (sp_lw (((sp_cell Lx xs (2 * k + 1))) >>> (20 &&& 31)) 9) = 0) ∧ j260 = 8) ∨ ((¬ nI (sp_lw (((sp_cell Lx xs (2 * k + 1))) >>> (20 &&& 31)) 9) = 0) ∧ (¬ nI (sj_tn (m 9)) = 0) ∧ j260 = nI (sj_tn (m 9))) ∨ ((¬ nI (sp_lw (((sp_cell Lx xs (2 * k + 1))) >>> (20 &&& 31)) 9) = 0) ∧ (nI (sj_tn (m 9)) = 0) ∧ j260 = 8)) → sj_G X S cl sl [some (.ref b), some (.ref (g 141)), some (.ref (g 142)), some (.ref (g 143)), some (.ref (g 144)), some (.ref (g 145)), some (.ref (g 146)), some (.ref (g 147)), some (.int (nI (k))), some (.int ((sp_cell Lx xs (2 * k)))), some (.int ((sp_cell Lx xs (2 * k + 1)))), some (.int (nI (kd))), none, none, none, none, none, none] 260 [.int (j260), .int ((sp_cell Lx xs (2 * k + 1)))] := by
        intro j260 h260
        obtain ⟨z1, hz10, hz18, rfl⟩ : ∃ z : Nat, 0 < z ∧ z ≤ 8 ∧ j260 = nI z := by
          rcases h260 with h | h | h
          · exact ⟨8, by omega, by omega, h.2⟩
          · exact ⟨sj_tn (m 9), Nat.pos_of_ne_zero (fun h9 => h.2.1 (by rw [h9]; rfl)), h8q, h.2.2⟩
          · exact ⟨8, by omega, by omega, h.2.2⟩
        refine sj_callSd C 263 rfl dL_law_260 cv_L_85 (sj_fitO rfl rfl (show cl + 0 ≤ 677992 by omega) (show sl + 0 ≤ 7067491 by omega)) (ct_L_low _ _ ((sp_cell Lx xs (2 * k + 1))) _ (nI_ne0 (by omega) (by omega))) rfl rfl rfl ⟨rfl, rfl⟩ ?_
        have lw263 := sp_lw_lt ((sp_cell Lx xs (2 * k + 1))) (n := z1) (by omega) (by omega)
        rw [show sp_low ((sp_cell Lx xs (2 * k + 1))) (nI z1) = nI (sp_lw ((sp_cell Lx xs (2 * k + 1))) z1) from sp_lw_e _ (n := z1) (by omega) (by omega)]
        exact cut_263 _ (by omega)
      refine sj_if_eq C 251 244 rfl rfl dL_law_241 (fun c_241 => ?_) (fun c_241 => ?_)
      · refine sj_bipush C (8) 253 rfl dL_law_251 (by decide) ?_
        refine sj_goto C 260 rfl dL_law_253 ?_
        exact cut_260 _  (Or.inl ⟨c_241, rfl⟩)
      · refine sj_aload_n C 245 rfl dL_law_244 rfl rfl ?_
        refine sj_bipush C (9) 247 rfl dL_law_245 (by decide) ?_
        refine sj_iald C 248 rfl dL_law_247 kd_q (sp_vp (i := 9) il_q (by omega) (by omega)) ?_
        rw [show Int32.toNatClampNeg 9 = 9 from rfl]
        rw [hq9]
        refine sj_if_ne C 256 251 rfl rfl dL_law_248 (fun c_248 => ?_) (fun c_248 => ?_)
        · refine sj_aload_n C 257 rfl dL_law_256 rfl rfl ?_
          refine sj_bipush C (9) 259 rfl dL_law_257 (by decide) ?_
          refine sj_iald C 260 rfl dL_law_259 kd_q (sp_vp (i := 9) il_q (by omega) (by omega)) ?_
          rw [show Int32.toNatClampNeg 9 = 9 from rfl]
          rw [hq9]
          exact cut_260 _  (Or.inr (Or.inl ⟨c_241, c_248, rfl⟩))
        · refine sj_bipush C (8) 253 rfl dL_law_251 (by decide) ?_
          refine sj_goto C 260 rfl dL_law_253 ?_
          exact cut_260 _  (Or.inr (Or.inr (⟨c_241, c_248, rfl⟩)))
    · refine sj_iload C 221 rfl dL_law_219 rfl ?_
      refine sj_bipush C (9) 223 rfl dL_law_221 (by decide) ?_
      refine sj_callSd C 226 rfl dL_law_223 cv_L_85 (sj_fitO rfl rfl (show cl + 0 ≤ 677992 by omega) (show sl + 0 ≤ 7067491 by omega)) (ct_L_low _ _ ((sp_cell Lx xs (2 * k + 1))) _ (by decide)) rfl rfl rfl ⟨rfl, rfl⟩ ?_
      have lw226 := sp_lw_lt ((sp_cell Lx xs (2 * k + 1))) (n := 9) (by omega) (by omega)
      rw [show sp_low ((sp_cell Lx xs (2 * k + 1))) 9 = nI (sp_lw ((sp_cell Lx xs (2 * k + 1))) 9) from sp_lw_e _ (n := 9) (by omega) (by omega)]
      refine sj_goto C 263 rfl dL_law_226 ?_
      exact cut_263 _ (by omega)
  refine sj_aload_n C 97 rfl dL_law_96 rfl rfl ?_
  refine sj_iconstv C (2) 98 rfl dL_law_97 rfl ?_
  refine sj_iload C 100 rfl dL_law_98 rfl ?_
  refine sj_imul C 101 rfl dL_law_100 ?_
  rw [show 2 * nI (k) = nI (2 * k) from sj_nmul 2 k]
  refine sj_callC C hT 104 rfl dL_law_101 cv_L_200 (sj_fitO rfl rfl (show cl + 0 ≤ 677992 by omega) (show sl + 0 ≤ 7067491 by omega)) (ct_L_cell _ _ b Lx xs (by omega) (k := 2 * k) (by omega)) rfl rfl rfl (fun v1 S1 hp1 => ?_)
  obtain ⟨rfl, e1⟩ := hp1
  rw [e1]
  refine sj_istore_9 C 106 rfl dL_law_104 rfl rfl ?_
  refine sj_aload_n C 107 rfl dL_law_106 rfl rfl ?_
  refine sj_iconstv C (2) 108 rfl dL_law_107 rfl ?_
  refine sj_iload C 110 rfl dL_law_108 rfl ?_
  refine sj_imul C 111 rfl dL_law_110 ?_
  rw [show 2 * nI (k) = nI (2 * k) from sj_nmul 2 k]
  refine sj_iconstv C (1) 112 rfl dL_law_111 rfl ?_
  refine sj_iadd C 113 rfl dL_law_112 ?_
  rw [show nI (2 * k) + 1 = nI ((2 * k) + 1) from nI_add (2 * k) 1]
  refine sj_callC C hT 116 rfl dL_law_113 cv_L_200 (sj_fitO rfl rfl (show cl + 0 ≤ 677992 by omega) (show sl + 0 ≤ 7067491 by omega)) (ct_L_cell _ _ b Lx xs (by omega) (k := (2 * k) + 1) (by omega)) rfl rfl rfl (fun v2 S2 hp2 => ?_)
  obtain ⟨rfl, e2⟩ := hp2
  rw [e2]
  refine sj_istore_10 C 118 rfl dL_law_116 rfl rfl ?_
  refine sj_iload C 120 rfl dL_law_118 rfl ?_
  refine sj_bipush C (24) 122 rfl dL_law_120 (by decide) ?_
  refine sj_callSd C 125 rfl dL_law_122 cv_L_85 (sj_fitO rfl rfl (show cl + 0 ≤ 677992 by omega) (show sl + 0 ≤ 7067491 by omega)) (ct_L_low _ _ (sp_cell Lx xs (2 * k)) _ (by decide)) rfl rfl rfl ⟨rfl, rfl⟩ ?_
  have lw125 := sp_lw_lt (sp_cell Lx xs (2 * k)) (n := 24) (by omega) (by omega)
  rw [show sp_low (sp_cell Lx xs (2 * k)) 24 = nI (sp_lw (sp_cell Lx xs (2 * k)) 24) from sp_lw_e _ (n := 24) (by omega) (by omega)]
  refine sj_istore_11 C 127 rfl dL_law_125 rfl rfl ?_
  refine sj_iload C 129 rfl dL_law_127 rfl ?_
  refine sj_iconstv C (4) 130 rfl dL_law_129 rfl ?_
  refine sj_icmp_lt C 139 133 rfl rfl dL_law_130 (fun c_130 => ?_) (fun c_130 => ?_)
  · refine sj_iconstv C (0) 140 rfl dL_law_139 rfl ?_
    refine sj_goto C 211 rfl dL_law_140 ?_
    refine sj_for [some (.ref b), some (.ref (g 141)), some (.ref (g 142)), some (.ref (g 143)), some (.ref (g 144)), some (.ref (g 145)), some (.ref (g 146)), some (.ref (g 147)), some (.int (nI (k))), some (.int (sp_cell Lx xs (2 * k))), some (.int (sp_cell Lx xs ((2 * k) + 1))), none, none, none, none, none, none, none] (show _ ∧ _ ∧ _ ∧ _ ∧ _ ∧ _ ∧ _ ∧ _ ∧ _ ∧ _ ∧ _ ∧ True from ⟨rfl, rfl, rfl, rfl, rfl, rfl, rfl, rfl, rfl, rfl, rfl, trivial⟩) ?_
    exact cut_211 0 (by decide)
  · refine sj_iload C 135 rfl dL_law_133 rfl ?_
    refine sj_iconstv C (4) 136 rfl dL_law_135 rfl ?_
    refine sj_icmp_ge C 143 139 rfl rfl dL_law_136 (fun c_136 => ?_) (fun c_136 => ?_)
    · refine sj_iload C 145 rfl dL_law_143 rfl ?_
      refine sj_bipush C (11) 147 rfl dL_law_145 (by decide) ?_
      refine sj_icmp_ge C 154 150 rfl rfl dL_law_147 (fun c_147 => ?_) (fun c_147 => ?_)
      · refine sj_iload C 156 rfl dL_law_154 rfl ?_
        refine sj_bipush C (15) 158 rfl dL_law_156 (by decide) ?_
        refine sj_icmp_ge C 165 161 rfl rfl dL_law_158 (fun c_158 => ?_) (fun c_158 => ?_)
        · refine sj_iload C 167 rfl dL_law_165 rfl ?_
          refine sj_bipush C (17) 169 rfl dL_law_167 (by decide) ?_
          refine sj_icmp_ge C 176 172 rfl rfl dL_law_169 (fun c_169 => ?_) (fun c_169 => ?_)
          · refine sj_iload C 178 rfl dL_law_176 rfl ?_
            refine sj_bipush C (19) 180 rfl dL_law_178 (by decide) ?_
            refine sj_icmp_ge C 187 183 rfl rfl dL_law_180 (fun c_180 => ?_) (fun c_180 => ?_)
            · refine sj_iload C 189 rfl dL_law_187 rfl ?_
              refine sj_bipush C (22) 191 rfl dL_law_189 (by decide) ?_
              refine sj_icmp_ge C 198 194 rfl rfl dL_law_191 (fun c_191 => ?_) (fun c_191 => ?_)
              · refine sj_iload C 200 rfl dL_law_198 rfl ?_
                refine sj_bipush C (22) 202 rfl dL_law_200 (by decide) ?_
                refine sj_icmp_ne C 210 205 rfl rfl dL_law_202 (fun c_202 => ?_) (fun c_202 => ?_)
                · refine sj_iconstv C (1) 211 rfl dL_law_210 rfl ?_
                  refine sj_for [some (.ref b), some (.ref (g 141)), some (.ref (g 142)), some (.ref (g 143)), some (.ref (g 144)), some (.ref (g 145)), some (.ref (g 146)), some (.ref (g 147)), some (.int (nI (k))), some (.int (sp_cell Lx xs (2 * k))), some (.int (sp_cell Lx xs ((2 * k) + 1))), none, none, none, none, none, none, none] (show _ ∧ _ ∧ _ ∧ _ ∧ _ ∧ _ ∧ _ ∧ _ ∧ _ ∧ _ ∧ _ ∧ True from ⟨rfl, rfl, rfl, rfl, rfl, rfl, rfl, rfl, rfl, rfl, rfl, trivial⟩) ?_
                  exact cut_211 1 (by decide)
                · refine sj_bipush C (6) 207 rfl dL_law_205 (by decide) ?_
                  refine sj_goto C 211 rfl dL_law_207 ?_
                  refine sj_for [some (.ref b), some (.ref (g 141)), some (.ref (g 142)), some (.ref (g 143)), some (.ref (g 144)), some (.ref (g 145)), some (.ref (g 146)), some (.ref (g 147)), some (.int (nI (k))), some (.int (sp_cell Lx xs (2 * k))), some (.int (sp_cell Lx xs ((2 * k) + 1))), none, none, none, none, none, none, none] (show _ ∧ _ ∧ _ ∧ _ ∧ _ ∧ _ ∧ _ ∧ _ ∧ _ ∧ _ ∧ _ ∧ True from ⟨rfl, rfl, rfl, rfl, rfl, rfl, rfl, rfl, rfl, rfl, rfl, trivial⟩) ?_
                  exact cut_211 6 (by decide)
              · refine sj_iconstv C (5) 195 rfl dL_law_194 rfl ?_
                refine sj_goto C 211 rfl dL_law_195 ?_
                refine sj_for [some (.ref b), some (.ref (g 141)), some (.ref (g 142)), some (.ref (g 143)), some (.ref (g 144)), some (.ref (g 145)), some (.ref (g 146)), some (.ref (g 147)), some (.int (nI (k))), some (.int (sp_cell Lx xs (2 * k))), some (.int (sp_cell Lx xs ((2 * k) + 1))), none, none, none, none, none, none, none] (show _ ∧ _ ∧ _ ∧ _ ∧ _ ∧ _ ∧ _ ∧ _ ∧ _ ∧ _ ∧ _ ∧ True from ⟨rfl, rfl, rfl, rfl, rfl, rfl, rfl, rfl, rfl, rfl, rfl, trivial⟩) ?_
                exact cut_211 5 (by decide)
            · refine sj_iconstv C (4) 184 rfl dL_law_183 rfl ?_
              refine sj_goto C 211 rfl dL_law_184 ?_
              refine sj_for [some (.ref b), some (.ref (g 141)), some (.ref (g 142)), some (.ref (g 143)), some (.ref (g 144)), some (.ref (g 145)), some (.ref (g 146)), some (.ref (g 147)), some (.int (nI (k))), some (.int (sp_cell Lx xs (2 * k))), some (.int (sp_cell Lx xs ((2 * k) + 1))), none, none, none, none, none, none, none] (show _ ∧ _ ∧ _ ∧ _ ∧ _ ∧ _ ∧ _ ∧ _ ∧ _ ∧ _ ∧ _ ∧ True from ⟨rfl, rfl, rfl, rfl, rfl, rfl, rfl, rfl, rfl, rfl, rfl, trivial⟩) ?_
              exact cut_211 4 (by decide)
          · refine sj_iconstv C (3) 173 rfl dL_law_172 rfl ?_
            refine sj_goto C 211 rfl dL_law_173 ?_
            refine sj_for [some (.ref b), some (.ref (g 141)), some (.ref (g 142)), some (.ref (g 143)), some (.ref (g 144)), some (.ref (g 145)), some (.ref (g 146)), some (.ref (g 147)), some (.int (nI (k))), some (.int (sp_cell Lx xs (2 * k))), some (.int (sp_cell Lx xs ((2 * k) + 1))), none, none, none, none, none, none, none] (show _ ∧ _ ∧ _ ∧ _ ∧ _ ∧ _ ∧ _ ∧ _ ∧ _ ∧ _ ∧ _ ∧ True from ⟨rfl, rfl, rfl, rfl, rfl, rfl, rfl, rfl, rfl, rfl, rfl, trivial⟩) ?_
            exact cut_211 3 (by decide)
        · refine sj_iconstv C (2) 162 rfl dL_law_161 rfl ?_
          refine sj_goto C 211 rfl dL_law_162 ?_
          refine sj_for [some (.ref b), some (.ref (g 141)), some (.ref (g 142)), some (.ref (g 143)), some (.ref (g 144)), some (.ref (g 145)), some (.ref (g 146)), some (.ref (g 147)), some (.int (nI (k))), some (.int (sp_cell Lx xs (2 * k))), some (.int (sp_cell Lx xs ((2 * k) + 1))), none, none, none, none, none, none, none] (show _ ∧ _ ∧ _ ∧ _ ∧ _ ∧ _ ∧ _ ∧ _ ∧ _ ∧ _ ∧ _ ∧ True from ⟨rfl, rfl, rfl, rfl, rfl, rfl, rfl, rfl, rfl, rfl, rfl, trivial⟩) ?_
          exact cut_211 2 (by decide)
      · refine sj_iconstv C (1) 151 rfl dL_law_150 rfl ?_
        refine sj_goto C 211 rfl dL_law_151 ?_
        refine sj_for [some (.ref b), some (.ref (g 141)), some (.ref (g 142)), some (.ref (g 143)), some (.ref (g 144)), some (.ref (g 145)), some (.ref (g 146)), some (.ref (g 147)), some (.int (nI (k))), some (.int (sp_cell Lx xs (2 * k))), some (.int (sp_cell Lx xs ((2 * k) + 1))), none, none, none, none, none, none, none] (show _ ∧ _ ∧ _ ∧ _ ∧ _ ∧ _ ∧ _ ∧ _ ∧ _ ∧ _ ∧ _ ∧ True from ⟨rfl, rfl, rfl, rfl, rfl, rfl, rfl, rfl, rfl, rfl, rfl, trivial⟩) ?_
        exact cut_211 1 (by decide)
    · refine sj_iconstv C (0) 140 rfl dL_law_139 rfl ?_
      refine sj_goto C 211 rfl dL_law_140 ?_
      refine sj_for [some (.ref b), some (.ref (g 141)), some (.ref (g 142)), some (.ref (g 143)), some (.ref (g 144)), some (.ref (g 145)), some (.ref (g 146)), some (.ref (g 147)), some (.int (nI (k))), some (.int (sp_cell Lx xs (2 * k))), some (.int (sp_cell Lx xs ((2 * k) + 1))), none, none, none, none, none, none, none] (show _ ∧ _ ∧ _ ∧ _ ∧ _ ∧ _ ∧ _ ∧ _ ∧ _ ∧ _ ∧ _ ∧ True from ⟨rfl, rfl, rfl, rfl, rfl, rfl, rfl, rfl, rfl, rfl, rfl, trivial⟩) ?_
      exact cut_211 0 (by decide)
set_option maxRecDepth 100000 in
theorem lw_loop {X : sj_X} {nm : String} (C : sj_C X (mL_law nm)) (hl : X.2.1.stackTraces = false) {b Lx : Nat} {xs : Nat → Int32} (hT : sj_Scr X b Lx xs) (hLx : Lx ≤ 260) (hR : sj_RL X b) {g : Nat → Nat} : ∀ {S : sj_St} {m : Nat → Int32} {p q : Nat} {Q : Nat → Nat → Int32} {n : Nat} {B : Nat → Int32} {cl sl : Nat}, sp_M S g m m p q Q n B → cl ≤ 300 → sl ≤ 5000 → sj_G X S cl sl [some (.ref b), some (.ref (g 141)), some (.ref (g 142)), some (.ref (g 143)), some (.ref (g 144)), some (.ref (g 145)), some (.ref (g 146)), some (.ref (g 147)), some (.int (nI 0)), none, none, none, none, none, none, none, none, none] 89 [] := by
  have key : ∀ (S : sj_St) (m : Nat → Int32) (p q : Nat) (Q : Nat → Nat → Int32) (n : Nat) (B : Nat → Int32) (cl sl : Nat), sp_M S g m m p q Q n B → cl ≤ 300 + 800 * 0 → sl ≤ 5000 + 5000 * 0 → sj_G X S cl sl [some (.ref b), some (.ref (g 141)), some (.ref (g 142)), some (.ref (g 143)), some (.ref (g 144)), some (.ref (g 145)), some (.ref (g 146)), some (.ref (g 147)), some (.int (nI 0)), none, none, none, none, none, none, none, none, none] 89 [] := by
    refine sj_down (fun k => ∀ (S : sj_St) (m : Nat → Int32) (p q : Nat) (Q : Nat → Nat → Int32) (n : Nat) (B : Nat → Int32) (cl sl : Nat), sp_M S g m m p q Q n B → cl ≤ 300 + 800 * k → sl ≤ 5000 + 5000 * k → sj_G X S cl sl [some (.ref b), some (.ref (g 141)), some (.ref (g 142)), some (.ref (g 143)), some (.ref (g 144)), some (.ref (g 145)), some (.ref (g 146)), some (.ref (g 147)), some (.int (nI (k))), none, none, none, none, none, none, none, none, none] 89 []) 36 (fun k hk ih => ?_)
    intro S m p q Q n B cl sl hM hcl hsl
    refine sj_iload C 91 rfl dL_law_89 rfl ?_
    refine sj_bipush C (36) 93 rfl dL_law_91 (by decide) ?_
    refine sj_icmp_ge C 622 96 rfl rfl dL_law_93 (fun c => ?_) (fun c => ?_)
    · refine sj_iconstv C (1) 623 rfl dL_law_622 rfl ?_
      exact sj_lret_law C hR (by omega) (by omega) dL_law_623
    · have hlt : k < 36 := Nat.not_le.mp (fun h9 => c (nI_le (a := 36) h9 (by omega)))
      refine lw_turn C hl hT hLx hlt hM (by omega) (by omega) (fun U m' p' q' Q' n' B' cl' sl' hU h1 h2 => ?_)
      refine sj_iinc_8 C 619 rfl dL_law_616 rfl rfl ?_
      rw [show nI k + Int32.ofInt 1 = nI (k + 1) from nI_add _ _]
      refine sj_goto C 89 rfl dL_law_619 ?_
      exact ih hlt U m' p' q' Q' n' B' cl' sl' hU (by omega) (by omega)
  intro S m p q Q n B cl sl hM h1 h2
  exact key S m p q Q n B cl sl hM h1 h2
abbrev cn_L_199 : sj_Vi RL 199 nX6_init 0 := cv_L_199
theorem cw_new_11 : Cond.classLink RL 11 RX6 ∈ sj_GT ∧ Cond.instantiable RX6 5 ∈ sj_GT ∧ Cond.initialized RX6 ∈ sj_GT := ⟨wr_1 _ (List.mem_of_getElem? (i := 0) (by decide +kernel)), wr_1 _ (List.mem_of_getElem? (i := 1) (by decide +kernel)), wr_1 _ (List.mem_of_getElem? (i := 2) (by decide +kernel))⟩
theorem cw_arr : Cond.arrayClass .int ∈ sj_GT := wr_1 _ (List.mem_of_getElem? (i := 3) (by decide +kernel))
theorem sp_kw (S : sj_St) (a k : Nat) (v : Int32) (b : Nat) : sj_kd (sj_wIa S a k v) b = sj_kd S b := rfl
theorem sp_iw (S : sj_St) (a k : Nat) (v : Int32) (b : Nat) : sj_il (sj_wIa S a k v) b = sj_il S b := rfl
/-- the empty world -/
def sj_S0 : sj_St := (fun _ => none, fun _ _ => none, fun _ => 0, fun _ _ => 0, fun _ _ => 0, fun _ _ => none, fun _ => 0, fun _ _ => 0)
set_option maxRecDepth 100000 in
set_option maxHeartbeats 400000 in
theorem lw_body {X : sj_X} {nm : String} (C : sj_C X (mL_law nm)) (hl : X.2.1.stackTraces = false) {b Lx : Nat} {xs : Nat → Int32} (hT : sj_Scr X b Lx xs) (hLx : Lx ≤ 260) (hR : sj_RL X b) : sj_G X sj_S0 0 0 [some (.ref b), none, none, none, none, none, none, none, none, none, none, none, none, none, none, none, none, none] 0 [] := by
  refine sj_new C 3 rfl kk_X6 dL_law_0 cw_new_11 rfl (fun a fa => ?_)
  refine sj_dup C 4 rfl dL_law_3 rfl ?_
  refine sj_callI C 7 rfl dL_law_4 cn_L_199 rfl (ct_X6_init _ (sj_kd_nO sj_S0 a 6)) rfl rfl rfl rfl rfl (fun v T hp => ?_)
  obtain ⟨rfl, L, h6⟩ := hp
  refine sj_astore_n_1 C 8 rfl dL_law_7 rfl rfl ?_
  refine sj_bipush C (nI 12) 10 rfl dL_law_8 (by decide) ?_
  refine sj_newa (n := 12) C 12 rfl dL_law_10 cw_arr (by omega) rfl (fun q f2 => ?_)
  refine sj_astore_n_2 C 13 rfl dL_law_12 rfl rfl ?_
  refine sj_bipush C (nI 9) 15 rfl dL_law_13 (by decide) ?_
  refine sj_newa (n := 9) C 17 rfl dL_law_15 cw_arr (by omega) rfl (fun r f3 => ?_)
  refine sj_astore_n_3 C 18 rfl dL_law_17 rfl rfl ?_
  refine sj_bipush C (nI 9) 20 rfl dL_law_18 (by decide) ?_
  refine sj_newa (n := 9) C 22 rfl dL_law_20 cw_arr (by omega) rfl (fun n f4 => ?_)
  refine sj_astore_4 C 24 rfl dL_law_22 rfl rfl ?_
  refine sj_bipush C (nI 64) 26 rfl dL_law_24 (by decide) ?_
  refine sj_newa (n := 64) C 28 rfl dL_law_26 cw_arr (by omega) rfl (fun t f5 => ?_)
  refine sj_astore_5 C 30 rfl dL_law_28 rfl rfl ?_
  refine sj_bipush C (nI 29) 32 rfl dL_law_30 (by decide) ?_
  refine sj_newa (n := 29) C 34 rfl dL_law_32 cw_arr (by omega) rfl (fun p f6 => ?_)
  refine sj_astore_6 C 36 rfl dL_law_34 rfl rfl ?_
  refine sj_bipush C (nI 8) 38 rfl dL_law_36 (by decide) ?_
  refine sj_newa (n := 8) C 40 rfl dL_law_38 cw_arr (by omega) rfl (fun w f7 => ?_)
  refine sj_astore_7 C 42 rfl dL_law_40 rfl rfl ?_
  obtain ⟨g, B, ⟨e1, e2, e3, e4, e5, e6, e7⟩, hM⟩ := sp_Mfirst (sj_kd_nO sj_S0 a 6) h6 f2 f3 f4 f5 f6 f7
  have hkq := hM.2.2.2.2.1.1.1
  have hlq := hM.2.2.2.2.1.1.2
  rw [e2, sp_kw, sp_kw, sp_kw, sp_kw, sp_kw, sp_kw, sp_kw, sp_kw, sp_kw] at hkq
  rw [e2, sp_iw, sp_iw, sp_iw, sp_iw, sp_iw, sp_iw, sp_iw, sp_iw, sp_iw] at hlq
  generalize hU6 : sj_nA (sj_nA (sj_nA (sj_nA (sj_nA (sj_nA T q 12) r 9) n 9) t 64) p 29) w 8 = U6 at hM hkq hlq ⊢
  refine sj_aload_n C 43 rfl dL_law_42 rfl rfl ?_
  refine sj_iconstv C (0) 44 rfl dL_law_43 rfl ?_
  refine sj_iconstv C (4) 45 rfl dL_law_44 rfl ?_
  refine sj_iast C 46 rfl dL_law_45 hkq (sp_vp (i := 0) hlq (by omega) (by omega)) ?_
  rw [show Int32.toNatClampNeg 0 = 0 from rfl]
  have hkq1 := (sp_kw _ q 0 4 q).trans hkq
  have hlq1 := (sp_iw _ q 0 4 q).trans hlq
  refine sj_aload_n C 47 rfl dL_law_46 rfl rfl ?_
  refine sj_iconstv C (1) 48 rfl dL_law_47 rfl ?_
  refine sj_bipush C (10) 50 rfl dL_law_48 (by decide) ?_
  refine sj_iast C 51 rfl dL_law_50 hkq1 (sp_vp (i := 1) hlq1 (by omega) (by omega)) ?_
  rw [show Int32.toNatClampNeg 1 = 1 from rfl]
  have hkq2 := (sp_kw _ q 1 10 q).trans hkq1
  have hlq2 := (sp_iw _ q 1 10 q).trans hlq1
  refine sj_aload_n C 52 rfl dL_law_51 rfl rfl ?_
  refine sj_iconstv C (2) 53 rfl dL_law_52 rfl ?_
  refine sj_iconstv C (3) 54 rfl dL_law_53 rfl ?_
  refine sj_iast C 55 rfl dL_law_54 hkq2 (sp_vp (i := 2) hlq2 (by omega) (by omega)) ?_
  rw [show Int32.toNatClampNeg 2 = 2 from rfl]
  have hkq3 := (sp_kw _ q 2 3 q).trans hkq2
  have hlq3 := (sp_iw _ q 2 3 q).trans hlq2
  refine sj_aload_n C 56 rfl dL_law_55 rfl rfl ?_
  refine sj_iconstv C (3) 57 rfl dL_law_56 rfl ?_
  refine sj_bipush C (20) 59 rfl dL_law_57 (by decide) ?_
  refine sj_iast C 60 rfl dL_law_59 hkq3 (sp_vp (i := 3) hlq3 (by omega) (by omega)) ?_
  rw [show Int32.toNatClampNeg 3 = 3 from rfl]
  have hkq4 := (sp_kw _ q 3 20 q).trans hkq3
  have hlq4 := (sp_iw _ q 3 20 q).trans hlq3
  refine sj_aload_n C 61 rfl dL_law_60 rfl rfl ?_
  refine sj_iconstv C (4) 62 rfl dL_law_61 rfl ?_
  refine sj_bipush C (8) 64 rfl dL_law_62 (by decide) ?_
  refine sj_iast C 65 rfl dL_law_64 hkq4 (sp_vp (i := 4) hlq4 (by omega) (by omega)) ?_
  rw [show Int32.toNatClampNeg 4 = 4 from rfl]
  have hkq5 := (sp_kw _ q 4 8 q).trans hkq4
  have hlq5 := (sp_iw _ q 4 8 q).trans hlq4
  refine sj_aload_n C 66 rfl dL_law_65 rfl rfl ?_
  refine sj_iconstv C (5) 67 rfl dL_law_66 rfl ?_
  refine sj_bipush C (6) 69 rfl dL_law_67 (by decide) ?_
  refine sj_iast C 70 rfl dL_law_69 hkq5 (sp_vp (i := 5) hlq5 (by omega) (by omega)) ?_
  rw [show Int32.toNatClampNeg 5 = 5 from rfl]
  have hkq6 := (sp_kw _ q 5 6 q).trans hkq5
  have hlq6 := (sp_iw _ q 5 6 q).trans hlq5
  refine sj_aload_n C 71 rfl dL_law_70 rfl rfl ?_
  refine sj_bipush C (6) 73 rfl dL_law_71 (by decide) ?_
  refine sj_bipush C (40) 75 rfl dL_law_73 (by decide) ?_
  refine sj_iast C 76 rfl dL_law_75 hkq6 (sp_vp (i := 6) hlq6 (by omega) (by omega)) ?_
  rw [show Int32.toNatClampNeg 6 = 6 from rfl]
  have hkq7 := (sp_kw _ q 6 40 q).trans hkq6
  have hlq7 := (sp_iw _ q 6 40 q).trans hlq6
  refine sj_aload_n C 77 rfl dL_law_76 rfl rfl ?_
  refine sj_bipush C (7) 79 rfl dL_law_77 (by decide) ?_
  refine sj_iconstv C (2) 80 rfl dL_law_79 rfl ?_
  refine sj_iast C 81 rfl dL_law_80 hkq7 (sp_vp (i := 7) hlq7 (by omega) (by omega)) ?_
  rw [show Int32.toNatClampNeg 7 = 7 from rfl]
  have hkq8 := (sp_kw _ q 7 2 q).trans hkq7
  have hlq8 := (sp_iw _ q 7 2 q).trans hlq7
  refine sj_aload_n C 82 rfl dL_law_81 rfl rfl ?_
  refine sj_bipush C (8) 84 rfl dL_law_82 (by decide) ?_
  refine sj_iconstv C (4) 85 rfl dL_law_84 rfl ?_
  refine sj_iast C 86 rfl dL_law_85 hkq8 (sp_vp (i := 8) hlq8 (by omega) (by omega)) ?_
  rw [show Int32.toNatClampNeg 8 = 8 from rfl]
  have hkq9 := (sp_kw _ q 8 4 q).trans hkq8
  have hlq9 := (sp_iw _ q 8 4 q).trans hlq8
  refine sj_iconstv C (nI 0) 87 rfl dL_law_86 rfl ?_
  refine sj_istore_8 C 89 rfl dL_law_87 rfl rfl ?_
  rw [← e1, ← e2, ← e3, ← e4, ← e5, ← e6, ← e7]
  rw [← e2] at hM
  exact lw_loop C hl hT hLx hR hM (Nat.le_of_ble_eq_true rfl) (Nat.le_of_ble_eq_true rfl)
