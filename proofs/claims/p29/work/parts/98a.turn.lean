/-! THE LAW: a turn -/
set_option maxRecDepth 100000 in
set_option maxHeartbeats 400000 in
theorem lw_A {X : sj_X} {nm : String} (C : sj_C X (mL_law nm)) (hl : X.2.1.stackTraces = false) {b k : Nat} {S : sj_St} {g : Nat → Nat} {m : Nat → Int32} {p q : Nat} {Q : Nat → Nat → Int32} {n : Nat} {B : Nat → Int32} (hM : sp_M S g m m p q Q n B) (x y : Int32) {u v : Nat} (h8 : sj_tn (m 9) < 8) (hv : v ≤ 99) {cl sl : Nat} (hcl : cl ≤ 600000) (hsl : sl ≤ 7000000) (K : ∀ (U : sj_St) (m' : Nat → Int32) (p' q' : Nat) (Q' : Nat → Nat → Int32) (n' : Nat) (B' : Nat → Int32) (cl' sl' : Nat), sp_M U g m' m' p' q' Q' n' B' → cl' ≤ cl + 800 → sl' ≤ sl + 5000 → sj_G X U cl' sl' [some (.ref b), some (.ref (g 141)), some (.ref (g 142)), some (.ref (g 143)), some (.ref (g 144)), some (.ref (g 145)), some (.ref (g 146)), some (.ref (g 147)), some (.int (nI (k))), none, none, none, none, none, none, none, none, none] 616 []) : sj_G X S cl sl [some (.ref b), some (.ref (g 141)), some (.ref (g 142)), some (.ref (g 143)), some (.ref (g 144)), some (.ref (g 145)), some (.ref (g 146)), some (.ref (g 147)), some (.int (nI (k))), some (.int (x)), some (.int (y)), some (.int (0)), some (.int (nI (u))), some (.int (nI (v))), none, none, none, none] 428 [] := by
  have hz := hM.2.2.2
  have kd_q := hz.2.1.1.1
  have il_q := hz.2.1.1.2
  have h8q := hM.2.1.1.1.2
  have hq9 : sj_ia S (g 142) 9 = nI (sj_tn (m 9)) := (hz.2.1.2.2.2.2.2.1 9 (by omega)).trans hM.2.1.1.1.1
  refine sj_iconstv C (0) 429 rfl dL_law_428 rfl ?_
  refine sj_istore_14 C 431 rfl dL_law_429 rfl rfl ?_
  refine sj_iload C 433 rfl dL_law_431 rfl ?_
  refine sj_if_ne C 465 436 rfl rfl dL_law_433 (fun c_433 => absurd c_433 (by decide)) (fun c_433 => ?_)
  refine sj_aload_n C 437 rfl dL_law_436 rfl rfl ?_
  refine sj_bipush C (9) 439 rfl dL_law_437 (by decide) ?_
  refine sj_iald C 440 rfl dL_law_439 kd_q (sp_vp (i := 9) il_q (by omega) (by omega)) ?_
  rw [show Int32.toNatClampNeg 9 = 9 from rfl]
  rw [hq9]
  refine sj_bipush C (8) 442 rfl dL_law_440 (by decide) ?_
  refine sj_icmp_ge C 465 445 rfl rfl dL_law_442 (fun c_442 => absurd (nI_lt h8 (by omega)) (Int32.not_lt.mpr c_442)) (fun c_442 => ?_)
  refine sj_aload_n C 446 rfl dL_law_445 rfl rfl ?_
  refine sj_iload C 448 rfl dL_law_446 rfl ?_
  refine sj_bipush C (7) 450 rfl dL_law_448 (by decide) ?_
  refine sj_ishr C 451 rfl dL_law_450 ?_
  refine sj_aload_n C 452 rfl dL_law_451 rfl rfl ?_
  refine sj_bipush C (9) 454 rfl dL_law_452 (by decide) ?_
  refine sj_iald C 455 rfl dL_law_454 kd_q (sp_vp (i := 9) il_q (by omega) (by omega)) ?_
  rw [show Int32.toNatClampNeg 9 = 9 from rfl]
  rw [hq9]
  refine sj_aload C 457 rfl dL_law_455 rfl ?_
  refine sj_callS C 460 rfl dL_law_457 cn_L_204 (sj_fitO rfl rfl (show cl + 80 ≤ 677992 by omega) (show sl + 480 ≤ 7067491 by omega)) (sp_M_ty _ hM h8 (y >>> (7 &&& 31))) rfl rfl rfl (fun v1 S1 hp1 => ?_)
  obtain ⟨rfl, nV, BV, hM1, htx, hTR⟩ := hp1
  have hsh := sp_s_sht _ htx (fun _ => 0)
  have h60 : nV ≤ 60 := by
    have hh := sp_txt_len (sp_s_b (y >>> (7 &&& 31))) (1 + sp_lw (y >>> (7 &&& 31)) 5)
    have h5 := sp_lw_lt (y >>> (7 &&& 31)) (n := 5) (by omega) (by omega)
    have hn := htx.1
    omega
  refine sj_istore_14 C 462 rfl dL_law_460 rfl rfl ?_
  refine sj_goto C 484 rfl dL_law_462 ?_
  refine sj_aload_n C 485 rfl dL_law_484 rfl rfl ?_
  refine sj_callS C 488 rfl dL_law_485 cn_L_208 (sj_fitO rfl rfl (show cl + 80 + 200 ≤ 677992 by omega) (show sl + 480 + 1200 ≤ 7067491 by omega)) (sp_M_told _ hl hM1) rfl rfl rfl (fun v2 S2 hp2 => ?_)
  obtain ⟨rfl, e2⟩ := hp2
  rw [e2]
  refine sj_lstore_15 C 490 rfl dL_law_488 rfl rfl ?_
  refine sj_aload_n C 491 rfl dL_law_490 rfl rfl ?_
  refine sj_iload C 493 rfl dL_law_491 rfl ?_
  refine sj_iload C 495 rfl dL_law_493 rfl ?_
  refine sj_iload C 497 rfl dL_law_495 rfl ?_
  refine sj_callS C 500 rfl dL_law_497 cn_L_212 (sj_fitO rfl rfl (show cl + 80 + 200 + 5 ≤ 677992 by omega) (show sl + 480 + 1200 + 125 ≤ 7067491 by omega)) (sp_M_c0 _ h60 hM1 h8 (v := v) (u := u) hv hsh.1) rfl rfl rfl (fun v3 S3 hp3 => ?_)
  obtain ⟨rfl, hM3, hT3⟩ := hp3
  refine sj_istore_17 C 502 rfl dL_law_500 rfl rfl ?_
  refine sj_iload C 504 rfl dL_law_502 rfl ?_
  refine sj_bipush C (-100) 506 rfl dL_law_504 (by decide) ?_
  refine sj_icmp_ge C 522 509 rfl rfl dL_law_506 (fun c_506 => ?_) (fun c_506 => absurd (Int32.not_lt.mp (sp_ge_n (by omega))) c_506)
  refine sj_iload C 524 rfl dL_law_522 rfl ?_
  refine sj_if_le C 571 527 rfl rfl dL_law_524 (fun c_524 => ?_) (fun c_524 => absurd c_524 (by decide))
  refine sj_iload C 573 rfl dL_law_571 rfl ?_
  refine sj_iload C 575 rfl dL_law_573 rfl ?_
  refine sj_iload C 577 rfl dL_law_575 rfl ?_
  refine sj_iload C 579 rfl dL_law_577 rfl ?_
  refine sj_iload C 581 rfl dL_law_579 rfl ?_
  refine sj_aload_n C 582 rfl dL_law_581 rfl rfl ?_
  refine sj_aload_n C 583 rfl dL_law_582 rfl rfl ?_
  refine sj_aload C 585 rfl dL_law_583 rfl ?_
  refine sj_aload C 587 rfl dL_law_585 rfl ?_
  refine sj_aload C 589 rfl dL_law_587 rfl ?_
  have hT9 := fun e he => (congrFun hT3 (8 * sj_tn (m 9) + e)).trans (hTR e he)
  refine sj_callS C 592 rfl dL_law_589 cv_L_218 (sj_fitO rfl rfl (show cl + 80 + 200 + 5 + 0 ≤ 677992 by omega) (show sl + 480 + 1200 + 125 + 0 ≤ 7067491 by omega)) (sp_M_d0 _ hM.2.1 h8 htx _ hM3 hT9) rfl rfl rfl (fun v4 S4 hp4 => ?_)
  obtain ⟨rfl, hM4⟩ := hp4
  refine sj_icmp_ne C 614 595 rfl rfl dL_law_592 (fun c_592 => absurd rfl c_592) (fun c_592 => ?_)
  refine sj_aload_n C 596 rfl dL_law_595 rfl rfl ?_
  refine sj_iload C 598 rfl dL_law_596 rfl ?_
  refine sj_iconstv C (5) 599 rfl dL_law_598 rfl ?_
  refine sj_ishr C 600 rfl dL_law_599 ?_
  refine sj_aload_n C 601 rfl dL_law_600 rfl rfl ?_
  refine sj_aload_n C 602 rfl dL_law_601 rfl rfl ?_
  refine sj_aload C 604 rfl dL_law_602 rfl ?_
  refine sj_aload C 606 rfl dL_law_604 rfl ?_
  refine sj_aload C 608 rfl dL_law_606 rfl ?_
  refine sj_callS C 611 rfl dL_law_608 cn_L_222 (sj_fitO rfl rfl (show cl + 80 + 200 + 5 + 300 ≤ 677992 by omega) (show sl + 480 + 1200 + 125 + 1800 ≤ 7067491 by omega)) (sp_M_so _ _ hM4) rfl rfl rfl (fun v5 S5 hp5 => ?_)
  obtain ⟨rfl, e5⟩ := hp5
  rw [e5]
  refine sj_if_ne C 616 614 rfl rfl dL_law_611 (fun c_611 => ?_) (fun c_611 => absurd c_611 (by decide))
  refine sj_for [some (.ref b), some (.ref (g 141)), some (.ref (g 142)), some (.ref (g 143)), some (.ref (g 144)), some (.ref (g 145)), some (.ref (g 146)), some (.ref (g 147)), some (.int (nI (k))), none, none, none, none, none, none, none, none, none, none] (show _ ∧ _ ∧ _ ∧ _ ∧ _ ∧ _ ∧ _ ∧ _ ∧ _ ∧ True from ⟨rfl, rfl, rfl, rfl, rfl, rfl, rfl, rfl, rfl, trivial⟩) ?_
  exact K _ _ _ _ _ _ _ (cl + 80 + 200 + 5 + 300) (sl + 480 + 1200 + 125 + 1800) hM4 (by omega) (by omega)
set_option maxRecDepth 100000 in
set_option maxHeartbeats 400000 in
theorem lw_B {X : sj_X} {nm : String} (C : sj_C X (mL_law nm)) (hl : X.2.1.stackTraces = false) {b k : Nat} {S : sj_St} {g : Nat → Nat} {m : Nat → Int32} {p q : Nat} {Q : Nat → Nat → Int32} {n : Nat} {B : Nat → Int32} (hM : sp_M S g m m p q Q n B) (x y : Int32) {u v : Nat} (h8 : sj_tn (m 9) = 8) (hv : v ≤ 99) {cl sl : Nat} (hcl : cl ≤ 600000) (hsl : sl ≤ 7000000) (K : ∀ (U : sj_St) (m' : Nat → Int32) (p' q' : Nat) (Q' : Nat → Nat → Int32) (n' : Nat) (B' : Nat → Int32) (cl' sl' : Nat), sp_M U g m' m' p' q' Q' n' B' → cl' ≤ cl + 800 → sl' ≤ sl + 5000 → sj_G X U cl' sl' [some (.ref b), some (.ref (g 141)), some (.ref (g 142)), some (.ref (g 143)), some (.ref (g 144)), some (.ref (g 145)), some (.ref (g 146)), some (.ref (g 147)), some (.int (nI (k))), none, none, none, none, none, none, none, none, none] 616 []) : sj_G X S cl sl [some (.ref b), some (.ref (g 141)), some (.ref (g 142)), some (.ref (g 143)), some (.ref (g 144)), some (.ref (g 145)), some (.ref (g 146)), some (.ref (g 147)), some (.int (nI (k))), some (.int (x)), some (.int (y)), some (.int (0)), some (.int (nI (u))), some (.int (nI (v))), none, none, none, none] 428 [] := by
  have hz := hM.2.2.2
  have kd_q := hz.2.1.1.1
  have il_q := hz.2.1.1.2
  have h8q := hM.2.1.1.1.2
  have hq9 : sj_ia S (g 142) 9 = nI (sj_tn (m 9)) := (hz.2.1.2.2.2.2.2.1 9 (by omega)).trans hM.2.1.1.1.1
  refine sj_iconstv C (0) 429 rfl dL_law_428 rfl ?_
  refine sj_istore_14 C 431 rfl dL_law_429 rfl rfl ?_
  refine sj_iload C 433 rfl dL_law_431 rfl ?_
  refine sj_if_ne C 465 436 rfl rfl dL_law_433 (fun c_433 => absurd c_433 (by decide)) (fun c_433 => ?_)
  refine sj_aload_n C 437 rfl dL_law_436 rfl rfl ?_
  refine sj_bipush C (9) 439 rfl dL_law_437 (by decide) ?_
  refine sj_iald C 440 rfl dL_law_439 kd_q (sp_vp (i := 9) il_q (by omega) (by omega)) ?_
  rw [show Int32.toNatClampNeg 9 = 9 from rfl]
  rw [hq9]
  refine sj_bipush C (8) 442 rfl dL_law_440 (by decide) ?_
  refine sj_icmp_ge C 465 445 rfl rfl dL_law_442 (fun c_442 => ?_) (fun c_442 => absurd (show (8 : Int32) ≤ nI (sj_tn (m 9)) by rw [h8]; decide) c_442)
  refine sj_iload C 467 rfl dL_law_465 rfl ?_
  refine sj_if_ne C 484 470 rfl rfl dL_law_467 (fun c_467 => absurd c_467 (by decide)) (fun c_467 => ?_)
  refine sj_aload_n C 471 rfl dL_law_470 rfl rfl ?_
  refine sj_iload C 473 rfl dL_law_471 rfl ?_
  refine sj_bipush C (7) 475 rfl dL_law_473 (by decide) ?_
  refine sj_ishr C 476 rfl dL_law_475 ?_
  refine sj_iconstv C (0) 477 rfl dL_law_476 rfl ?_
  refine sj_aload C 479 rfl dL_law_477 rfl ?_
  refine sj_callS C 482 rfl dL_law_479 cn_L_204 (sj_fitO rfl rfl (show cl + 80 ≤ 677992 by omega) (show sl + 480 ≤ 7067491 by omega)) (sp_M_tw _ hM (y >>> (7 &&& 31))) rfl rfl rfl (fun v1 S1 hp1 => ?_)
  obtain ⟨rfl, nV, BV, hM1, htx⟩ := hp1
  have hsh := sp_s_sht _ htx (fun _ => 0)
  have h60 : nV ≤ 60 := by
    have hh := sp_txt_len (sp_s_b (y >>> (7 &&& 31))) (1 + sp_lw (y >>> (7 &&& 31)) 5)
    have h5 := sp_lw_lt (y >>> (7 &&& 31)) (n := 5) (by omega) (by omega)
    have hn := htx.1
    omega
  refine sj_istore_14 C 484 rfl dL_law_482 rfl rfl ?_
  refine sj_aload_n C 485 rfl dL_law_484 rfl rfl ?_
  refine sj_callS C 488 rfl dL_law_485 cn_L_208 (sj_fitO rfl rfl (show cl + 80 + 200 ≤ 677992 by omega) (show sl + 480 + 1200 ≤ 7067491 by omega)) (sp_M_told _ hl hM1) rfl rfl rfl (fun v2 S2 hp2 => ?_)
  obtain ⟨rfl, e2⟩ := hp2
  rw [e2]
  refine sj_lstore_15 C 490 rfl dL_law_488 rfl rfl ?_
  refine sj_aload_n C 491 rfl dL_law_490 rfl rfl ?_
  refine sj_iload C 493 rfl dL_law_491 rfl ?_
  refine sj_iload C 495 rfl dL_law_493 rfl ?_
  refine sj_iload C 497 rfl dL_law_495 rfl ?_
  refine sj_callS C 500 rfl dL_law_497 cn_L_212 (sj_fitO rfl rfl (show cl + 80 + 200 + 5 ≤ 677992 by omega) (show sl + 480 + 1200 + 125 ≤ 7067491 by omega)) (sp_M_c0f _ hl hM1 h8 (v := v) (u := u) hv hsh.1) rfl rfl rfl (fun v3 S3 hp3 => ?_)
  obtain ⟨rfl, hM3⟩ := hp3
  refine sj_istore_17 C 502 rfl dL_law_500 rfl rfl ?_
  refine sj_iload C 504 rfl dL_law_502 rfl ?_
  refine sj_bipush C (-100) 506 rfl dL_law_504 (by decide) ?_
  refine sj_icmp_ge C 522 509 rfl rfl dL_law_506 (fun c_506 => absurd c_506 (by decide)) (fun c_506 => ?_)
  refine sj_aload_n C 510 rfl dL_law_509 rfl rfl ?_
  refine sj_callS C 513 rfl dL_law_510 cn_L_208 (sj_fitO rfl rfl (show cl + 80 + 200 + 5 + 200 ≤ 677992 by omega) (show sl + 480 + 1200 + 125 + 1200 ≤ 7067491 by omega)) (sp_M_told _ hl hM3) rfl rfl rfl (fun v4 S4 hp4 => ?_)
  obtain ⟨rfl, e4⟩ := hp4
  rw [e4]
  refine sj_lload C 515 rfl dL_law_513 rfl ?_
  refine sj_lcmp C 516 rfl dL_law_515 ?_
  refine sj_if_eq C 571 519 rfl rfl dL_law_516 (fun c_516 => ?_) (fun c_516 => absurd (sq_lcmp _) c_516)
  refine sj_iload C 573 rfl dL_law_571 rfl ?_
  refine sj_iload C 575 rfl dL_law_573 rfl ?_
  refine sj_iload C 577 rfl dL_law_575 rfl ?_
  refine sj_iload C 579 rfl dL_law_577 rfl ?_
  refine sj_iload C 581 rfl dL_law_579 rfl ?_
  refine sj_aload_n C 582 rfl dL_law_581 rfl rfl ?_
  refine sj_aload_n C 583 rfl dL_law_582 rfl rfl ?_
  refine sj_aload C 585 rfl dL_law_583 rfl ?_
  refine sj_aload C 587 rfl dL_law_585 rfl ?_
  refine sj_aload C 589 rfl dL_law_587 rfl ?_
  refine sj_callS C 592 rfl dL_law_589 cv_L_218 (sj_fitO rfl rfl (show cl + 80 + 200 + 5 + 200 + 0 ≤ 677992 by omega) (show sl + 480 + 1200 + 125 + 1200 + 0 ≤ 7067491 by omega)) (sp_M_d0f _ h8 _ _ _ hM3) rfl rfl rfl (fun v5 S5 hp5 => ?_)
  obtain ⟨rfl, hM5⟩ := hp5
  refine sj_icmp_ne C 614 595 rfl rfl dL_law_592 (fun c_592 => absurd rfl c_592) (fun c_592 => ?_)
  refine sj_aload_n C 596 rfl dL_law_595 rfl rfl ?_
  refine sj_iload C 598 rfl dL_law_596 rfl ?_
  refine sj_iconstv C (5) 599 rfl dL_law_598 rfl ?_
  refine sj_ishr C 600 rfl dL_law_599 ?_
  refine sj_aload_n C 601 rfl dL_law_600 rfl rfl ?_
  refine sj_aload_n C 602 rfl dL_law_601 rfl rfl ?_
  refine sj_aload C 604 rfl dL_law_602 rfl ?_
  refine sj_aload C 606 rfl dL_law_604 rfl ?_
  refine sj_aload C 608 rfl dL_law_606 rfl ?_
  refine sj_callS C 611 rfl dL_law_608 cn_L_222 (sj_fitO rfl rfl (show cl + 80 + 200 + 5 + 200 + 300 ≤ 677992 by omega) (show sl + 480 + 1200 + 125 + 1200 + 1800 ≤ 7067491 by omega)) (sp_M_so _ _ hM5) rfl rfl rfl (fun v6 S6 hp6 => ?_)
  obtain ⟨rfl, e6⟩ := hp6
  rw [e6]
  refine sj_if_ne C 616 614 rfl rfl dL_law_611 (fun c_611 => ?_) (fun c_611 => absurd c_611 (by decide))
  refine sj_for [some (.ref b), some (.ref (g 141)), some (.ref (g 142)), some (.ref (g 143)), some (.ref (g 144)), some (.ref (g 145)), some (.ref (g 146)), some (.ref (g 147)), some (.int (nI (k))), none, none, none, none, none, none, none, none, none, none] (show _ ∧ _ ∧ _ ∧ _ ∧ _ ∧ _ ∧ _ ∧ _ ∧ _ ∧ True from ⟨rfl, rfl, rfl, rfl, rfl, rfl, rfl, rfl, rfl, trivial⟩) ?_
  exact K _ _ _ _ _ _ _ (cl + 80 + 200 + 5 + 200 + 300) (sl + 480 + 1200 + 125 + 1200 + 1800) hM5 (by omega) (by omega)
set_option maxRecDepth 100000 in
set_option maxHeartbeats 400000 in
theorem lw_C {X : sj_X} {nm : String} (C : sj_C X (mL_law nm)) (hl : X.2.1.stackTraces = false) {b k : Nat} {S : sj_St} {g : Nat → Nat} {m : Nat → Int32} {p q : Nat} {Q : Nat → Nat → Int32} {n : Nat} {B : Nat → Int32} (hM : sp_M S g m m p q Q n B) (x y : Int32) {u v kd : Nat} (hk : sp_ok kd u v) (hy : (sp_f kd u v m).2.2 = false ∧ (sp_f kd u v m).1 < -100 ∧ (sp_f kd u v m).2.1 = m) {cl sl : Nat} (hcl : cl ≤ 600000) (hsl : sl ≤ 7000000) (K : ∀ (U : sj_St) (m' : Nat → Int32) (p' q' : Nat) (Q' : Nat → Nat → Int32) (n' : Nat) (B' : Nat → Int32) (cl' sl' : Nat), sp_M U g m' m' p' q' Q' n' B' → cl' ≤ cl + 800 → sl' ≤ sl + 5000 → sj_G X U cl' sl' [some (.ref b), some (.ref (g 141)), some (.ref (g 142)), some (.ref (g 143)), some (.ref (g 144)), some (.ref (g 145)), some (.ref (g 146)), some (.ref (g 147)), some (.int (nI (k))), none, none, none, none, none, none, none, none, none] 616 []) : sj_G X S cl sl [some (.ref b), some (.ref (g 141)), some (.ref (g 142)), some (.ref (g 143)), some (.ref (g 144)), some (.ref (g 145)), some (.ref (g 146)), some (.ref (g 147)), some (.int (nI (k))), some (.int (x)), some (.int (y)), some (.int (nI (kd))), some (.int (nI (u))), some (.int (nI (v))), none, none, none, none] 428 [] := by
  have hz := hM.2.2.2
  have kd_q := hz.2.1.1.1
  have il_q := hz.2.1.1.2
  have h8q := hM.2.1.1.1.2
  have hq9 : sj_ia S (g 142) 9 = nI (sj_tn (m 9)) := (hz.2.1.2.2.2.2.2.1 9 (by omega)).trans hM.2.1.1.1.1
  have hkp : 0 < kd := by
    rcases hk with h | h | h <;> omega
  have hk6 : kd ≤ 6 := by
    rcases hk with h | h | h <;> omega
  have hk0 : ¬ nI kd = 0 := nI_ne0 hkp (by omega)
  have hq6 : q ≤ 6 := hM.1.2.2.2.1.2.2.2.1
  have hq7 := sp_q6_1 q
  refine sj_iconstv C (0) 429 rfl dL_law_428 rfl ?_
  refine sj_istore_14 C 431 rfl dL_law_429 rfl rfl ?_
  refine sj_iload C 433 rfl dL_law_431 rfl ?_
  refine sj_if_ne C 465 436 rfl rfl dL_law_433 (fun c_433 => ?_) (fun c_433 => absurd c_433 hk0)
  refine sj_iload C 467 rfl dL_law_465 rfl ?_
  refine sj_if_ne C 484 470 rfl rfl dL_law_467 (fun c_467 => ?_) (fun c_467 => absurd c_467 hk0)
  refine sj_aload_n C 485 rfl dL_law_484 rfl rfl ?_
  refine sj_callS C 488 rfl dL_law_485 cn_L_208 (sj_fitO rfl rfl (show cl + 200 ≤ 677992 by omega) (show sl + 1200 ≤ 7067491 by omega)) (sp_M_told _ hl hM) rfl rfl rfl (fun v1 S1 hp1 => ?_)
  obtain ⟨rfl, e1⟩ := hp1
  rw [e1]
  refine sj_lstore_15 C 490 rfl dL_law_488 rfl rfl ?_
  refine sj_aload_n C 491 rfl dL_law_490 rfl rfl ?_
  refine sj_iload C 493 rfl dL_law_491 rfl ?_
  refine sj_iload C 495 rfl dL_law_493 rfl ?_
  refine sj_iload C 497 rfl dL_law_495 rfl ?_
  refine sj_callS C 500 rfl dL_law_497 cn_L_212 (sj_fitO rfl rfl (show cl + 200 + 5 ≤ 677992 by omega) (show sl + 1200 + 125 ≤ 7067491 by omega)) (sp_M_cn _ hl hM hk hy.1 hy.2.2) rfl rfl rfl (fun v2 S2 hp2 => ?_)
  obtain ⟨rfl, hM2⟩ := hp2
  refine sj_istore_17 C 502 rfl dL_law_500 rfl rfl ?_
  refine sj_iload C 504 rfl dL_law_502 rfl ?_
  refine sj_bipush C (-100) 506 rfl dL_law_504 (by decide) ?_
  refine sj_icmp_ge C 522 509 rfl rfl dL_law_506 (fun c_506 => (Int32.lt_irrefl (Int32.lt_of_lt_of_le hy.2.1 c_506)).elim) (fun c_506 => ?_)
  refine sj_aload_n C 510 rfl dL_law_509 rfl rfl ?_
  refine sj_callS C 513 rfl dL_law_510 cn_L_208 (sj_fitO rfl rfl (show cl + 200 + 5 + 200 ≤ 677992 by omega) (show sl + 1200 + 125 + 1200 ≤ 7067491 by omega)) (sp_M_told _ hl hM2) rfl rfl rfl (fun v3 S3 hp3 => ?_)
  obtain ⟨rfl, e3⟩ := hp3
  rw [e3]
  refine sj_lload C 515 rfl dL_law_513 rfl ?_
  refine sj_lcmp C 516 rfl dL_law_515 ?_
  refine sj_if_eq C 571 519 rfl rfl dL_law_516 (fun c_516 => ?_) (fun c_516 => absurd (sq_lcmp _) c_516)
  refine sj_iload C 573 rfl dL_law_571 rfl ?_
  refine sj_iload C 575 rfl dL_law_573 rfl ?_
  refine sj_iload C 577 rfl dL_law_575 rfl ?_
  refine sj_iload C 579 rfl dL_law_577 rfl ?_
  refine sj_iload C 581 rfl dL_law_579 rfl ?_
  refine sj_aload_n C 582 rfl dL_law_581 rfl rfl ?_
  refine sj_aload_n C 583 rfl dL_law_582 rfl rfl ?_
  refine sj_aload C 585 rfl dL_law_583 rfl ?_
  refine sj_aload C 587 rfl dL_law_585 rfl ?_
  refine sj_aload C 589 rfl dL_law_587 rfl ?_
  have hM9 : sp_M S2 g m (sp_f kd u v m).2.1 p q Q n B := by
    rw [hy.2.2]
    exact hM2
  refine sj_callS C 592 rfl dL_law_589 cv_L_218 (sj_fitO rfl rfl (show cl + 200 + 5 + 200 + 0 ≤ 677992 by omega) (show sl + 1200 + 125 + 1200 + 0 ≤ 7067491 by omega)) (sp_M_du _ hM.2.1 hk _ hM9) rfl rfl rfl (fun v4 S4 hp4 => ?_)
  obtain ⟨rfl, hM4⟩ := hp4
  refine sj_icmp_ne C 614 595 rfl rfl dL_law_592 (fun c_592 => absurd rfl c_592) (fun c_592 => ?_)
  refine sj_aload_n C 596 rfl dL_law_595 rfl rfl ?_
  refine sj_iload C 598 rfl dL_law_596 rfl ?_
  refine sj_iconstv C (5) 599 rfl dL_law_598 rfl ?_
  refine sj_ishr C 600 rfl dL_law_599 ?_
  refine sj_aload_n C 601 rfl dL_law_600 rfl rfl ?_
  refine sj_aload_n C 602 rfl dL_law_601 rfl rfl ?_
  refine sj_aload C 604 rfl dL_law_602 rfl ?_
  refine sj_aload C 606 rfl dL_law_604 rfl ?_
  refine sj_aload C 608 rfl dL_law_606 rfl ?_
  refine sj_callS C 611 rfl dL_law_608 cn_L_222 (sj_fitO rfl rfl (show cl + 200 + 5 + 200 + 300 ≤ 677992 by omega) (show sl + 1200 + 125 + 1200 + 1800 ≤ 7067491 by omega)) (sp_M_so _ _ hM4) rfl rfl rfl (fun v5 S5 hp5 => ?_)
  obtain ⟨rfl, e5⟩ := hp5
  rw [e5]
  refine sj_if_ne C 616 614 rfl rfl dL_law_611 (fun c_611 => ?_) (fun c_611 => absurd c_611 (by decide))
  refine sj_for [some (.ref b), some (.ref (g 141)), some (.ref (g 142)), some (.ref (g 143)), some (.ref (g 144)), some (.ref (g 145)), some (.ref (g 146)), some (.ref (g 147)), some (.int (nI (k))), none, none, none, none, none, none, none, none, none, none] (show _ ∧ _ ∧ _ ∧ _ ∧ _ ∧ _ ∧ _ ∧ _ ∧ _ ∧ True from ⟨rfl, rfl, rfl, rfl, rfl, rfl, rfl, rfl, rfl, trivial⟩) ?_
  exact K _ _ _ _ _ _ _ (cl + 200 + 5 + 200 + 300) (sl + 1200 + 125 + 1200 + 1800) hM4 (by omega) (by omega)
set_option maxRecDepth 100000 in
set_option maxHeartbeats 400000 in
theorem lw_D {X : sj_X} {nm : String} (C : sj_C X (mL_law nm)) (hl : X.2.1.stackTraces = false) {b k : Nat} {S : sj_St} {g : Nat → Nat} {m : Nat → Int32} {p q : Nat} {Q : Nat → Nat → Int32} {n : Nat} {B : Nat → Int32} (hM : sp_M S g m m p q Q n B) (x y : Int32) {u v kd : Nat} (hk : sp_ok kd u v) (hy : (sp_f kd u v m).2.2 = true ∧ ¬ (sp_f kd u v m).1 < -100) {cl sl : Nat} (hcl : cl ≤ 600000) (hsl : sl ≤ 7000000) (K : ∀ (U : sj_St) (m' : Nat → Int32) (p' q' : Nat) (Q' : Nat → Nat → Int32) (n' : Nat) (B' : Nat → Int32) (cl' sl' : Nat), sp_M U g m' m' p' q' Q' n' B' → cl' ≤ cl + 800 → sl' ≤ sl + 5000 → sj_G X U cl' sl' [some (.ref b), some (.ref (g 141)), some (.ref (g 142)), some (.ref (g 143)), some (.ref (g 144)), some (.ref (g 145)), some (.ref (g 146)), some (.ref (g 147)), some (.int (nI (k))), none, none, none, none, none, none, none, none, none] 616 []) : sj_G X S cl sl [some (.ref b), some (.ref (g 141)), some (.ref (g 142)), some (.ref (g 143)), some (.ref (g 144)), some (.ref (g 145)), some (.ref (g 146)), some (.ref (g 147)), some (.int (nI (k))), some (.int (x)), some (.int (y)), some (.int (nI (kd))), some (.int (nI (u))), some (.int (nI (v))), none, none, none, none] 428 [] := by
  have hz := hM.2.2.2
  have kd_q := hz.2.1.1.1
  have il_q := hz.2.1.1.2
  have h8q := hM.2.1.1.1.2
  have hq9 : sj_ia S (g 142) 9 = nI (sj_tn (m 9)) := (hz.2.1.2.2.2.2.2.1 9 (by omega)).trans hM.2.1.1.1.1
  have hkp : 0 < kd := by
    rcases hk with h | h | h <;> omega
  have hk6 : kd ≤ 6 := by
    rcases hk with h | h | h <;> omega
  have hk0 : ¬ nI kd = 0 := nI_ne0 hkp (by omega)
  have hq6 : q ≤ 6 := hM.1.2.2.2.1.2.2.2.1
  have hq7 := sp_q6_1 q
  refine sj_iconstv C (0) 429 rfl dL_law_428 rfl ?_
  refine sj_istore_14 C 431 rfl dL_law_429 rfl rfl ?_
  refine sj_iload C 433 rfl dL_law_431 rfl ?_
  refine sj_if_ne C 465 436 rfl rfl dL_law_433 (fun c_433 => ?_) (fun c_433 => absurd c_433 hk0)
  refine sj_iload C 467 rfl dL_law_465 rfl ?_
  refine sj_if_ne C 484 470 rfl rfl dL_law_467 (fun c_467 => ?_) (fun c_467 => absurd c_467 hk0)
  refine sj_aload_n C 485 rfl dL_law_484 rfl rfl ?_
  refine sj_callS C 488 rfl dL_law_485 cn_L_208 (sj_fitO rfl rfl (show cl + 200 ≤ 677992 by omega) (show sl + 1200 ≤ 7067491 by omega)) (sp_M_told _ hl hM) rfl rfl rfl (fun v1 S1 hp1 => ?_)
  obtain ⟨rfl, e1⟩ := hp1
  rw [e1]
  refine sj_lstore_15 C 490 rfl dL_law_488 rfl rfl ?_
  refine sj_aload_n C 491 rfl dL_law_490 rfl rfl ?_
  refine sj_iload C 493 rfl dL_law_491 rfl ?_
  refine sj_iload C 495 rfl dL_law_493 rfl ?_
  refine sj_iload C 497 rfl dL_law_495 rfl ?_
  refine sj_callS C 500 rfl dL_law_497 cn_L_212 (sj_fitO rfl rfl (show cl + 200 + 5 ≤ 677992 by omega) (show sl + 1200 + 125 ≤ 7067491 by omega)) (sp_M_cy _ hl hM hk hy.1) rfl rfl rfl (fun v2 S2 hp2 => ?_)
  obtain ⟨rfl, hM2⟩ := hp2
  refine sj_istore_17 C 502 rfl dL_law_500 rfl rfl ?_
  refine sj_iload C 504 rfl dL_law_502 rfl ?_
  refine sj_bipush C (-100) 506 rfl dL_law_504 (by decide) ?_
  refine sj_icmp_ge C 522 509 rfl rfl dL_law_506 (fun c_506 => ?_) (fun c_506 => absurd (Int32.not_lt.mp hy.2) c_506)
  refine sj_iload C 524 rfl dL_law_522 rfl ?_
  refine sj_if_le C 571 527 rfl rfl dL_law_524 (fun c_524 => absurd c_524 (nI_nle hkp (by omega))) (fun c_524 => ?_)
  refine sj_iload C 529 rfl dL_law_527 rfl ?_
  refine sj_bipush C (24) 531 rfl dL_law_529 (by decide) ?_
  refine sj_ishr C 532 rfl dL_law_531 ?_
  refine sj_iconstv C (3) 533 rfl dL_law_532 rfl ?_
  refine sj_iand C 534 rfl dL_law_533 ?_
  refine sj_if_ne C 571 537 rfl rfl dL_law_534 (fun c_534 => ?_) (fun c_534 => ?_)
  · refine sj_iload C 573 rfl dL_law_571 rfl ?_
    refine sj_iload C 575 rfl dL_law_573 rfl ?_
    refine sj_iload C 577 rfl dL_law_575 rfl ?_
    refine sj_iload C 579 rfl dL_law_577 rfl ?_
    refine sj_iload C 581 rfl dL_law_579 rfl ?_
    refine sj_aload_n C 582 rfl dL_law_581 rfl rfl ?_
    refine sj_aload_n C 583 rfl dL_law_582 rfl rfl ?_
    refine sj_aload C 585 rfl dL_law_583 rfl ?_
    refine sj_aload C 587 rfl dL_law_585 rfl ?_
    refine sj_aload C 589 rfl dL_law_587 rfl ?_
    refine sj_callS C 592 rfl dL_law_589 cv_L_218 (sj_fitO rfl rfl (show cl + 200 + 5 + 0 ≤ 677992 by omega) (show sl + 1200 + 125 + 0 ≤ 7067491 by omega)) (sp_M_du _ hM.2.1 hk _ hM2) rfl rfl rfl (fun v3 S3 hp3 => ?_)
    obtain ⟨rfl, hM3⟩ := hp3
    refine sj_icmp_ne C 614 595 rfl rfl dL_law_592 (fun c_592 => absurd rfl c_592) (fun c_592 => ?_)
    refine sj_aload_n C 596 rfl dL_law_595 rfl rfl ?_
    refine sj_iload C 598 rfl dL_law_596 rfl ?_
    refine sj_iconstv C (5) 599 rfl dL_law_598 rfl ?_
    refine sj_ishr C 600 rfl dL_law_599 ?_
    refine sj_aload_n C 601 rfl dL_law_600 rfl rfl ?_
    refine sj_aload_n C 602 rfl dL_law_601 rfl rfl ?_
    refine sj_aload C 604 rfl dL_law_602 rfl ?_
    refine sj_aload C 606 rfl dL_law_604 rfl ?_
    refine sj_aload C 608 rfl dL_law_606 rfl ?_
    refine sj_callS C 611 rfl dL_law_608 cn_L_222 (sj_fitO rfl rfl (show cl + 200 + 5 + 300 ≤ 677992 by omega) (show sl + 1200 + 125 + 1800 ≤ 7067491 by omega)) (sp_M_so _ _ hM3) rfl rfl rfl (fun v4 S4 hp4 => ?_)
    obtain ⟨rfl, e4⟩ := hp4
    rw [e4]
    refine sj_if_ne C 616 614 rfl rfl dL_law_611 (fun c_611 => ?_) (fun c_611 => absurd c_611 (by decide))
    refine sj_for [some (.ref b), some (.ref (g 141)), some (.ref (g 142)), some (.ref (g 143)), some (.ref (g 144)), some (.ref (g 145)), some (.ref (g 146)), some (.ref (g 147)), some (.int (nI (k))), none, none, none, none, none, none, none, none, none, none] (show _ ∧ _ ∧ _ ∧ _ ∧ _ ∧ _ ∧ _ ∧ _ ∧ _ ∧ True from ⟨rfl, rfl, rfl, rfl, rfl, rfl, rfl, rfl, rfl, trivial⟩) ?_
    exact K _ _ _ _ _ _ _ (cl + 200 + 5 + 300) (sl + 1200 + 125 + 1800) hM3 (by omega) (by omega)
  · refine sj_aload_n C 538 rfl dL_law_537 rfl rfl ?_
    refine sj_callSW C (sj_hN C) 541 rfl dL_law_538 cw_L_215 (sj_fitO rfl rfl (show cl + 200 + 5 + 1 ≤ 677992 by omega) (show sl + 1200 + 125 + 6 ≤ 7067491 by omega)) (sp_M_un _ hM.2.1 hM.2.2.1 hM2) rfl rfl rfl (fun v5 S5 hp5 => ?_)
    obtain ⟨rfl, hM5⟩ := hp5
    refine sj_if_lt C 569 544 rfl rfl dL_law_541 (fun c_541 => absurd c_541 (nI_pos (by omega))) (fun c_541 => ?_)
    refine sj_aload_n C 545 rfl dL_law_544 rfl rfl ?_
    refine sj_callS C 548 rfl dL_law_545 cn_L_208 (sj_fitO rfl rfl (show cl + 200 + 5 + 1 + 200 ≤ 677992 by omega) (show sl + 1200 + 125 + 6 + 1200 ≤ 7067491 by omega)) (sp_M_told _ hl hM5) rfl rfl rfl (fun v6 S6 hp6 => ?_)
    obtain ⟨rfl, e6⟩ := hp6
    rw [e6]
    refine sj_lload C 550 rfl dL_law_548 rfl ?_
    refine sj_lcmp C 551 rfl dL_law_550 ?_
    refine sj_if_ne C 569 554 rfl rfl dL_law_551 (fun c_551 => absurd (sq_lcmp _) c_551) (fun c_551 => ?_)
    refine sj_aload_n C 555 rfl dL_law_554 rfl rfl ?_
    refine sj_iload C 557 rfl dL_law_555 rfl ?_
    refine sj_iload C 559 rfl dL_law_557 rfl ?_
    refine sj_iload C 561 rfl dL_law_559 rfl ?_
    refine sj_callS C 564 rfl dL_law_561 cn_L_212 (sj_fitO rfl rfl (show cl + 200 + 5 + 1 + 200 + 5 ≤ 677992 by omega) (show sl + 1200 + 125 + 6 + 1200 + 125 ≤ 7067491 by omega)) (sp_M_cy _ hl hM5 hk hy.1) rfl rfl rfl (fun v7 S7 hp7 => ?_)
    obtain ⟨rfl, hM7⟩ := hp7
    refine sj_iload C 566 rfl dL_law_564 rfl ?_
    refine sj_icmp_eq C 571 569 rfl rfl dL_law_566 (fun c_566 => ?_) (fun c_566 => absurd rfl c_566)
    refine sj_iload C 573 rfl dL_law_571 rfl ?_
    refine sj_iload C 575 rfl dL_law_573 rfl ?_
    refine sj_iload C 577 rfl dL_law_575 rfl ?_
    refine sj_iload C 579 rfl dL_law_577 rfl ?_
    refine sj_iload C 581 rfl dL_law_579 rfl ?_
    refine sj_aload_n C 582 rfl dL_law_581 rfl rfl ?_
    refine sj_aload_n C 583 rfl dL_law_582 rfl rfl ?_
    refine sj_aload C 585 rfl dL_law_583 rfl ?_
    refine sj_aload C 587 rfl dL_law_585 rfl ?_
    refine sj_aload C 589 rfl dL_law_587 rfl ?_
    refine sj_callS C 592 rfl dL_law_589 cv_L_218 (sj_fitO rfl rfl (show cl + 200 + 5 + 1 + 200 + 5 + 0 ≤ 677992 by omega) (show sl + 1200 + 125 + 6 + 1200 + 125 + 0 ≤ 7067491 by omega)) (sp_M_du _ hM.2.1 hk _ hM7) rfl rfl rfl (fun v8 S8 hp8 => ?_)
    obtain ⟨rfl, hM8⟩ := hp8
    refine sj_icmp_ne C 614 595 rfl rfl dL_law_592 (fun c_592 => absurd rfl c_592) (fun c_592 => ?_)
    refine sj_aload_n C 596 rfl dL_law_595 rfl rfl ?_
    refine sj_iload C 598 rfl dL_law_596 rfl ?_
    refine sj_iconstv C (5) 599 rfl dL_law_598 rfl ?_
    refine sj_ishr C 600 rfl dL_law_599 ?_
    refine sj_aload_n C 601 rfl dL_law_600 rfl rfl ?_
    refine sj_aload_n C 602 rfl dL_law_601 rfl rfl ?_
    refine sj_aload C 604 rfl dL_law_602 rfl ?_
    refine sj_aload C 606 rfl dL_law_604 rfl ?_
    refine sj_aload C 608 rfl dL_law_606 rfl ?_
    refine sj_callS C 611 rfl dL_law_608 cn_L_222 (sj_fitO rfl rfl (show cl + 200 + 5 + 1 + 200 + 5 + 300 ≤ 677992 by omega) (show sl + 1200 + 125 + 6 + 1200 + 125 + 1800 ≤ 7067491 by omega)) (sp_M_so _ _ hM8) rfl rfl rfl (fun v9 S9 hp9 => ?_)
    obtain ⟨rfl, e9⟩ := hp9
    rw [e9]
    refine sj_if_ne C 616 614 rfl rfl dL_law_611 (fun c_611 => ?_) (fun c_611 => absurd c_611 (by decide))
    refine sj_for [some (.ref b), some (.ref (g 141)), some (.ref (g 142)), some (.ref (g 143)), some (.ref (g 144)), some (.ref (g 145)), some (.ref (g 146)), some (.ref (g 147)), some (.int (nI (k))), none, none, none, none, none, none, none, none, none, none] (show _ ∧ _ ∧ _ ∧ _ ∧ _ ∧ _ ∧ _ ∧ _ ∧ _ ∧ True from ⟨rfl, rfl, rfl, rfl, rfl, rfl, rfl, rfl, rfl, trivial⟩) ?_
    exact K _ _ _ _ _ _ _ (cl + 200 + 5 + 1 + 200 + 5 + 300) (sl + 1200 + 125 + 6 + 1200 + 125 + 1800) hM8 (by omega) (by omega)
theorem lw_tail {X : sj_X} {nm : String} (C : sj_C X (mL_law nm)) (hl : X.2.1.stackTraces = false) {b k : Nat} {S : sj_St} {g : Nat → Nat} {m : Nat → Int32} {p q : Nat} {Q : Nat → Nat → Int32} {n : Nat} {B : Nat → Int32} (hM : sp_M S g m m p q Q n B) (x y : Int32) {u v kd : Nat} (h0 : kd = 0 → v ≤ 99) (h1 : 0 < kd → sp_ok kd u v) {cl sl : Nat} (hcl : cl ≤ 600000) (hsl : sl ≤ 7000000) (K : ∀ (U : sj_St) (m' : Nat → Int32) (p' q' : Nat) (Q' : Nat → Nat → Int32) (n' : Nat) (B' : Nat → Int32) (cl' sl' : Nat), sp_M U g m' m' p' q' Q' n' B' → cl' ≤ cl + 800 → sl' ≤ sl + 5000 → sj_G X U cl' sl' [some (.ref b), some (.ref (g 141)), some (.ref (g 142)), some (.ref (g 143)), some (.ref (g 144)), some (.ref (g 145)), some (.ref (g 146)), some (.ref (g 147)), some (.int (nI (k))), none, none, none, none, none, none, none, none, none] 616 []) : sj_G X S cl sl [some (.ref b), some (.ref (g 141)), some (.ref (g 142)), some (.ref (g 143)), some (.ref (g 144)), some (.ref (g 145)), some (.ref (g 146)), some (.ref (g 147)), some (.int (nI (k))), some (.int (x)), some (.int (y)), some (.int (nI (kd))), some (.int (nI (u))), some (.int (nI (v))), none, none, none, none] 428 [] := by
  have h8 := hM.2.1.1.1.2
  by_cases hk : 0 < kd
  · rcases sp_f_r hM.2.1.1 (h1 hk) with hy | hy
    · exact lw_D C hl hM x y (h1 hk) hy hcl hsl K
    · exact lw_C C hl hM x y (h1 hk) hy hcl hsl K
  · have hk0 : kd = 0 := by omega
    subst hk0
    rcases Nat.lt_or_ge (sj_tn (m 9)) 8 with h | h
    · exact lw_A C hl hM x y h (h0 rfl) hcl hsl K
    · exact lw_B C hl hM x y (by omega) (h0 rfl) hcl hsl K
