/-! THE REFERENCE: a likeness behind years, the share of hands, the digest -/
/-- agreeing marks: six bits -/
def sj_m6 (b0 b1 b2 b3 b4 b5 : Bool) : Int32 := ((((((0 : Int32) ||| (if b0 then 1 <<< (nI 0 &&& 31) else 0)) ||| (if b1 then 1 <<< (nI 1 &&& 31) else 0)) ||| (if b2 then 1 <<< (nI 2 &&& 31) else 0)) ||| (if b3 then 1 <<< (nI 3 &&& 31) else 0)) ||| (if b4 then 1 <<< (nI 4 &&& 31) else 0)) ||| (if b5 then 1 <<< (nI 5 &&& 31) else 0)
theorem sj_agr_m6 (m : Nat → Int32) (i e : Nat) : sj_agr m i e 6 = sj_m6 (sj_agb m i e 0) (sj_agb m i e 1) (sj_agb m i e 2) (sj_agb m i e 3) (sj_agb m i e 4) (sj_agb m i e 5) := rfl
theorem sj_m6_ok : ∀ b0 b1 b2 b3 b4 b5 : Bool, 0 ≤ sj_ones (sj_m6 b0 b1 b2 b3 b4 b5) ∧ sj_ones (sj_m6 b0 b1 b2 b3 b4 b5) ≤ 6 ∧ sj_bc (sj_m6 b0 b1 b2 b3 b4 b5) = sj_ones (sj_m6 b0 b1 b2 b3 b4 b5) := by decide +kernel
theorem sj_lik_6 (m : Nat → Int32) (i e : Nat) : ∃ x, x ≤ 6 ∧ sj_lik m i e = nI x := by
  unfold sj_lik
  rw [sj_agr_m6]
  exact sj_nIb (n := 6) (by omega) (sj_m6_ok _ _ _ _ _ _).1 (sj_m6_ok _ _ _ _ _ _).2.1
/-- pairs of one hand, and their likeness, over the first k sheets -/
def sj_shp (m : Nat → Int32) : Nat → Int32
  | 0 => 0
  | k + 1 => sj_shp m k + sj_sum (fun e => sj_bi (sj_a1 m k e)) k
def sj_shl (m : Nat → Int32) : Nat → Int32
  | 0 => 0
  | k + 1 => sj_shl m k + sj_sum (fun e => if sj_a1 m k e then sj_lik m k e else 0) k
def sj_shr (m : Nat → Int32) : UInt64 := if sj_shp m (sj_tn (m 9)) = 0 then FP.dconst1 else FP.ddiv (FP.i2d (sj_shl m (sj_tn (m 9)))) (FP.i2d (6 * sj_shp m (sj_tn (m 9))))
theorem sj_sh_in (m : Nat → Int32) (k : Nat) : ∀ e, ∃ c s, sj_sum (fun e => sj_bi (sj_a1 m k e)) e = nI c ∧ sj_sum (fun e => if sj_a1 m k e then sj_lik m k e else 0) e = nI s ∧ c ≤ e ∧ s ≤ 6 * c
  | 0 => ⟨0, 0, rfl, rfl, Nat.le_refl _, Nat.le_refl _⟩
  | e + 1 => by
    obtain ⟨c, s, h1, h2, h3, h4⟩ := sj_sh_in m k e
    obtain ⟨x, hx, ex⟩ := sj_lik_6 m k e
    show ∃ c s, sj_sum (fun e => sj_bi (sj_a1 m k e)) e + sj_bi (sj_a1 m k e) = nI c ∧ sj_sum (fun e => if sj_a1 m k e then sj_lik m k e else 0) e + (if sj_a1 m k e then sj_lik m k e else 0) = nI s ∧ c ≤ e + 1 ∧ s ≤ 6 * c
    rw [h1, h2]
    cases hb : sj_a1 m k e with
    | false => exact ⟨c, s, Int32.add_zero _, by rw [if_neg Bool.false_ne_true]; exact Int32.add_zero _, by omega, h4⟩
    | true => exact ⟨c + 1, s + x, nI_1 c, by rw [if_pos rfl, ex, nI_add], by omega, by omega⟩
def sj_tri : Nat → Nat
  | 0 => 0
  | k + 1 => sj_tri k + k
theorem sj_tri_28 : ∀ n, n ≤ 8 → sj_tri n ≤ 28 := by
  intro n hn
  have h : ∀ n, n < 9 → sj_tri n ≤ 28 := by decide
  exact h n (by omega)
theorem sj_sh_out (m : Nat → Int32) : ∀ k, ∃ c s, sj_shp m k = nI c ∧ sj_shl m k = nI s ∧ c ≤ sj_tri k ∧ s ≤ 6 * c
  | 0 => ⟨0, 0, rfl, rfl, Nat.le_refl _, Nat.le_refl _⟩
  | k + 1 => by
    obtain ⟨c, s, h1, h2, h3, h4⟩ := sj_sh_out m k
    obtain ⟨c2, s2, g1, g2, g3, g4⟩ := sj_sh_in m k k
    refine ⟨c + c2, s + s2, ?_, ?_, ?_, by omega⟩
    · show sj_shp m k + sj_sum _ k = _
      rw [h1, g1, nI_add]
    · show sj_shl m k + sj_sum _ k = _
      rw [h2, g2, nI_add]
    · show c + c2 ≤ sj_tri k + k
      omega
/-- what a share of hands may be: one, or a likeness through pairs -/
theorem sj_sh_ps (m : Nat → Int32) (hn : sj_tn (m 9) ≤ 8) : sj_shp m (sj_tn (m 9)) = 0 ∨ ∃ p s, p < 28 ∧ s < 169 ∧ s ≤ 6 * (p + 1) ∧ sj_shp m (sj_tn (m 9)) = nI (p + 1) ∧ sj_shl m (sj_tn (m 9)) = nI s := by
  obtain ⟨c, s, h1, h2, h3, h4⟩ := sj_sh_out m (sj_tn (m 9))
  have h5 := sj_tri_28 _ hn
  cases c with
  | zero => exact Or.inl h1
  | succ p => exact Or.inr ⟨p, s, by omega, by omega, h4, h1, h2⟩
def sj_shok (x : UInt64) : Bool := decide (x &&& 0x7fffffffffffffff ≤ 0x7ff0000000000000) && (decide (Op.cmpValue (FP.dcmp x x) .l = 0) && (decide (Op.cmpValue (FP.dcmp x x) .g = 0) && (if Op.cmpValue (FP.dcmp x FP.dconst0) .g ≤ 0 then decide (x.toInt64 = 0) else decide (sj_bol 12 x 1023 = some x.toInt64))))
theorem sj_shok_1 : sj_shok FP.dconst1 = true := by decide +kernel
theorem sj_sh_d {m : Nat → Int32} (hn : sj_tn (m 9) ≤ 8) (h : ¬ sj_shp m (sj_tn (m 9)) = 0) : sj_shok (FP.ddiv (FP.i2d (sj_shl m (sj_tn (m 9)))) (FP.i2d (6 * sj_shp m (sj_tn (m 9))))) = true := by
  rcases sj_sh_ps m hn with h1 | ⟨p, s, hp, hs, hsp, e1, e2⟩
  · exact absurd h1 h
  · have h2 := sj_shg_ok p hp s hs
    rw [decide_eq_false (by omega), Bool.false_or] at h2
    rw [e1, e2, show (6 : Int32) * nI (p + 1) = nI (6 * (p + 1)) from sj_nmul 6 _]
    exact h2
theorem sj_shr_ok {m : Nat → Int32} (hn : sj_tn (m 9) ≤ 8) : sj_shok (sj_shr m) = true := by
  unfold sj_shr
  by_cases h : sj_shp m (sj_tn (m 9)) = 0
  · rw [if_pos h]
    exact sj_shok_1
  · rw [if_neg h]
    exact sj_sh_d hn h
theorem sj_shok_n {x : UInt64} (h : sj_shok x = true) : vf_n64 x := by
  unfold sj_shok at h
  rw [Bool.and_eq_true] at h
  have h8 : x &&& 0x7fffffffffffffff ≤ 0x7ff0000000000000 := of_decide_eq_true h.1
  exact h8
theorem sj_shok_l {x : UInt64} (h : sj_shok x = true) : Op.cmpValue (FP.dcmp x x) .l = 0 := by
  unfold sj_shok at h
  rw [Bool.and_eq_true, Bool.and_eq_true] at h
  exact of_decide_eq_true h.2.1
/-- a likeness as it would be behind years -/
def sj_ifp (m : Nat → Int32) (i e : Nat) (y : Int32) : Int32 := if sj_old m y (sj_tn (m 9)) = -1 then 0 else sj_lik (sj_pas m y (sj_tn (m 9))) i e
def sj_q_ifp (m : Nat → Int32) (v e y : Int32) : Int32 × Int32 := if sj_isn m v = false ∨ sj_isn m e = false then (0, 1) else if sj_wi y 1 99 = false then (0, 2) else (sj_ifp m (sj_tn v) (sj_tn e) y, 0)
theorem sj_pas_434 (m : Nat → Int32) (y : Int32) (f : Nat → Int32) (n : Nat) (hn : n ≤ 8) : sj_cp 434 (sj_cp 434 m f) (sj_pas m y n) = m := by
  funext j
  unfold sj_cp
  by_cases h : j < 434
  · rw [if_pos h, if_pos h]
  · rw [if_neg h]
    exact sj_pas_o m y n (fun i hi => by omega)
set_option maxRecDepth 100000 in
set_option maxHeartbeats 2500000 in
theorem ct_X7_wouldPass (l : Launch) {S : sj_St} {h : Nat} {b : Nat → Nat} {m : Nat → Int32} (hm : sj_mm S h b m) (hI : sj_inv m) (i e : Nat) (hi : i < sj_tn (m 9)) (he : e < sj_tn (m 9)) (y : Int32) (hy : 0 ≤ y ∧ y ≤ 99) : sj_Ctr l mX7_wouldPass [.ref h, .int (nI i), .int (nI e), .int y] S (sj_eq (some (.int (sj_ifp m i e y))) (sj_sIa S (b 2) (sj_cp 434 m (sj_ia S (b 2))))) := by
  refine sj_start ([some (.ref h), some (.int (nI i)), some (.int (nI e)), some (.int y), none, none]) (by decide +kernel) rfl rfl (fun X hX C hR => ?_)
  subst hX
  have hm0 := hm
  obtain ⟨hm', em⟩ := hm0
  subst em
  obtain ⟨kd_h, ⟨rf_h_1, kd_a1, il_a1⟩, ⟨rf_h_2, kd_a2, il_a2⟩, ⟨rf_h_3, kd_a3, il_a3⟩, ⟨rf_h_5, kd_a5, il_a5⟩, ⟨rf_h_7, kd_a7, il_a7⟩, ⟨rf_h_13, kd_a13, il_a13⟩, ⟨rf_h_15, kd_a15, il_a15⟩, hinj⟩ := hm'
  have hv := sj_inv_oav hI
  have hs := sj_inv_shs hI
  obtain ⟨⟨h9, hn8⟩, ⟨h10, hn28⟩, hoa⟩ := id hv
  have hmB : sj_mm (sj_sIa S (b 2) (sj_cp 434 (sj_ia S (b 1)) (sj_ia S (b 2)))) h b (sj_ia S (b 1)) := ⟨hm.1, sj_ia_sIa_ne S _ (sj_mo_ne hm.1 (i := 1) (j := 2) (by omega) (by omega) (by omega))⟩
  have hs9 : ∀ i, i < sj_tn ((sj_ia S (b 1)) 9) → sj_shv (sj_pas (sj_ia S (b 1)) y (sj_tn ((sj_ia S (b 1)) 9))) i := fun i hi => sj_inv_shs (sj_inv_pas hI hy _ rfl) i (by rw [sj_pas_lo _ _ (by omega)]; exact hi)
  have e2 : sj_ia (sj_sIa (sj_sIa S (b 2) (sj_cp 434 (sj_ia S (b 1)) (sj_ia S (b 2)))) (b 1) (sj_pas (sj_ia S (b 1)) y (sj_tn ((sj_ia S (b 1)) 9)))) (b 2) = sj_cp 434 (sj_ia S (b 1)) (sj_ia S (b 2)) := (sj_ia_sIa_ne (sj_sIa S (b 2) (sj_cp 434 (sj_ia S (b 1)) (sj_ia S (b 2)))) _ (sj_mo_ne hm.1 (i := 2) (j := 1) (by omega) (by omega) (by omega))).trans (sj_ia_sIa _ _ _)
  have sj_b1 : sj_sIa (sj_sIa S (b 2) (sj_cp 434 (sj_ia S (b 1)) (sj_ia S (b 2)))) (b 1) (sj_ia S (b 1)) = (sj_sIa S (b 2) (sj_cp 434 (sj_ia S (b 1)) (sj_ia S (b 2)))) := by
    have h8 := sj_sIa_id (sj_sIa S (b 2) (sj_cp 434 (sj_ia S (b 1)) (sj_ia S (b 2)))) (b 1)
    rw [hmB.2] at h8
    exact h8
  refine sj_aload_n C 1 rfl dX7_wouldPass_0 rfl rfl ?_
  refine sj_callVv C 4 rfl dX7_wouldPass_1 cv_X7_245 rfl (ct_X7_putAside _ hm) rfl rfl rfl ⟨_, _, kd_h, rfl, rfl, by decide⟩ ⟨rfl, rfl⟩ ?_
  refine sj_aload_n C 5 rfl dX7_wouldPass_4 rfl rfl ?_
  refine sj_iload_n C 6 rfl dX7_wouldPass_5 rfl rfl ?_
  refine sj_callVd C 9 rfl dX7_wouldPass_6 cv_X7_148 rfl (ct_X7_passes _ hmB hv y) rfl rfl rfl ⟨_, _, kd_h, rfl, rfl, by decide⟩ ⟨rfl, rfl⟩ ?_
  refine sj_istore_4 C 11 rfl dX7_wouldPass_9 rfl rfl ?_
  refine sj_iload C 13 rfl dX7_wouldPass_11 rfl ?_
  refine sj_iconstv C (-1) 14 rfl dX7_wouldPass_13 rfl ?_
  refine sj_icmp_ne C 21 17 rfl rfl dX7_wouldPass_14 (fun c_14 => ?_) (fun c_14 => ?_)
  · refine sj_aload_n C 22 rfl dX7_wouldPass_21 rfl rfl ?_
    refine sj_iload_n C 23 rfl dX7_wouldPass_22 rfl rfl ?_
    refine sj_iload_n C 24 rfl dX7_wouldPass_23 rfl rfl ?_
    refine sj_callVd C 27 rfl dX7_wouldPass_24 cv_X7_119 rfl (ct_X7_likeness _ (sj_mm_1 hmB _) i e (hs9 i hi) (hs9 e he)) rfl rfl rfl ⟨_, _, kd_h, rfl, rfl, by decide⟩ ⟨rfl, rfl⟩ ?_
    refine sj_istore_5 C 29 rfl dX7_wouldPass_27 rfl rfl ?_
    refine sj_aload_n C 30 rfl dX7_wouldPass_29 rfl rfl ?_
    refine sj_callVv C 33 rfl dX7_wouldPass_30 cv_X7_248 rfl (ct_X7_takeBack _ (sj_mm_1 hmB (sj_pas (sj_ia S (b 1)) y (sj_tn ((sj_ia S (b 1)) 9))))) rfl rfl rfl ⟨_, _, kd_h, rfl, rfl, by decide⟩ ⟨rfl, rfl⟩ ?_
    rw [sj_sIa_sIa, e2, sj_pas_434 _ _ _ _ hn8, sj_b1]
    refine sj_iload C 35 rfl dX7_wouldPass_33 rfl ?_
    refine sj_iret C hR rfl rfl dX7_wouldPass_35 ?_
    refine ⟨congrArg (fun z => some (Value.int z)) ?_, rfl⟩
    unfold sj_ifp
    rw [if_neg c_14]
  · refine sj_iconstv C (0) 18 rfl dX7_wouldPass_17 rfl ?_
    refine sj_goto C 27 rfl dX7_wouldPass_18 ?_
    refine sj_istore_5 C 29 rfl dX7_wouldPass_27 rfl rfl ?_
    refine sj_aload_n C 30 rfl dX7_wouldPass_29 rfl rfl ?_
    refine sj_callVv C 33 rfl dX7_wouldPass_30 cv_X7_248 rfl (ct_X7_takeBack _ (sj_mm_1 hmB (sj_pas (sj_ia S (b 1)) y (sj_tn ((sj_ia S (b 1)) 9))))) rfl rfl rfl ⟨_, _, kd_h, rfl, rfl, by decide⟩ ⟨rfl, rfl⟩ ?_
    rw [sj_sIa_sIa, e2, sj_pas_434 _ _ _ _ hn8, sj_b1]
    refine sj_iload C 35 rfl dX7_wouldPass_33 rfl ?_
    refine sj_iret C hR rfl rfl dX7_wouldPass_35 ?_
    refine ⟨congrArg (fun z => some (Value.int z)) ?_, rfl⟩
    unfold sj_ifp
    rw [if_pos c_14]
set_option maxRecDepth 100000 in
set_option maxHeartbeats 2500000 in
theorem ct_X7_ifPassed (l : Launch) {S : sj_St} {h : Nat} {b : Nat → Nat} {m : Nat → Int32} (hm : sj_mm S h b m) (hI : sj_inv m) (v e y : Int32) : sj_Ctr l mX7_ifPassed [.ref h, .int v, .int e, .int y] S (fun u T => u = some (.int (sj_q_ifp m v e y).1) ∧ ∃ g, T = sj_sIa (sj_wFi S h 0 (sj_q_ifp m v e y).2) (b 2) g) := by
  refine sj_start ([some (.ref h), some (.int v), some (.int e), some (.int y)]) (by decide +kernel) rfl rfl (fun X hX C hR => ?_)
  subst hX
  have hm0 := hm
  obtain ⟨hm', em⟩ := hm0
  subst em
  obtain ⟨kd_h, ⟨rf_h_1, kd_a1, il_a1⟩, ⟨rf_h_2, kd_a2, il_a2⟩, ⟨rf_h_3, kd_a3, il_a3⟩, ⟨rf_h_5, kd_a5, il_a5⟩, ⟨rf_h_7, kd_a7, il_a7⟩, ⟨rf_h_13, kd_a13, il_a13⟩, ⟨rf_h_15, kd_a15, il_a15⟩, hinj⟩ := hm'
  have hv := sj_inv_oav hI
  have hs := sj_inv_shs hI
  obtain ⟨⟨h9, hn8⟩, ⟨h10, hn28⟩, hoa⟩ := id hv
  have hmz := sj_mm_f hm h 0 0
  refine sj_aload_n C 1 rfl dX7_ifPassed_0 rfl rfl ?_
  refine sj_iconstv C (0) 2 rfl dX7_ifPassed_1 rfl ?_
  refine sj_putI C 5 rfl fd_X7_31 dX7_ifPassed_2 rfl rfl kd_h ?_
  refine sj_aload_n C 6 rfl dX7_ifPassed_5 rfl rfl ?_
  refine sj_iload_n C 7 rfl dX7_ifPassed_6 rfl rfl ?_
  refine sj_callVd C 10 rfl dX7_ifPassed_7 cv_X7_142 rfl (ct_X7_isSheet _ hmz _) rfl rfl rfl ⟨_, _, kd_h, rfl, rfl, by decide⟩ ⟨rfl, rfl⟩ ?_
  rw [show sj_bi (sj_wi v 0 ((sj_ia S (b 1)) 9 - 1)) = sj_bi (sj_isn (sj_ia S (b 1)) v) from rfl]
  refine sj_if_eq C 21 13 rfl rfl dX7_ifPassed_10 (fun c_10 => ?_) (fun c_10 => ?_)
  · refine sj_aload_n C 22 rfl dX7_ifPassed_21 rfl rfl ?_
    refine sj_iconstv C (1) 23 rfl dX7_ifPassed_22 rfl ?_
    refine sj_callVd C 26 rfl dX7_ifPassed_23 cv_X7_46 rfl (ct_X7_fails _ hmz 1) rfl rfl rfl ⟨_, _, kd_h, rfl, rfl, by decide⟩ ⟨rfl, rfl⟩ ?_
    rw [sj_wFi_wFi]
    refine sj_iret C hR rfl rfl dX7_ifPassed_26 ?_
    have e8 : sj_q_ifp (sj_ia S (b 1)) v e y = (0, 1) := by
      unfold sj_q_ifp
      rw [if_pos (Or.inl (sj_bi0.mp c_10))]
    rw [e8]
    exact ⟨rfl, _, (sj_sIa_id _ (b 2)).symm⟩
  · refine sj_aload_n C 14 rfl dX7_ifPassed_13 rfl rfl ?_
    refine sj_iload_n C 15 rfl dX7_ifPassed_14 rfl rfl ?_
    refine sj_callVd C 18 rfl dX7_ifPassed_15 cv_X7_142 rfl (ct_X7_isSheet _ hmz _) rfl rfl rfl ⟨_, _, kd_h, rfl, rfl, by decide⟩ ⟨rfl, rfl⟩ ?_
    rw [show sj_bi (sj_wi e 0 ((sj_ia S (b 1)) 9 - 1)) = sj_bi (sj_isn (sj_ia S (b 1)) e) from rfl]
    refine sj_if_ne C 27 21 rfl rfl dX7_ifPassed_18 (fun c_18 => ?_) (fun c_18 => ?_)
    · obtain ⟨i, hi9, rfl⟩ := sj_isn_i hI (sj_bin.mp c_10)
      obtain ⟨d, hd9, rfl⟩ := sj_isn_i hI (sj_bin.mp c_18)
      refine sj_iload_n C 28 rfl dX7_ifPassed_27 rfl rfl ?_
      refine sj_iconstv C (1) 29 rfl dX7_ifPassed_28 rfl ?_
      refine sj_bipush C (99) 31 rfl dX7_ifPassed_29 (by decide) ?_
      refine sj_callSd C 34 rfl dX7_ifPassed_31 cv_X7_35 rfl (ct_X7_within _ _ _ _ _) rfl rfl rfl ⟨rfl, rfl⟩ ?_
      refine sj_if_eq C 47 37 rfl rfl dX7_ifPassed_34 (fun c_34 => ?_) (fun c_34 => ?_)
      · refine sj_aload_n C 48 rfl dX7_ifPassed_47 rfl rfl ?_
        refine sj_iconstv C (2) 49 rfl dX7_ifPassed_48 rfl ?_
        refine sj_callVd C 52 rfl dX7_ifPassed_49 cv_X7_46 rfl (ct_X7_fails _ hmz 2) rfl rfl rfl ⟨_, _, kd_h, rfl, rfl, by decide⟩ ⟨rfl, rfl⟩ ?_
        rw [sj_wFi_wFi]
        refine sj_iret C hR rfl rfl dX7_ifPassed_52 ?_
        have e8 : sj_q_ifp (sj_ia S (b 1)) (nI i) (nI d) y = (0, 2) := by
          unfold sj_q_ifp
          rw [if_neg (fun h8 => h8.elim (fun h7 => c_10 (sj_bi0.mpr h7)) (fun h7 => c_18 (sj_bi0.mpr h7))), if_pos (sj_bi0.mp c_34)]
        rw [e8]
        exact ⟨rfl, _, (sj_sIa_id _ (b 2)).symm⟩
      · have hyb : 0 ≤ y ∧ y ≤ 99 := ⟨Int32.le_trans (by decide) (sj_wi_iff.mp (sj_bin.mp c_34)).1, (sj_wi_iff.mp (sj_bin.mp c_34)).2⟩
        refine sj_aload_n C 38 rfl dX7_ifPassed_37 rfl rfl ?_
        refine sj_iload_n C 39 rfl dX7_ifPassed_38 rfl rfl ?_
        refine sj_iload_n C 40 rfl dX7_ifPassed_39 rfl rfl ?_
        refine sj_iload_n C 41 rfl dX7_ifPassed_40 rfl rfl ?_
        refine sj_callVd C 44 rfl dX7_ifPassed_41 cv_X7_251 rfl (ct_X7_wouldPass _ hmz hI i d hi9 hd9 y hyb) rfl rfl rfl ⟨_, _, kd_h, rfl, rfl, by decide⟩ ⟨rfl, rfl⟩ ?_
        refine sj_goto C 52 rfl dX7_ifPassed_44 ?_
        refine sj_iret C hR rfl rfl dX7_ifPassed_52 ?_
        have e8 : sj_q_ifp (sj_ia S (b 1)) (nI i) (nI d) y = (sj_ifp (sj_ia S (b 1)) i d y, 0) := by
          unfold sj_q_ifp
          rw [if_neg (fun h8 => h8.elim (fun h7 => c_10 (sj_bi0.mpr h7)) (fun h7 => c_18 (sj_bi0.mpr h7))), if_neg (fun h8 => c_34 (sj_bi0.mpr h8)), sj_tn_nI (by omega), sj_tn_nI (by omega)]
        rw [e8]
        exact ⟨rfl, _, rfl⟩
    · refine sj_aload_n C 22 rfl dX7_ifPassed_21 rfl rfl ?_
      refine sj_iconstv C (1) 23 rfl dX7_ifPassed_22 rfl ?_
      refine sj_callVd C 26 rfl dX7_ifPassed_23 cv_X7_46 rfl (ct_X7_fails _ hmz 1) rfl rfl rfl ⟨_, _, kd_h, rfl, rfl, by decide⟩ ⟨rfl, rfl⟩ ?_
      rw [sj_wFi_wFi]
      refine sj_iret C hR rfl rfl dX7_ifPassed_26 ?_
      have e8 : sj_q_ifp (sj_ia S (b 1)) v e y = (0, 1) := by
        unfold sj_q_ifp
        rw [if_pos (Or.inr (sj_bi0.mp c_18))]
      rw [e8]
      exact ⟨rfl, _, (sj_sIa_id _ (b 2)).symm⟩
set_option maxRecDepth 100000 in
set_option maxHeartbeats 2500000 in
theorem ct_X7_share (l : Launch) {S : sj_St} {h : Nat} {b : Nat → Nat} {m : Nat → Int32} (hm : sj_mm S h b m) (hI : sj_inv m) : sj_Ctr l mX7_share [.ref h] S (sj_scr (some (.double (sj_shr m))) S b) := by
  refine sj_start ([some (.ref h), none, none, none, none, none]) (by decide +kernel) rfl rfl (fun X hX C hR => ?_)
  subst hX
  have hm0 := hm
  obtain ⟨hm', em⟩ := hm0
  subst em
  obtain ⟨kd_h, ⟨rf_h_1, kd_a1, il_a1⟩, ⟨rf_h_2, kd_a2, il_a2⟩, ⟨rf_h_3, kd_a3, il_a3⟩, ⟨rf_h_5, kd_a5, il_a5⟩, ⟨rf_h_7, kd_a7, il_a7⟩, ⟨rf_h_13, kd_a13, il_a13⟩, ⟨rf_h_15, kd_a15, il_a15⟩, hinj⟩ := hm'
  have hv := sj_inv_oav hI
  have hs := sj_inv_shs hI
  obtain ⟨⟨h9, hn8⟩, ⟨h10, hn28⟩, hoa⟩ := id hv
  have hmA := sj_mm_15 hm (sj_cp 8 (sj_hH (sj_ia S (b 1)) (-1)) (sj_ia S (b 15)))
  have er : ∀ k9, k9 < 8 → sj_ia (sj_sIa S (b 15) (sj_cp 8 (sj_hH (sj_ia S (b 1)) (-1)) (sj_ia S (b 15)))) (b 15) (nI k9).toNatClampNeg = sj_hH (sj_ia S (b 1)) (-1) k9 := fun k9 hk => by
    rw [sj_ia_sIa, nI_clamp (by omega)]
    exact if_pos hk
  have e1 : sj_ia (sj_sIa S (b 15) (sj_cp 8 (sj_hH (sj_ia S (b 1)) (-1)) (sj_ia S (b 15)))) (b 1) = (sj_ia S (b 1)) := sj_ia_sIa_ne S _ (sj_mo_ne hm.1 (by omega) (by omega) (by omega))
  have cut_25 : ∀ k, k < sj_tn ((sj_ia S (b 1)) 9) → (∀ o4 o5, sj_G X (sj_sIa S (b 15) (sj_cp 8 (sj_hH (sj_ia S (b 1)) (-1)) (sj_ia S (b 15)))) 0 0 [some (.ref h), some (.int (sj_shl (sj_ia S (b 1)) (k + 1))), some (.int (sj_shp (sj_ia S (b 1)) (k + 1))), some (.int (nI (k + 1))), o4, o5] 11 []) → ∀ o5, sj_G X (sj_sIa S (b 15) (sj_cp 8 (sj_hH (sj_ia S (b 1)) (-1)) (sj_ia S (b 15)))) 0 0 [some (.ref h), some (.int (sj_shl (sj_ia S (b 1)) k + sj_sum (fun e => if sj_a1 (sj_ia S (b 1)) k e then sj_lik (sj_ia S (b 1)) k e else 0) 0)), some (.int (sj_shp (sj_ia S (b 1)) k + sj_sum (fun e => sj_bi (sj_a1 (sj_ia S (b 1)) k e)) 0)), some (.int (nI k)), some (.int (nI 0)), o5] 25 [] := by
    intro k hlt hnext
    refine sj_down (fun e => ∀ o5, sj_G X (sj_sIa S (b 15) (sj_cp 8 (sj_hH (sj_ia S (b 1)) (-1)) (sj_ia S (b 15)))) 0 0 [some (.ref h), some (.int (sj_shl (sj_ia S (b 1)) k + sj_sum (fun e => if sj_a1 (sj_ia S (b 1)) k e then sj_lik (sj_ia S (b 1)) k e else 0) e)), some (.int (sj_shp (sj_ia S (b 1)) k + sj_sum (fun e => sj_bi (sj_a1 (sj_ia S (b 1)) k e)) e)), some (.int (nI k)), some (.int (nI e)), o5] 25 []) k (fun e hke ihe => ?_)
    intro o5
    refine sj_iload C 27 rfl dX7_share_25 rfl ?_
    refine sj_iload_n C 28 rfl dX7_share_27 rfl rfl ?_
    refine sj_icmp_ge C 92 31 rfl rfl dX7_share_28 (fun c_28 => ?_) (fun c_28 => ?_)
    · refine sj_iinc_3 C 95 rfl dX7_share_92 rfl rfl ?_
      refine sj_goto C 11 rfl dX7_share_95 ?_
      have hee : e = k := by
        have h8 : ¬ e < k := fun h7 => nI_ge h7 (by omega) c_28
        omega
      subst hee
      rw [sj_n1]
      exact hnext _ _
    · have hle : e < k := Nat.not_le.mp fun h8 => c_28 (nI_le h8 (by omega))
      refine sj_aload_n C 32 rfl dX7_share_31 rfl rfl ?_
      refine sj_getr C 35 rfl fd_X7_28 dX7_share_32 kd_h rf_h_15 ?_
      refine sj_iload_n C 36 rfl dX7_share_35 rfl rfl ?_
      refine sj_iald C 37 rfl dX7_share_36 kd_a15 (by show vp_in (nI k) (sj_il S (b 15)); rw [il_a15]; exact vp_in_nI (by omega) (by omega)) ?_
      rw [er k (by omega)]
      refine sj_aload_n C 38 rfl dX7_share_37 rfl rfl ?_
      refine sj_getr C 41 rfl fd_X7_28 dX7_share_38 kd_h rf_h_15 ?_
      refine sj_iload C 43 rfl dX7_share_41 rfl ?_
      refine sj_iald C 44 rfl dX7_share_43 kd_a15 (by show vp_in (nI e) (sj_il S (b 15)); rw [il_a15]; exact vp_in_nI (by omega) (by omega)) ?_
      rw [er e (by omega)]
      refine sj_icmp_ne C 51 47 rfl rfl dX7_share_44 (fun c_44 => ?_) (fun c_44 => ?_)
      · refine sj_iconstv C (0) 52 rfl dX7_share_51 rfl ?_
        refine sj_istore_5 C 54 rfl dX7_share_52 rfl rfl ?_
        refine sj_iload_n C 55 rfl dX7_share_54 rfl rfl ?_
        refine sj_iload C 57 rfl dX7_share_55 rfl ?_
        refine sj_if_eq C 70 60 rfl rfl dX7_share_57 (fun c_57 => ?_) (fun c_57 => ?_)
        · skip
          refine sj_iconstv C (0) 71 rfl dX7_share_70 rfl ?_
          refine sj_iadd C 72 rfl dX7_share_71 ?_
          refine sj_istore_n_1 C 73 rfl dX7_share_72 rfl rfl ?_
          refine sj_iload_n C 74 rfl dX7_share_73 rfl rfl ?_
          refine sj_iload C 76 rfl dX7_share_74 rfl ?_
          refine sj_if_eq C 83 79 rfl rfl dX7_share_76 (fun c_76 => ?_) (fun c_76 => ?_)
          · skip
            refine sj_iconstv C (0) 84 rfl dX7_share_83 rfl ?_
            refine sj_iadd C 85 rfl dX7_share_84 ?_
            refine sj_istore_n_2 C 86 rfl dX7_share_85 rfl rfl ?_
            refine sj_iinc_4 C 89 rfl dX7_share_86 rfl rfl ?_
            refine sj_goto C 25 rfl dX7_share_89 ?_
            have e1' : sj_shl (sj_ia S (b 1)) k + sj_sum (fun e => if sj_a1 (sj_ia S (b 1)) k e then sj_lik (sj_ia S (b 1)) k e else 0) (e + 1) = sj_shl (sj_ia S (b 1)) k + sj_sum (fun e => if sj_a1 (sj_ia S (b 1)) k e then sj_lik (sj_ia S (b 1)) k e else 0) e + 0 := by
              show sj_shl (sj_ia S (b 1)) k + (_ + (if sj_a1 (sj_ia S (b 1)) k e then sj_lik (sj_ia S (b 1)) k e else 0)) = _
              rw [show sj_a1 (sj_ia S (b 1)) k e = false from decide_eq_false c_44, if_neg Bool.false_ne_true, ← Int32.add_assoc]
            have e2' : sj_shp (sj_ia S (b 1)) k + sj_sum (fun e => sj_bi (sj_a1 (sj_ia S (b 1)) k e)) (e + 1) = sj_shp (sj_ia S (b 1)) k + sj_sum (fun e => sj_bi (sj_a1 (sj_ia S (b 1)) k e)) e + 0 := by
              show sj_shp (sj_ia S (b 1)) k + (_ + sj_bi (sj_a1 (sj_ia S (b 1)) k e)) = _
              rw [show sj_a1 (sj_ia S (b 1)) k e = false from decide_eq_false c_44, ← Int32.add_assoc]
              rfl
            have ih' := ihe hle
            rw [e1', e2'] at ih'
            rw [sj_n1]
            exact ih' _
          · exact absurd rfl c_76
        · exact absurd rfl c_57
      · refine sj_iconstv C (1) 48 rfl dX7_share_47 rfl ?_
        refine sj_goto C 52 rfl dX7_share_48 ?_
        refine sj_istore_5 C 54 rfl dX7_share_52 rfl rfl ?_
        refine sj_iload_n C 55 rfl dX7_share_54 rfl rfl ?_
        refine sj_iload C 57 rfl dX7_share_55 rfl ?_
        refine sj_if_eq C 70 60 rfl rfl dX7_share_57 (fun c_57 => ?_) (fun c_57 => ?_)
        · exact absurd c_57 (by decide)
        · skip
          refine sj_aload_n C 61 rfl dX7_share_60 rfl rfl ?_
          refine sj_iload_n C 62 rfl dX7_share_61 rfl rfl ?_
          refine sj_iload C 64 rfl dX7_share_62 rfl ?_
          refine sj_callVd C 67 rfl dX7_share_64 cv_X7_119 rfl (ct_X7_likeness _ hmA k e (hs k hlt) (hs e (by omega))) rfl rfl rfl ⟨_, _, kd_h, rfl, rfl, by decide⟩ ⟨rfl, rfl⟩ ?_
          refine sj_goto C 71 rfl dX7_share_67 ?_
          refine sj_iadd C 72 rfl dX7_share_71 ?_
          refine sj_istore_n_1 C 73 rfl dX7_share_72 rfl rfl ?_
          refine sj_iload_n C 74 rfl dX7_share_73 rfl rfl ?_
          refine sj_iload C 76 rfl dX7_share_74 rfl ?_
          refine sj_if_eq C 83 79 rfl rfl dX7_share_76 (fun c_76 => ?_) (fun c_76 => ?_)
          · exact absurd c_76 (by decide)
          · skip
            refine sj_iconstv C (1) 80 rfl dX7_share_79 rfl ?_
            refine sj_goto C 84 rfl dX7_share_80 ?_
            refine sj_iadd C 85 rfl dX7_share_84 ?_
            refine sj_istore_n_2 C 86 rfl dX7_share_85 rfl rfl ?_
            refine sj_iinc_4 C 89 rfl dX7_share_86 rfl rfl ?_
            refine sj_goto C 25 rfl dX7_share_89 ?_
            have e1' : sj_shl (sj_ia S (b 1)) k + sj_sum (fun e => if sj_a1 (sj_ia S (b 1)) k e then sj_lik (sj_ia S (b 1)) k e else 0) (e + 1) = sj_shl (sj_ia S (b 1)) k + sj_sum (fun e => if sj_a1 (sj_ia S (b 1)) k e then sj_lik (sj_ia S (b 1)) k e else 0) e + sj_lik (sj_ia S (b 1)) k e := by
              show sj_shl (sj_ia S (b 1)) k + (_ + (if sj_a1 (sj_ia S (b 1)) k e then sj_lik (sj_ia S (b 1)) k e else 0)) = _
              rw [show sj_a1 (sj_ia S (b 1)) k e = true from decide_eq_true c_44, if_pos rfl, ← Int32.add_assoc]
            have e2' : sj_shp (sj_ia S (b 1)) k + sj_sum (fun e => sj_bi (sj_a1 (sj_ia S (b 1)) k e)) (e + 1) = sj_shp (sj_ia S (b 1)) k + sj_sum (fun e => sj_bi (sj_a1 (sj_ia S (b 1)) k e)) e + 1 := by
              show sj_shp (sj_ia S (b 1)) k + (_ + sj_bi (sj_a1 (sj_ia S (b 1)) k e)) = _
              rw [show sj_a1 (sj_ia S (b 1)) k e = true from decide_eq_true c_44, ← Int32.add_assoc]
              rfl
            have ih' := ihe hle
            rw [e1', e2'] at ih'
            rw [sj_n1]
            exact ih' _
  have cut_11 : ∀ o4 o5, sj_G X (sj_sIa S (b 15) (sj_cp 8 (sj_hH (sj_ia S (b 1)) (-1)) (sj_ia S (b 15)))) 0 0 [some (.ref h), some (.int (sj_shl (sj_ia S (b 1)) 0)), some (.int (sj_shp (sj_ia S (b 1)) 0)), some (.int (nI 0)), o4, o5] 11 [] := by
    refine sj_down (fun k => ∀ o4 o5, sj_G X (sj_sIa S (b 15) (sj_cp 8 (sj_hH (sj_ia S (b 1)) (-1)) (sj_ia S (b 15)))) 0 0 [some (.ref h), some (.int (sj_shl (sj_ia S (b 1)) k)), some (.int (sj_shp (sj_ia S (b 1)) k)), some (.int (nI k)), o4, o5] 11 []) (sj_tn ((sj_ia S (b 1)) 9)) (fun k hk ih => ?_)
    intro o4 o5
    refine sj_iload_n C 12 rfl dX7_share_11 rfl rfl ?_
    refine sj_aload_n C 13 rfl dX7_share_12 rfl rfl ?_
    refine sj_getr C 16 rfl fd_X7_7 dX7_share_13 kd_h rf_h_1 ?_
    refine sj_bipush C (9) 18 rfl dX7_share_16 (by decide) ?_
    refine sj_iald C 19 rfl dX7_share_18 kd_a1 (by show vp_in (nI 9) (sj_il S (b 1)); rw [il_a1]; exact vp_in_nI (by omega) (by omega)) ?_
    rw [show Int32.toNatClampNeg (9) = 9 from rfl, e1, h9]
    refine sj_icmp_ge C 98 22 rfl rfl dX7_share_19 (fun c_19 => ?_) (fun c_19 => ?_)
    · have hkn : k = sj_tn ((sj_ia S (b 1)) 9) := by
        have h8 : ¬ k < sj_tn ((sj_ia S (b 1)) 9) := fun h7 => nI_ge h7 (by omega) c_19
        omega
      subst hkn
      refine sj_iload_n C 99 rfl dX7_share_98 rfl rfl ?_
      refine sj_if_ne C 106 102 rfl rfl dX7_share_99 (fun c_99 => ?_) (fun c_99 => ?_)
      · refine sj_iload_n C 107 rfl dX7_share_106 rfl rfl ?_
        refine sj_i2d C 108 rfl dX7_share_107 ?_
        refine sj_bipush C (6) 110 rfl dX7_share_108 (by decide) ?_
        refine sj_iload_n C 111 rfl dX7_share_110 rfl rfl ?_
        refine sj_imul C 112 rfl dX7_share_111 ?_
        refine sj_i2d C 113 rfl dX7_share_112 ?_
        refine sj_ddiv C 114 rfl dX7_share_113 (sj_shok_n (sj_sh_d hn8 c_99)) ?_
        refine sj_dret C hR rfl rfl dX7_share_114 ?_
        refine ⟨congrArg (fun z => some (Value.double z)) ?_, _, rfl⟩
        unfold sj_shr
        rw [if_neg c_99]
      · refine sj_dconst1 C 103 rfl dX7_share_102 ?_
        refine sj_goto C 114 rfl dX7_share_103 ?_
        refine sj_dret C hR rfl rfl dX7_share_114 ?_
        refine ⟨congrArg (fun z => some (Value.double z)) ?_, _, rfl⟩
        unfold sj_shr
        rw [if_pos c_99]
    · have hlt : k < sj_tn ((sj_ia S (b 1)) 9) := Nat.not_le.mp fun h8 => c_19 (nI_le h8 (by omega))
      refine sj_iconstv C (0) 23 rfl dX7_share_22 rfl ?_
      refine sj_istore_4 C 25 rfl dX7_share_23 rfl rfl ?_
      have h25 := cut_25 k hlt (fun o4 o5 => ih hlt o4 o5)
      rw [show sj_shl (sj_ia S (b 1)) k + sj_sum (fun e => if sj_a1 (sj_ia S (b 1)) k e then sj_lik (sj_ia S (b 1)) k e else 0) 0 = sj_shl (sj_ia S (b 1)) k from Int32.add_zero _, show sj_shp (sj_ia S (b 1)) k + sj_sum (fun e => sj_bi (sj_a1 (sj_ia S (b 1)) k e)) 0 = sj_shp (sj_ia S (b 1)) k from Int32.add_zero _] at h25
      exact h25 _
  refine sj_aload_n C 1 rfl dX7_share_0 rfl rfl ?_
  refine sj_iconstv C (-1) 2 rfl dX7_share_1 rfl ?_
  refine sj_callVv C 5 rfl dX7_share_2 cv_X7_105 rfl (ct_X7_layHands _ hm (-1) hv) rfl rfl rfl ⟨_, _, kd_h, rfl, rfl, by decide⟩ ⟨rfl, rfl⟩ ?_
  refine sj_iconstv C (0) 6 rfl dX7_share_5 rfl ?_
  refine sj_istore_n_1 C 7 rfl dX7_share_6 rfl rfl ?_
  refine sj_iconstv C (0) 8 rfl dX7_share_7 rfl ?_
  refine sj_istore_n_2 C 9 rfl dX7_share_8 rfl rfl ?_
  refine sj_iconstv C (0) 10 rfl dX7_share_9 rfl ?_
  refine sj_istore_n_3 C 11 rfl dX7_share_10 rfl rfl ?_
  exact cut_11 _ _
set_option maxRecDepth 100000 in
set_option maxHeartbeats 2500000 in
theorem ct_X7_handShare (l : Launch) {S : sj_St} {h : Nat} {b : Nat → Nat} {m : Nat → Int32} (hm : sj_mm S h b m) (hI : sj_inv m) : sj_Ctr l mX7_handShare [.ref h] S (sj_scr (some (.double (sj_shr m))) (sj_wFi S h 0 0) b) := by
  refine sj_start ([some (.ref h)]) (by decide +kernel) rfl rfl (fun X hX C hR => ?_)
  subst hX
  have hm0 := hm
  obtain ⟨hm', em⟩ := hm0
  subst em
  obtain ⟨kd_h, ⟨rf_h_1, kd_a1, il_a1⟩, ⟨rf_h_2, kd_a2, il_a2⟩, ⟨rf_h_3, kd_a3, il_a3⟩, ⟨rf_h_5, kd_a5, il_a5⟩, ⟨rf_h_7, kd_a7, il_a7⟩, ⟨rf_h_13, kd_a13, il_a13⟩, ⟨rf_h_15, kd_a15, il_a15⟩, hinj⟩ := hm'
  have hv := sj_inv_oav hI
  have hs := sj_inv_shs hI
  obtain ⟨⟨h9, hn8⟩, ⟨h10, hn28⟩, hoa⟩ := id hv
  have hmz := sj_mm_f hm h 0 0
  refine sj_aload_n C 1 rfl dX7_handShare_0 rfl rfl ?_
  refine sj_iconstv C (0) 2 rfl dX7_handShare_1 rfl ?_
  refine sj_putI C 5 rfl fd_X7_31 dX7_handShare_2 rfl rfl kd_h ?_
  refine sj_aload_n C 6 rfl dX7_handShare_5 rfl rfl ?_
  refine sj_callVp C 9 rfl dX7_handShare_6 cv_X7_254 rfl (ct_X7_share _ hmz hI) rfl rfl rfl ⟨_, _, kd_h, rfl, rfl, by decide⟩ ⟨rfl, rfl⟩ (fun v_6 S_6 hp_6 => ?_)
  obtain ⟨rfl, g_6, rfl⟩ := hp_6
  refine sj_dret C hR rfl rfl dX7_handShare_9 ?_
  exact ⟨rfl, g_6, rfl⟩
