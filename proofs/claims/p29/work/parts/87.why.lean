/-! THE LAW: why an oath is refused, how many hands -/
theorem sp_hnd_id {m : Nat → Int32} (hv : sj_oav m) (w : Int32) : ∀ k, k ≤ sj_tn (m 10) → ∀ i x, i < sj_tn (m 9) → x < sj_tn (m 9) → sj_hnd m w k i = nI x → sj_hnd m w k x = nI x
  | 0, _, i, x, hi, hx, h => rfl
  | k + 1, hk, i, x, hi, hx, h => by
    have ih := sp_hnd_id hv w k (by omega)
    have h8 := hv.1.2
    by_cases hc : ¬ nI k = w ∧ sj_oa m k 2 = 1
    · rw [sj_hnd_y hc.1 hc.2] at h ⊢
      obtain ⟨⟨-, hp⟩, ⟨-, hq⟩, -⟩ := hv.2.2 k (by omega)
      by_cases hin : sj_hnd m w k i = sj_hnd m w k (sj_tn (sj_oa m k 0)) ∨ sj_hnd m w k i = sj_hnd m w k (sj_tn (sj_oa m k 1))
      · rw [sj_jn_in hi hin] at h
        have hx2 : sj_hnd m w k x = nI x := by
          rcases sj_min2 (sj_hnd m w k (sj_tn (sj_oa m k 0))) (sj_hnd m w k (sj_tn (sj_oa m k 1))) with e | e
          · exact ih _ x hp hx (e.symm.trans h)
          · exact ih _ x hq hx (e.symm.trans h)
        have hin2 : sj_hnd m w k x = sj_hnd m w k (sj_tn (sj_oa m k 0)) ∨ sj_hnd m w k x = sj_hnd m w k (sj_tn (sj_oa m k 1)) := by
          rw [hx2, ← h]
          exact sj_min2 _ _
        rw [sj_jn_in hx hin2, h]
      · rw [sj_jn_out hin] at h
        have hx2 := ih i x hi hx h
        rw [sj_jn_out (by rw [hx2, ← h]; exact hin), hx2]
    · rw [sj_hnd_n hc] at h ⊢
      exact ih i x hi hx h
theorem sp_hH_lo {m : Nat → Int32} (hv : sj_oav m) {i : Nat} (hi : i < sj_tn (m 9)) : ∃ x, x ≤ i ∧ sj_hH m (-1) i = nI x ∧ sj_hH m (-1) x = nI x := by
  obtain ⟨x, hx, e⟩ := (sj_hnd_v hv (-1) _ (Nat.le_refl _) i).1 hi
  exact ⟨x, hx, e, sp_hnd_id hv (-1) _ (Nat.le_refl _) i x hi (by omega) e⟩
theorem sp_bit : ∀ H, H < 256 → ∀ e, e < 8 → (nI H >>> (nI e &&& 31)) &&& 1 = sj_bi (H.testBit e) := by decide +kernel
theorem sp_lowest : ∀ H, H < 256 → ∀ k, k < 8 → decide (nI H &&& -nI H = ((1 : Int32) <<< (nI k &&& 31))) = (H.testBit k && decide (∀ x, x < k → H.testBit x = false)) := by decide +kernel
theorem sp_first {m : Nat → Int32} (hv : sj_oav m) {k : Nat} (hk : k < sj_tn (m 9)) {H : Nat} (hH : H < 256) (hin : ∀ x, x < sj_tn (m 9) → H.testBit x = decide (sj_hH m (-1) k = sj_hH m (-1) x)) : decide (nI H &&& -nI H = ((1 : Int32) <<< (nI k &&& 31))) = decide (sj_hH m (-1) k = nI k) := by
  have h8 := hv.1.2
  rw [sp_lowest H hH k (by omega), hin k hk, decide_eq_true rfl, Bool.true_and]
  refine decide_eq_decide.mpr ⟨fun h => ?_, fun h x hxk => ?_⟩
  · obtain ⟨x, hx, e1, e2⟩ := sp_hH_lo hv hk
    by_cases hxk : x = k
    · rw [e1, hxk]
    · have h1 := h x (by omega)
      rw [hin x (by omega), decide_eq_true (e1.trans e2.symm)] at h1
      cases h1
  · rw [hin x (by omega)]
    refine decide_eq_false (fun e => ?_)
    obtain ⟨y, hy, e1, -⟩ := sp_hH_lo hv (show x < sj_tn (m 9) by omega)
    rw [h, e1] at e
    have := (nI_eq (by omega) (by omega)).mp e
    omega
theorem sp_agr_b : ∀ b0 b1 b2 b3 b4 b5 : Bool, (sj_m6 b0 b1 b2 b3 b4 b5).toNatClampNeg < 64 ∧ sj_m6 b0 b1 b2 b3 b4 b5 = nI (sj_m6 b0 b1 b2 b3 b4 b5).toNatClampNeg := by decide +kernel
theorem sp_agr_n (m : Nat → Int32) (i e : Nat) : ∃ j, j < 64 ∧ sj_agr m i e 6 = nI j := by
  rw [sj_agr_m6]
  exact ⟨_, sp_agr_b _ _ _ _ _ _⟩
theorem ct_L_ones_a (l : Launch) (S : sj_St) (m : Nat → Int32) (i e : Nat) : sj_Ctr l mL_ones [.int (sj_agr m i e 6)] S (sj_eq (some (.int (sj_lik m i e))) S) := by
  obtain ⟨j, hj, ej⟩ := sp_agr_n m i e
  unfold sj_lik
  rw [ej]
  exact ct_L_ones l S (by omega)
theorem ct_L_agreeing0 (l : Launch) {S : sj_St} {rq ra rn rt rp : Nat} {m : Nat → Int32} (h : sp_B S rq ra rn rt rp m) (hI : sj_inv m) {i e : Nat} (hi : i < sj_tn (m 9)) (he : e < sj_tn (m 9)) : sj_Ctr l mL_agreeing [.int (nI i), .int (nI e), .int 0, .ref rq, .ref ra, .ref rn, .ref rt] S (sj_eq (some (.int (sj_agr m i e 6))) S) := by
  have h1 := ct_L_agreeing l h hI hi he (y := 0) ⟨by decide, by decide⟩
  rw [sj_pas0 hI] at h1
  exact h1
theorem sp_hnd_sw (m : Nat → Int32) (a b : Nat) (hI : sj_inv m) : ∀ k, k ≤ sj_tn (m 10) → sj_hnd (sj_sw m a b true) (-1) k = sj_hnd m (-1) k
  | 0, _ => rfl
  | k + 1, hk => by
    have ih := sp_hnd_sw m a b hI k (by omega)
    have h9 := (sp_sw_n hI a b true).2
    unfold sj_hnd
    rw [ih, h9, sj_sw_oa m a b true (by omega) (by omega), sj_sw_oa m a b true (by omega) (by omega), sj_sw_oa m a b true (by omega) (by omega)]
theorem sp_hH_sw {m : Nat → Int32} (hI : sj_inv m) {a b : Nat} (ha : a < 8) (hb : b < 8) : sj_hH (sj_sw m a b true) (-1) = sj_jH m a b := by
  have h28 := hI.2.1.2
  obtain ⟨hn, h9⟩ := sp_sw_n hI a b true
  unfold sj_hH
  rw [hn, sj_hnd_y (sj_nIm1 (by omega)) (sj_sw_2 m a b true), h9, sj_sw_0, sj_sw_1, sp_hnd_sw m a b hI _ (Nat.le_refl _), show sj_tn (nI a) = a from nI_clamp (by omega), show sj_tn (nI b) = b from nI_clamp (by omega)]
  rfl
theorem sp_oav_sw {m : Nat → Int32} (hI : sj_inv m) {a b : Nat} (ha : a < sj_tn (m 9)) (hb : b < sj_tn (m 9)) (hab : ¬ a = b) (hfo : sj_fo m a b = -1) : sj_oav (sj_sw m a b true) := by
  obtain ⟨hn, h9⟩ := sp_sw_n hI a b true
  have h1 := sj_oas_sw (like := true) hI.2.2.1 hI.2.1.2 hI.1.2 ha hb hab hfo
  have h28 := sj_oas_28 h1 hI.1.2
  refine ⟨by rw [h9]; exact hI.1, ⟨?_, by rw [hn]; exact h28⟩, ?_⟩
  · rw [hn, sj_sw_10, hI.2.1.1, nI_1]
    rw [show sj_tn (nI (sj_tn (m 10))) = sj_tn (m 10) from nI_clamp (by omega)]
  · rw [hn, h9]
    exact h1.1
theorem sp_and2 : ∀ H, H < 256 → ∀ a, a < 8 → ∀ b, b < 8 → decide (nI H &&& (((1 : Int32) <<< (nI a &&& 31)) ||| ((1 : Int32) <<< (nI b &&& 31))) = (((1 : Int32) <<< (nI a &&& 31)) ||| ((1 : Int32) <<< (nI b &&& 31)))) = (H.testBit a && H.testBit b) := by decide +kernel
theorem sp_brk_j {m : Nat → Int32} (hI : sj_inv m) (hu : sj_uc m) {i e k : Nat} (hi : i < sj_tn (m 9)) (he : e < sj_tn (m 9)) (hk : k < sj_tn (m 10)) {H : Nat} (hH : H < 256) (hin : ∀ x, x < sj_tn (m 9) → H.testBit x = decide (sj_jH m i e i = sj_jH m i e x)) {x j : Int32} (ex : x = if sj_brk m i e k then 5 else 0) (h : ((¬ sj_oa m k 2 = 0) ∧ j = x) ∨ ((sj_oa m k 2 = 0) ∧ (¬ nI H &&& (((1 : Int32) <<< (nI (sj_tn (sj_oa m k 0)) &&& 31)) ||| ((1 : Int32) <<< (nI (sj_tn (sj_oa m k 1)) &&& 31))) = (((1 : Int32) <<< (nI (sj_tn (sj_oa m k 0)) &&& 31)) ||| ((1 : Int32) <<< (nI (sj_tn (sj_oa m k 1)) &&& 31)))) ∧ j = x) ∨ ((sj_oa m k 2 = 0) ∧ (nI H &&& (((1 : Int32) <<< (nI (sj_tn (sj_oa m k 0)) &&& 31)) ||| ((1 : Int32) <<< (nI (sj_tn (sj_oa m k 1)) &&& 31))) = (((1 : Int32) <<< (nI (sj_tn (sj_oa m k 0)) &&& 31)) ||| ((1 : Int32) <<< (nI (sj_tn (sj_oa m k 1)) &&& 31)))) ∧ j = 5)) : j = if sj_brk m i e (k + 1) then 5 else 0 := by
  have hn8 := hI.1.2
  obtain ⟨⟨-, a8⟩, ⟨-, b8⟩, -⟩ := hI.2.2.1.1 k hk
  have hb := sp_and2 H hH _ (show sj_tn (sj_oa m k 0) < 8 by omega) _ (show sj_tn (sj_oa m k 1) < 8 by omega)
  rw [hin _ a8, hin _ b8] at hb
  have hself : ∀ y, y < sj_tn (m 9) → (sj_jH m i e i = sj_jH m i e y ↔ (sj_hH m (-1) y = sj_hH m (-1) i ∨ sj_hH m (-1) y = sj_hH m (-1) e)) := fun y hy => by
    unfold sj_jH
    rw [sj_jn_iff hi hy]
    constructor
    · rintro (h1 | h1)
      · exact Or.inl h1.symm
      · exact h1.2
    · intro h1
      exact Or.inr ⟨Or.inl rfl, h1⟩
  have hboth : sj_jH m i e (sj_tn (sj_oa m k 0)) = sj_jH m i e (sj_tn (sj_oa m k 1)) ↔ (sj_hH m (-1) (sj_tn (sj_oa m k 0)) = sj_hH m (-1) (sj_tn (sj_oa m k 1)) ∨ ((sj_hH m (-1) (sj_tn (sj_oa m k 0)) = sj_hH m (-1) i ∨ sj_hH m (-1) (sj_tn (sj_oa m k 0)) = sj_hH m (-1) e) ∧ (sj_hH m (-1) (sj_tn (sj_oa m k 1)) = sj_hH m (-1) i ∨ sj_hH m (-1) (sj_tn (sj_oa m k 1)) = sj_hH m (-1) e))) := by
    unfold sj_jH
    exact sj_jn_iff a8 b8
  have stay : ¬ (sj_oa m k 2 = 0 ∧ sj_jH m i e (sj_tn (sj_oa m k 0)) = sj_jH m i e (sj_tn (sj_oa m k 1))) → sj_brk m i e (k + 1) = sj_brk m i e k := fun hn => by
    show (sj_brk m i e k || (decide (sj_oa m k 2 = 0) && decide (sj_jH m i e (sj_tn (sj_oa m k 0)) = sj_jH m i e (sj_tn (sj_oa m k 1))))) = _
    rw [← Bool.decide_and, decide_eq_false hn, Bool.or_false]
  rcases h with ⟨h1, rfl⟩ | ⟨h1, h2, rfl⟩ | ⟨h1, h2, rfl⟩
  · rw [stay (fun h9 => h1 h9.1)]
    exact ex
  · rw [stay (fun h9 => ?_)]
    · exact ex
    · rw [decide_eq_false h2] at hb
      have h3 := (hboth.mp h9.2).resolve_left (hu k hk h1)
      rw [decide_eq_true ((hself _ a8).mpr h3.1), decide_eq_true ((hself _ b8).mpr h3.2)] at hb
      cases hb
  · rw [decide_eq_true h2] at hb
    have hb2 := Bool.and_eq_true_iff.mp hb.symm
    have h3 := hboth.mpr (Or.inr ⟨(hself _ a8).mp (of_decide_eq_true hb2.1), (hself _ b8).mp (of_decide_eq_true hb2.2)⟩)
    rw [show sj_brk m i e (k + 1) = true from by
      show (sj_brk m i e k || (decide (sj_oa m k 2 = 0) && decide (sj_jH m i e (sj_tn (sj_oa m k 0)) = sj_jH m i e (sj_tn (sj_oa m k 1))))) = true
      rw [decide_eq_true h1, decide_eq_true h3, Bool.and_true, Bool.or_true]]
    rfl
theorem sp_fo_lt {m : Nat → Int32} (hN : sj_tn (m 10) ≤ 28) {i e : Nat} : sj_fo m i e < 0 ↔ sj_fo m i e = -1 := by
  unfold sj_fo
  rcases sq_fst_in (p := sj_fp m i e) (sj_tn (m 10)) 0 with h | ⟨j, h1, h2, h3, h4⟩
  · rw [h]
    exact ⟨fun _ => rfl, fun _ => by decide⟩
  · rw [h4]
    exact ⟨fun h => absurd h (nI_pos (by omega)), fun h => absurd h (sj_nIm1 (by omega))⟩
theorem sp_why_1 {m : Nat → Int32} {i e : Nat} {like : Bool} (h : i = e) : (1 : Int32) = sj_why m i e like := (if_pos h).symm
theorem sp_why_2 {m : Nat → Int32} {i e : Nat} {like : Bool} (h : ¬ i = e) (hf : ¬ sj_fo m i e = -1) : (2 : Int32) = sj_why m i e like := by
  unfold sj_why
  rw [if_neg h, if_pos hf]
theorem sp_why_f {m : Nat → Int32} {i e : Nat} (h : ¬ i = e) (hf : sj_fo m i e = -1) : sj_why m i e false = if sj_a1 m i e then 6 else 0 := by
  unfold sj_why
  rw [if_neg h, if_neg (fun h9 => h9 hf), if_pos rfl]
theorem sp_why_3 {m : Nat → Int32} {i e : Nat} (h : ¬ i = e) (hf : sj_fo m i e = -1) (ht : (sj_trm m i || sj_trm m e) = true) : (3 : Int32) = sj_why m i e true := by
  unfold sj_why
  rw [if_neg h, if_neg (fun h9 => h9 hf), if_neg (by decide), if_pos ht]
theorem sp_why_t {m : Nat → Int32} {i e : Nat} (h : ¬ i = e) (hf : sj_fo m i e = -1) (h1 : sj_trm m i = false) (h2 : sj_trm m e = false) : sj_why m i e true = if sj_lik m i e < m 8 then 4 else if sj_brk m i e (sj_tn (m 10)) then 5 else 0 := by
  unfold sj_why
  rw [if_neg h, if_neg (fun h9 => h9 hf), if_neg (by decide), if_neg (by rw [h1, h2]; decide)]
set_option maxRecDepth 100000 in
set_option maxHeartbeats 600000 in
theorem ct_L_why (l : Launch) {S : sj_St} {rq ra rn rt rp : Nat} {m : Nat → Int32} (h : sp_B S rq ra rn rt rp m) (hI : sj_inv m) (hu : sj_uc m) {i e : Nat} (hi : i < sj_tn (m 9)) (he : e < sj_tn (m 9)) (like : Bool) : sj_Ctr l mL_why [.int (nI (i)), .int (nI (e)), .int (sj_bi like), .ref rq, .ref ra, .ref rn, .ref rt, .ref rp] S (sj_eq (some (.int (sj_why m i e like))) S) := by
  refine sj_start ([some (.int (nI (i))), some (.int (nI (e))), some (.int (sj_bi like)), some (.ref rq), some (.ref ra), some (.ref rn), some (.ref rt), some (.ref rp), none, none, none, none]) (by decide +kernel) rfl rfl (fun X hX C hR => ?_)
  subst hX
  obtain ⟨⟨kd_rq, il_rq⟩, ⟨kd_ra, il_ra⟩, ⟨kd_rn, il_rn⟩, ⟨kd_rt, il_rt⟩, ⟨kd_rp, il_rp⟩, hq, hs, hp⟩ := id h
  obtain ⟨h9, hn8⟩ := id hI.1
  obtain ⟨h10, hN28⟩ := id hI.2.1
  have hv := sj_inv_oav hI
  refine sj_iload_n C 1 rfl dL_why_0 rfl rfl ?_
  refine sj_iload_n C 2 rfl dL_why_1 rfl rfl ?_
  refine sj_icmp_eq C 16 5 rfl rfl dL_why_2 (fun c_2 => ?_) (fun c_2 => ?_)
  · refine sj_iload_n C 17 rfl dL_why_16 rfl rfl ?_
    refine sj_iload_n C 18 rfl dL_why_17 rfl rfl ?_
    refine sj_icmp_ne C 25 21 rfl rfl dL_why_18 (fun c_18 => ?_) (fun c_18 => ?_)
    · refine sj_iconstv C (2) 26 rfl dL_why_25 rfl ?_
      refine sj_iret C hR rfl rfl dL_why_26 ?_
      refine ⟨congrArg (fun z => some (Value.int z)) ?_, rfl⟩
      exact absurd c_2 c_18
    · refine sj_iconstv C (1) 22 rfl dL_why_21 rfl ?_
      refine sj_goto C 26 rfl dL_why_22 ?_
      refine sj_iret C hR rfl rfl dL_why_26 ?_
      refine ⟨congrArg (fun z => some (Value.int z)) ?_, rfl⟩
      exact sp_why_1 ((nI_eq (by omega) (by omega)).mp c_18)
  · refine sj_iload_n C 6 rfl dL_why_5 rfl rfl ?_
    refine sj_iload_n C 7 rfl dL_why_6 rfl rfl ?_
    refine sj_aload_n C 8 rfl dL_why_7 rfl rfl ?_
    refine sj_aload C 10 rfl dL_why_8 rfl ?_
    refine sj_callSd C 13 rfl dL_why_10 cv_L_116 rfl (ct_L_oathOf _ h hI (i := i) (e := e) (by omega) (by omega)) rfl rfl rfl ⟨rfl, rfl⟩ ?_
    refine sj_if_lt C 27 16 rfl rfl dL_why_13 (fun c_13 => ?_) (fun c_13 => ?_)
    · have hne : ¬ i = e := fun h9 => c_2 (by rw [h9])
      have hfo : sj_fo m i e = -1 := (sp_fo_lt hN28).mp c_13
      refine sj_iload_n C 28 rfl dL_why_27 rfl rfl ?_
      refine sj_if_ne C 56 31 rfl rfl dL_why_28 (fun c_28 => ?_) (fun c_28 => ?_)
      · have hlk : like = true := sj_bin.mp c_28
        subst hlk
        refine sj_iload_n C 57 rfl dL_why_56 rfl rfl ?_
        refine sj_aload_n C 58 rfl dL_why_57 rfl rfl ?_
        refine sj_aload C 60 rfl dL_why_58 rfl ?_
        refine sj_aload C 62 rfl dL_why_60 rfl ?_
        refine sj_callSd C 65 rfl dL_why_62 cv_L_123 rfl (ct_L_trembles _ h hI (i := i) hi) rfl rfl rfl ⟨rfl, rfl⟩ ?_
        refine sj_if_ne C 80 68 rfl rfl dL_why_65 (fun c_65 => ?_) (fun c_65 => ?_)
        · refine sj_iconstv C (3) 81 rfl dL_why_80 rfl ?_
          refine sj_iret C hR rfl rfl dL_why_81 ?_
          refine ⟨congrArg (fun z => some (Value.int z)) ?_, rfl⟩
          exact sp_why_3 hne hfo (by rw [sj_bin.mp c_65]; rfl)
        · refine sj_iload_n C 69 rfl dL_why_68 rfl rfl ?_
          refine sj_aload_n C 70 rfl dL_why_69 rfl rfl ?_
          refine sj_aload C 72 rfl dL_why_70 rfl ?_
          refine sj_aload C 74 rfl dL_why_72 rfl ?_
          refine sj_callSd C 77 rfl dL_why_74 cv_L_123 rfl (ct_L_trembles _ h hI (i := e) he) rfl rfl rfl ⟨rfl, rfl⟩ ?_
          refine sj_if_eq C 82 80 rfl rfl dL_why_77 (fun c_77 => ?_) (fun c_77 => ?_)
          · have htr1 : sj_trm m i = false := sj_bi0.mp c_65
            have htr2 : sj_trm m e = false := sj_bi0.mp c_77
            have hv2 := sp_oav_sw hI hi he hne hfo
            have h92 := (sp_sw_n hI i e true).2
            have hi2 : i < sj_tn (sj_sw m i e true 9) := by rw [h92]; exact hi
            have hHl := sp_hd_lt hv2 (-1) hi2
            have hHin : ∀ x, x < sj_tn (m 9) → (sp_hd (sj_sw m i e true) (-1) i).testBit x = decide (sj_jH m i e i = sj_jH m i e x) := fun x hx => by
              rw [sp_hd_in hv2 (-1) hi2 (by rw [h92]; exact hx), sp_hH_sw hI (by omega) (by omega)]
            have cut_100 : ∀ x8 : Int32, (x8 = if sj_brk m i e 0 then 5 else 0) → sj_G X S 0 0 [some (.int (nI (i))), some (.int (nI (e))), none, some (.ref rq), some (.ref ra), some (.ref rn), some (.ref rt), some (.ref rp), some (.int (x8)), some (.int (nI (sp_hd (sj_sw m i e true) (-1) i))), some (.int (nI (0))), none] 100 [] := by
              refine sj_down (fun k => ∀ x8 : Int32, (x8 = if sj_brk m i e k then 5 else 0) → sj_G X S 0 0 [some (.int (nI (i))), some (.int (nI (e))), none, some (.ref rq), some (.ref ra), some (.ref rn), some (.ref rt), some (.ref rp), some (.int (x8)), some (.int (nI (sp_hd (sj_sw m i e true) (-1) i))), some (.int (nI (k))), none] 100 []) (sj_tn (m 10)) (fun k hk ih_100 => ?_)
              intro x8 e_x8
              refine sj_iload C 102 rfl dL_why_100 rfl ?_
              refine sj_aload_n C 103 rfl dL_why_102 rfl rfl ?_
              refine sj_bipush C (10) 105 rfl dL_why_103 (by decide) ?_
              refine sj_iald C 106 rfl dL_why_105 kd_rq (sp_vp (i := 10) il_rq (by omega) (by omega)) ?_
              rw [show Int32.toNatClampNeg 10 = 10 from rfl]
              rw [hq 10 (by omega)]
              rw [h10]
              refine sj_icmp_ge C 169 109 rfl rfl dL_why_106 (fun c_106 => ?_) (fun c_106 => ?_)
              · have hkn : k = sj_tn (m 10) := by
                  have h99 : ¬ k < sj_tn (m 10) := fun h9 => nI_ge h9 (by omega) c_106
                  omega
                subst hkn
                refine sj_iload_n C 170 rfl dL_why_169 rfl rfl ?_
                refine sj_iload_n C 171 rfl dL_why_170 rfl rfl ?_
                refine sj_iconstv C (0) 172 rfl dL_why_171 rfl ?_
                refine sj_aload_n C 173 rfl dL_why_172 rfl rfl ?_
                refine sj_aload C 175 rfl dL_why_173 rfl ?_
                refine sj_aload C 177 rfl dL_why_175 rfl ?_
                refine sj_aload C 179 rfl dL_why_177 rfl ?_
                refine sj_callSd C 182 rfl dL_why_179 cv_L_127 rfl (ct_L_agreeing0 _ h hI hi he) rfl rfl rfl ⟨rfl, rfl⟩ ?_
                refine sj_callSd C 185 rfl dL_why_182 cv_L_131 rfl (ct_L_ones_a _ _ m i e) rfl rfl rfl ⟨rfl, rfl⟩ ?_
                refine sj_aload_n C 186 rfl dL_why_185 rfl rfl ?_
                refine sj_bipush C (8) 188 rfl dL_why_186 (by decide) ?_
                refine sj_iald C 189 rfl dL_why_188 kd_rq (sp_vp (i := 8) il_rq (by omega) (by omega)) ?_
                rw [show Int32.toNatClampNeg 8 = 8 from rfl]
                rw [hq 8 (by omega)]
                refine sj_icmp_ge C 196 192 rfl rfl dL_why_189 (fun c_189 => ?_) (fun c_189 => ?_)
                · refine sj_iload C 198 rfl dL_why_196 rfl ?_
                  refine sj_iret C hR rfl rfl dL_why_198 ?_
                  refine ⟨congrArg (fun z => some (Value.int z)) ?_, rfl⟩
                  rw [sp_why_t hne hfo htr1 htr2, if_neg (Int32.not_lt.mpr c_189)]
                  exact e_x8
                · refine sj_iconstv C (4) 193 rfl dL_why_192 rfl ?_
                  refine sj_goto C 198 rfl dL_why_193 ?_
                  refine sj_iret C hR rfl rfl dL_why_198 ?_
                  refine ⟨congrArg (fun z => some (Value.int z)) ?_, rfl⟩
                  rw [sp_why_t hne hfo htr1 htr2, if_pos (Int32.not_le.mp c_189)]
              · have hlt : k < sj_tn (m 10) := Nat.not_le.mp fun h9 => c_106 (nI_le h9 (by omega))
                refine sj_iconstv C (1) 110 rfl dL_why_109 rfl ?_
                refine sj_aload C 112 rfl dL_why_110 rfl ?_
                refine sj_iload C 114 rfl dL_why_112 rfl ?_
                refine sj_iald C 115 rfl dL_why_114 kd_rp (sp_vp il_rp (by omega) (by omega)) ?_
                rw [nI_clamp (by omega)]
                rw [hp k hlt]
                refine sj_bipush C (15) 117 rfl dL_why_115 (by decide) ?_
                refine sj_iand C 118 rfl dL_why_117 ?_
                rw [sp_pn_0 hI hlt]
                refine sj_ishl C 119 rfl dL_why_118 ?_
                refine sj_iconstv C (1) 120 rfl dL_why_119 rfl ?_
                refine sj_aload C 122 rfl dL_why_120 rfl ?_
                refine sj_iload C 124 rfl dL_why_122 rfl ?_
                refine sj_iald C 125 rfl dL_why_124 kd_rp (sp_vp il_rp (by omega) (by omega)) ?_
                rw [nI_clamp (by omega)]
                rw [hp k hlt]
                refine sj_iconstv C (4) 126 rfl dL_why_125 rfl ?_
                refine sj_ishr C 127 rfl dL_why_126 ?_
                refine sj_bipush C (15) 129 rfl dL_why_127 (by decide) ?_
                refine sj_iand C 130 rfl dL_why_129 ?_
                rw [sp_pn_1 hI hlt]
                refine sj_ishl C 131 rfl dL_why_130 ?_
                refine sj_ior C 132 rfl dL_why_131 ?_
                refine sj_istore_11 C 134 rfl dL_why_132 rfl rfl ?_
                refine sj_aload C 136 rfl dL_why_134 rfl ?_
                refine sj_iload C 138 rfl dL_why_136 rfl ?_
                refine sj_iald C 139 rfl dL_why_138 kd_rp (sp_vp il_rp (by omega) (by omega)) ?_
                rw [nI_clamp (by omega)]
                rw [hp k hlt]
                refine sj_bipush C (8) 141 rfl dL_why_139 (by decide) ?_
                refine sj_ishr C 142 rfl dL_why_141 ?_
                rw [sp_pn_2 hI hlt]
                have cut_161 : ∀ j161 : Int32, (((¬ (sj_oa m k 2) = 0) ∧ j161 = x8) ∨ (((sj_oa m k 2) = 0) ∧ (¬ (nI (sp_hd (sj_sw m i e true) (-1) i) &&& (((1 : Int32) <<< (nI (sj_tn (sj_oa m k 0)) &&& 31)) ||| ((1 : Int32) <<< (nI (sj_tn (sj_oa m k 1)) &&& 31)))) = (((1 : Int32) <<< (nI (sj_tn (sj_oa m k 0)) &&& 31)) ||| ((1 : Int32) <<< (nI (sj_tn (sj_oa m k 1)) &&& 31)))) ∧ j161 = x8) ∨ (((sj_oa m k 2) = 0) ∧ ((nI (sp_hd (sj_sw m i e true) (-1) i) &&& (((1 : Int32) <<< (nI (sj_tn (sj_oa m k 0)) &&& 31)) ||| ((1 : Int32) <<< (nI (sj_tn (sj_oa m k 1)) &&& 31)))) = (((1 : Int32) <<< (nI (sj_tn (sj_oa m k 0)) &&& 31)) ||| ((1 : Int32) <<< (nI (sj_tn (sj_oa m k 1)) &&& 31)))) ∧ j161 = 5)) → sj_G X S 0 0 [some (.int (nI (i))), some (.int (nI (e))), none, some (.ref rq), some (.ref ra), some (.ref rn), some (.ref rt), some (.ref rp), some (.int (x8)), some (.int (nI (sp_hd (sj_sw m i e true) (-1) i))), some (.int (nI (k))), some (.int (((1 : Int32) <<< (nI (sj_tn (sj_oa m k 0)) &&& 31)) ||| ((1 : Int32) <<< (nI (sj_tn (sj_oa m k 1)) &&& 31))))] 161 [.int (j161)] := by
                  intro j161 h161
                  refine sj_istore_8 C 163 rfl dL_why_161 rfl rfl ?_
                  refine sj_iinc_10 C 166 rfl dL_why_163 rfl rfl ?_
                  rw [show nI (k) + Int32.ofInt 1 = nI (k + 1) from nI_add _ _]
                  refine sj_goto C 100 rfl dL_why_166 ?_
                  refine sj_for [some (.int (nI (i))), some (.int (nI (e))), none, some (.ref rq), some (.ref ra), some (.ref rn), some (.ref rt), some (.ref rp), some (.int (j161)), some (.int (nI (sp_hd (sj_sw m i e true) (-1) i))), some (.int (nI (k + 1))), none] (show _ ∧ _ ∧ _ ∧ _ ∧ _ ∧ _ ∧ _ ∧ _ ∧ _ ∧ _ ∧ True from ⟨rfl, rfl, rfl, rfl, rfl, rfl, rfl, rfl, rfl, rfl, trivial⟩) ?_
                  exact ih_100 (hlt) _ (sp_brk_j hI hu hi he hlt hHl hHin e_x8 h161)
                refine sj_if_ne C 159 145 rfl rfl dL_why_142 (fun c_142 => ?_) (fun c_142 => ?_)
                · refine sj_iload C 161 rfl dL_why_159 rfl ?_
                  exact cut_161 _  (Or.inl ⟨c_142, rfl⟩)
                · refine sj_iload C 147 rfl dL_why_145 rfl ?_
                  refine sj_iload C 149 rfl dL_why_147 rfl ?_
                  refine sj_iand C 150 rfl dL_why_149 ?_
                  refine sj_iload C 152 rfl dL_why_150 rfl ?_
                  refine sj_icmp_ne C 159 155 rfl rfl dL_why_152 (fun c_152 => ?_) (fun c_152 => ?_)
                  · refine sj_iload C 161 rfl dL_why_159 rfl ?_
                    exact cut_161 _  (Or.inr (Or.inl ⟨c_142, c_152, rfl⟩))
                  · refine sj_iconstv C (5) 156 rfl dL_why_155 rfl ?_
                    refine sj_goto C 161 rfl dL_why_156 ?_
                    exact cut_161 _  (Or.inr (Or.inr (⟨c_142, c_152, rfl⟩)))
            refine sj_iconstv C (0) 83 rfl dL_why_82 rfl ?_
            refine sj_istore_8 C 85 rfl dL_why_83 rfl rfl ?_
            refine sj_iload_n C 86 rfl dL_why_85 rfl rfl ?_
            refine sj_iconstv C (-1) 87 rfl dL_why_86 rfl ?_
            refine sj_iload_n C 88 rfl dL_why_87 rfl rfl ?_
            refine sj_iload_n C 89 rfl dL_why_88 rfl rfl ?_
            refine sj_aload_n C 90 rfl dL_why_89 rfl rfl ?_
            refine sj_aload C 92 rfl dL_why_90 rfl ?_
            refine sj_callSd C 95 rfl dL_why_92 cv_L_119 rfl (ct_L_handOfX _ h hI (i := i) (a := i) (b := e) hi (by omega) (by omega)) rfl rfl rfl ⟨rfl, rfl⟩ ?_
            refine sj_istore_9 C 97 rfl dL_why_95 rfl rfl ?_
            refine sj_iconstv C (0) 98 rfl dL_why_97 rfl ?_
            refine sj_istore_10 C 100 rfl dL_why_98 rfl rfl ?_
            refine sj_for [some (.int (nI (i))), some (.int (nI (e))), none, some (.ref rq), some (.ref ra), some (.ref rn), some (.ref rt), some (.ref rp), some (.int (0)), some (.int (nI (sp_hd (sj_sw m i e true) (-1) i))), some (.int (0)), none] (show _ ∧ _ ∧ _ ∧ _ ∧ _ ∧ _ ∧ _ ∧ _ ∧ _ ∧ _ ∧ True from ⟨rfl, rfl, rfl, rfl, rfl, rfl, rfl, rfl, rfl, rfl, trivial⟩) ?_
            exact cut_100 _ (rfl)
          · refine sj_iconstv C (3) 81 rfl dL_why_80 rfl ?_
            refine sj_iret C hR rfl rfl dL_why_81 ?_
            refine ⟨congrArg (fun z => some (Value.int z)) ?_, rfl⟩
            exact sp_why_3 hne hfo (by rw [sj_bin.mp (fun h9 => c_77 h9), Bool.or_true])
      · have hlk : like = false := sj_bi0.mp c_28
        subst hlk
        refine sj_iload_n C 32 rfl dL_why_31 rfl rfl ?_
        refine sj_iconstv C (-1) 33 rfl dL_why_32 rfl ?_
        refine sj_iconstv C (-1) 34 rfl dL_why_33 rfl ?_
        refine sj_iconstv C (-1) 35 rfl dL_why_34 rfl ?_
        refine sj_aload_n C 36 rfl dL_why_35 rfl rfl ?_
        refine sj_aload C 38 rfl dL_why_36 rfl ?_
        refine sj_callSd C 41 rfl dL_why_38 cv_L_119 rfl (ct_L_handOf _ h hI (i := i) hi (-1)) rfl rfl rfl ⟨rfl, rfl⟩ ?_
        refine sj_iload_n C 42 rfl dL_why_41 rfl rfl ?_
        refine sj_ishr C 43 rfl dL_why_42 ?_
        refine sj_iconstv C (1) 44 rfl dL_why_43 rfl ?_
        refine sj_iand C 45 rfl dL_why_44 ?_
        rw [sp_bit _ (sp_hd_lt hv (-1) hi) e (by omega)]
        refine sj_iconstv C (1) 46 rfl dL_why_45 rfl ?_
        refine sj_icmp_ne C 54 49 rfl rfl dL_why_46 (fun c_46 => ?_) (fun c_46 => ?_)
        · refine sj_iconstv C (0) 55 rfl dL_why_54 rfl ?_
          refine sj_iret C hR rfl rfl dL_why_55 ?_
          refine ⟨congrArg (fun z => some (Value.int z)) ?_, rfl⟩
          rw [sp_why_f hne hfo, if_neg]
          unfold sj_a1
          rw [← sp_hd_in hv (-1) hi he]
          exact fun h9 => c_46 (by rw [h9]; rfl)
        · refine sj_bipush C (6) 51 rfl dL_why_49 (by decide) ?_
          refine sj_goto C 55 rfl dL_why_51 ?_
          refine sj_iret C hR rfl rfl dL_why_55 ?_
          refine ⟨congrArg (fun z => some (Value.int z)) ?_, rfl⟩
          rw [sp_why_f hne hfo, if_pos]
          unfold sj_a1
          rw [← sp_hd_in hv (-1) hi he]
          exact sj_bin.mp (fun h9 => absurd (h9.symm.trans c_46) (by decide))
    · refine sj_iload_n C 17 rfl dL_why_16 rfl rfl ?_
      refine sj_iload_n C 18 rfl dL_why_17 rfl rfl ?_
      refine sj_icmp_ne C 25 21 rfl rfl dL_why_18 (fun c_18 => ?_) (fun c_18 => ?_)
      · refine sj_iconstv C (2) 26 rfl dL_why_25 rfl ?_
        refine sj_iret C hR rfl rfl dL_why_26 ?_
        refine ⟨congrArg (fun z => some (Value.int z)) ?_, rfl⟩
        exact sp_why_2 (fun h9 => c_18 (by rw [h9])) (fun h9 => c_13 ((sp_fo_lt hN28).mpr h9))
      · refine sj_iconstv C (1) 22 rfl dL_why_21 rfl ?_
        refine sj_goto C 26 rfl dL_why_22 ?_
        refine sj_iret C hR rfl rfl dL_why_26 ?_
        refine ⟨congrArg (fun z => some (Value.int z)) ?_, rfl⟩
        exact sp_why_1 ((nI_eq (by omega) (by omega)).mp c_18)
set_option maxRecDepth 100000 in
set_option maxHeartbeats 400000 in
theorem ct_L_hands (l : Launch) {S : sj_St} {rq ra rn rt rp : Nat} {m : Nat → Int32} (h : sp_B S rq ra rn rt rp m) (hI : sj_inv m) : sj_Ctr l mL_hands [.ref rq, .ref rp] S (sj_eq (some (.int (sj_hds m))) S) := by
  refine sj_start ([some (.ref rq), some (.ref rp), none, none, none]) (by decide +kernel) rfl rfl (fun X hX C hR => ?_)
  subst hX
  obtain ⟨⟨kd_rq, il_rq⟩, ⟨kd_ra, il_ra⟩, ⟨kd_rn, il_rn⟩, ⟨kd_rt, il_rt⟩, ⟨kd_rp, il_rp⟩, hq, hs, hp⟩ := id h
  obtain ⟨h9, hn8⟩ := id hI.1
  obtain ⟨h10, hN28⟩ := id hI.2.1
  have hv := sj_inv_oav hI
  have cut_4 : ∀ x2 : Int32, (x2 = sj_sum (fun k => sj_bi (decide (sj_hH m (-1) k = nI k))) 0) → sj_G X S 0 0 [some (.ref rq), some (.ref rp), some (.int (x2)), some (.int (nI (0))), none] 4 [] := by
    refine sj_down (fun k => ∀ x2 : Int32, (x2 = sj_sum (fun k => sj_bi (decide (sj_hH m (-1) k = nI k))) k) → sj_G X S 0 0 [some (.ref rq), some (.ref rp), some (.int (x2)), some (.int (nI (k))), none] 4 []) (sj_tn (m 9)) (fun k hk ih_4 => ?_)
    intro x2 e_x2
    refine sj_iload_n C 5 rfl dL_hands_4 rfl rfl ?_
    refine sj_aload_n C 6 rfl dL_hands_5 rfl rfl ?_
    refine sj_bipush C (9) 8 rfl dL_hands_6 (by decide) ?_
    refine sj_iald C 9 rfl dL_hands_8 kd_rq (sp_vp (i := 9) il_rq (by omega) (by omega)) ?_
    rw [show Int32.toNatClampNeg 9 = 9 from rfl]
    rw [hq 9 (by omega)]
    rw [h9]
    refine sj_icmp_ge C 49 12 rfl rfl dL_hands_9 (fun c_9 => ?_) (fun c_9 => ?_)
    · have hkn : k = sj_tn (m 9) := by
        have h99 : ¬ k < sj_tn (m 9) := fun h9 => nI_ge h9 (by omega) c_9
        omega
      subst hkn
      refine sj_iload_n C 50 rfl dL_hands_49 rfl rfl ?_
      refine sj_iret C hR rfl rfl dL_hands_50 ?_
      refine ⟨congrArg (fun z => some (Value.int z)) ?_, rfl⟩
      exact e_x2
    · have hlt : k < sj_tn (m 9) := Nat.not_le.mp fun h9 => c_9 (nI_le h9 (by omega))
      have hk9 := hlt
      refine sj_iload_n C 13 rfl dL_hands_12 rfl rfl ?_
      refine sj_iconstv C (-1) 14 rfl dL_hands_13 rfl ?_
      refine sj_iconstv C (-1) 15 rfl dL_hands_14 rfl ?_
      refine sj_iconstv C (-1) 16 rfl dL_hands_15 rfl ?_
      refine sj_aload_n C 17 rfl dL_hands_16 rfl rfl ?_
      refine sj_aload_n C 18 rfl dL_hands_17 rfl rfl ?_
      refine sj_callSd C 21 rfl dL_hands_18 cv_L_119 rfl (ct_L_handOf _ h hI (i := k) hlt (-1)) rfl rfl rfl ⟨rfl, rfl⟩ ?_
      refine sj_istore_4 C 23 rfl dL_hands_21 rfl rfl ?_
      refine sj_iload_n C 24 rfl dL_hands_23 rfl rfl ?_
      refine sj_iload C 26 rfl dL_hands_24 rfl ?_
      refine sj_iload C 28 rfl dL_hands_26 rfl ?_
      refine sj_ineg C 29 rfl dL_hands_28 ?_
      refine sj_iand C 30 rfl dL_hands_29 ?_
      refine sj_iconstv C (1) 31 rfl dL_hands_30 rfl ?_
      refine sj_iload_n C 32 rfl dL_hands_31 rfl rfl ?_
      refine sj_ishl C 33 rfl dL_hands_32 ?_
      have cut_41 : ∀ j41 : Int32, (j41 = if (nI (sp_hd m (-1) k) &&& (-(nI (sp_hd m (-1) k)))) = ((1 : Int32) <<< (nI (k) &&& 31)) then 1 else 0) → sj_G X S 0 0 [some (.ref rq), some (.ref rp), some (.int (x2)), some (.int (nI (k))), some (.int (nI (sp_hd m (-1) k)))] 41 [.int (j41), .int (x2)] := by
        intro j41 h41
        have e41 : j41 = sj_bi (decide (sj_hH m (-1) k = nI k)) := by
          rw [h41, ← sp_first hv hlt (sp_hd_lt hv (-1) hlt) (fun x hx => sp_hd_in hv (-1) hlt hx)]
          unfold sj_bi
          simp only [decide_eq_true_eq]
        refine sj_iadd C 42 rfl dL_hands_41 ?_
        refine sj_istore_n_2 C 43 rfl dL_hands_42 rfl rfl ?_
        refine sj_iinc_3 C 46 rfl dL_hands_43 rfl rfl ?_
        rw [show nI (k) + Int32.ofInt 1 = nI (k + 1) from nI_add _ _]
        refine sj_goto C 4 rfl dL_hands_46 ?_
        refine sj_for [some (.ref rq), some (.ref rp), some (.int (x2 + j41)), some (.int (nI (k + 1))), none] (show _ ∧ _ ∧ _ ∧ _ ∧ True from ⟨rfl, rfl, rfl, rfl, trivial⟩) ?_
        exact ih_4 (hlt) _ (by rw [e41, e_x2]; rfl)
      refine sj_icmp_ne C 40 36 rfl rfl dL_hands_33 (fun c_33 => ?_) (fun c_33 => ?_)
      · refine sj_iconstv C (0) 41 rfl dL_hands_40 rfl ?_
        exact cut_41 _  ((if_neg c_33).symm)
      · refine sj_iconstv C (1) 37 rfl dL_hands_36 rfl ?_
        refine sj_goto C 41 rfl dL_hands_37 ?_
        exact cut_41 _  ((if_pos c_33).symm)
  refine sj_iconstv C (0) 1 rfl dL_hands_0 rfl ?_
  refine sj_istore_n_2 C 2 rfl dL_hands_1 rfl rfl ?_
  refine sj_iconstv C (0) 3 rfl dL_hands_2 rfl ?_
  refine sj_istore_n_3 C 4 rfl dL_hands_3 rfl rfl ?_
  exact cut_4 _ (rfl)
