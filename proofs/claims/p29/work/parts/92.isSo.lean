/-! THE LAW: all that is told -/
theorem sp_sum0 (f : Nat → Int32) {n : Nat} : ∀ d, (∀ k, n ≤ k → k < n + d → f k = 0) → sj_sum f (n + d) = sj_sum f n
  | 0, _ => rfl
  | d + 1, h => by
    show sj_sum f (n + d) + f (n + d) = _
    rw [sp_sum0 f d (fun k h1 h2 => h k h1 (by omega)), h (n + d) (by omega) (by omega), Int32.add_zero]
theorem sp_ones_mem {m : Nat → Int32} (hv : sj_oav m) {k : Nat} (hk : k < sj_tn (m 9)) : sj_ones (nI (sp_hd m (-1) k)) = sq_mem m k := by
  have h8 := hv.1.2
  have hlt := sp_hd_lt hv (-1) hk
  unfold sj_ones sq_mem
  have h1 : ∀ t, t < 8 → (nI (sp_hd m (-1) k) >>> (nI t &&& 31)) &&& 1 = sj_bi ((sp_hd m (-1) k).testBit t) := fun t ht => sp_bit _ hlt t ht
  rw [sj_sum_cg 8 (g := fun t => sj_bi ((sp_hd m (-1) k).testBit t)) h1]
  obtain ⟨d, hd⟩ : ∃ d, 8 = sj_tn (m 9) + d := ⟨8 - sj_tn (m 9), by omega⟩
  rw [hd, sp_sum0 _ d (fun t h2 h3 => by
    show sj_bi ((sp_hd m (-1) k).testBit t) = 0
    rw [sp_hd_out hv (-1) hk h2]
    rfl)]
  exact sj_sum_cg _ (fun t ht => by
    show sj_bi ((sp_hd m (-1) k).testBit t) = sj_bi (sj_a1 m k t)
    rw [sp_hd_in hv (-1) hk ht]
    rfl)
theorem ct_L_ones_h (l : Launch) (S : sj_St) {m : Nat → Int32} (hv : sj_oav m) {k : Nat} (hk : k < sj_tn (m 9)) : sj_Ctr l mL_ones [.int (nI (sp_hd m (-1) k))] S (sj_eq (some (.int (sq_mem m k))) S) := by
  have h := ct_L_ones l S (sp_hd_lt hv (-1) hk)
  rw [sp_ones_mem hv hk] at h
  exact h
theorem sp_big_j {f : Nat → Int32} {k : Nat} {x j : Int32} (ex : x = sj_big f k) (h : j = if f k ≤ x then x else f k) : j = sj_big f (k + 1) := by
  rw [h, ex]
  show _ = if sj_big f k < f k then f k else sj_big f k
  by_cases h1 : f k ≤ sj_big f k
  · rw [if_pos h1, if_neg (Int32.not_lt.mpr h1)]
  · rw [if_neg h1, if_pos (Int32.not_le.mp h1)]
def sp_fA (m : Nat → Int32) (i e : Nat) : Int32 := sj_bi (decide (m 8 ≤ sj_lik m i e))
def sp_fS (m : Nat → Int32) (i e : Nat) : Int32 := if sj_a1 m i e then sj_lik m i e else 0
def sp_fP (m : Nat → Int32) (i e : Nat) : Int32 := sj_bi (sj_a1 m i e)
theorem sp_fA_j {m : Nat → Int32} {i e : Nat} {j : Int32} (h : j = if sj_lik m i e < m 8 then 0 else 1) : j = sp_fA m i e := by
  rw [h]
  unfold sp_fA
  by_cases h1 : sj_lik m i e < m 8
  · rw [if_pos h1, decide_eq_false (Int32.not_le.mpr h1)]
    rfl
  · rw [if_neg h1, decide_eq_true (Int32.not_lt.mp h1)]
    rfl
theorem sp_fS_j {m : Nat → Int32} {i e : Nat} : sj_bi (decide (sj_hH m (-1) i = sj_hH m (-1) e)) * sj_lik m i e = sp_fS m i e := by
  unfold sp_fS sj_a1
  by_cases h : sj_hH m (-1) i = sj_hH m (-1) e
  · rw [decide_eq_true h, if_pos rfl]
    exact Int32.one_mul _
  · rw [decide_eq_false h, if_neg (by decide)]
    exact Int32.zero_mul
theorem sp_psA {m : Nat → Int32} (hI : sj_inv m) : sj_lps m (sj_tn (m 9)) = sq_ps (sp_fA m) (sj_tn (m 9)) (sj_tn (m 9)) := by
  rw [sj_lps_pl]
  exact (sq_ps_pl (sp_fA m) _ (fun a b ha hb => by unfold sp_fA; rw [sj_lik_cm hI ha hb])).symm
theorem sp_psS {m : Nat → Int32} (hI : sj_inv m) : sq_ps (sp_fS m) (sj_tn (m 9)) (sj_tn (m 9)) = sj_shl m (sj_tn (m 9)) := by
  rw [sj_shl_pl]
  exact sq_ps_pl (sp_fS m) _ (fun a b ha hb => by unfold sp_fS; rw [sj_a1_cm, sj_lik_cm hI ha hb])
theorem sp_psP {m : Nat → Int32} (hI : sj_inv m) : sq_ps (sp_fP m) (sj_tn (m 9)) (sj_tn (m 9)) = sj_shp m (sj_tn (m 9)) := by
  rw [sj_shp_pl]
  exact sq_ps_pl (sp_fP m) _ (fun a b _ _ => by unfold sp_fP; rw [sj_a1_cm])
theorem sp_shr_j {m : Nat → Int32} {x y : Int32} {j : UInt64} (ex : x = sj_shl m (sj_tn (m 9))) (ey : y = sj_shp m (sj_tn (m 9))) (h : j = if y = 0 then FP.dconst1 else FP.ddiv (FP.i2d x) (FP.i2d (6 * y))) : j = sj_shr m := by
  rw [h, ex, ey]
  rfl
theorem sp_hasb {N b : Nat} (h1 : N ≤ 28) (h2 : b ≤ N) {j : Int32} (h : j = if nI N ≤ nI b then 0 else 1) : (¬ j = 0 → b < N) ∧ (j = 0 → N ≤ b) := by
  rcases Nat.lt_or_ge b N with h3 | h3
  · rw [if_neg (nI_ge h3 (by omega))] at h
    exact ⟨fun _ => h3, fun h4 => by rw [h] at h4; exact absurd h4 (by decide)⟩
  · rw [if_pos (nI_le h3 (by omega))] at h
    exact ⟨fun h4 => absurd h h4, fun _ => h3⟩
theorem sp_tlo_j {m : Nat → Int32} {b w : Nat} (hw : w < 3) {j x jw : Int32} (hb : (¬ j = 0 → b < sj_tn (m 10)) ∧ (j = 0 → sj_tn (m 10) ≤ b)) (hx : b < sj_tn (m 10) → x = sj_oa m b w) (h : jw = if j = 0 then -1 else x) : sj_tlo m b w = jw := by
  unfold sj_tlo
  rw [h]
  by_cases h1 : j = 0
  · rw [if_pos (hb.2 h1), if_pos h1]
  · have h2 := hb.1 h1
    rw [if_neg (by omega), if_neg (by omega), if_neg h1, hx h2]
theorem sp_tlo_3 {m : Nat → Int32} {b : Nat} {j x jw : Int32} (hb : (¬ j = 0 → b < sj_tn (m 10)) ∧ (j = 0 → sj_tn (m 10) ≤ b)) (hx : b < sj_tn (m 10) → x = sj_bi (sj_hld m b)) (h : ((¬ j = 0) ∧ (x = 0) ∧ jw = 0) ∨ ((¬ j = 0) ∧ (¬ x = 0) ∧ jw = 1) ∨ ((j = 0) ∧ jw = -1)) : sj_tlo m b 3 = jw := by
  unfold sj_tlo
  rcases h with ⟨h1, h2, rfl⟩ | ⟨h1, h2, rfl⟩ | ⟨h1, rfl⟩
  · have h3 := hb.1 h1
    rw [if_neg (by omega), if_pos rfl, ← hx h3, h2]
  · have h3 := hb.1 h1
    rw [if_neg (by omega), if_pos rfl]
    rw [hx h3] at h2
    rw [sj_bin.mp h2]
    rfl
  · rw [if_pos (hb.2 h1)]
theorem sp_hld_j {m : Nat → Int32} (hv : sj_oav m) {b : Nat} (hb : b < sj_tn (m 10)) {j : Int32} {x : Int32} (h : ((x = 0) ∧ j = 0) ∨ ((¬ x = 0) ∧ (¬ sj_oa m b 2 = 1) ∧ j = 0) ∨ ((¬ x = 0) ∧ (sj_oa m b 2 = 1) ∧ (¬ sj_bi ((sp_hd m (nI b) (sj_tn (sj_oa m b 0))).testBit (sj_tn (sj_oa m b 1))) = 0) ∧ j = 0) ∨ ((¬ x = 0) ∧ (sj_oa m b 2 = 1) ∧ (sj_bi ((sp_hd m (nI b) (sj_tn (sj_oa m b 0))).testBit (sj_tn (sj_oa m b 1))) = 0) ∧ j = 1)) (hx : ¬ x = 0) : j = sj_bi (sj_hld m b) := by
  obtain ⟨⟨-, a⟩, ⟨-, c⟩, -⟩ := hv.2.2 b hb
  have e := sp_hd_in hv (nI b) a c
  rw [e] at h
  unfold sj_hld
  rcases h with ⟨h1, rfl⟩ | ⟨h1, h2, rfl⟩ | ⟨h1, h2, h3, rfl⟩ | ⟨h1, h2, h3, rfl⟩
  · exact absurd h1 hx
  · rw [decide_eq_false h2]; rfl
  · have h4 := of_decide_eq_true (sj_bin.mp h3)
    rw [decide_eq_false (show ¬ ¬ sj_hH m (nI b) (sj_tn (sj_oa m b 0)) = sj_hH m (nI b) (sj_tn (sj_oa m b 1)) from fun h9 => h9 h4), Bool.and_false]
    rfl
  · have h4 := of_decide_eq_false (sj_bi0.mp h3)
    rw [decide_eq_true h2, decide_eq_true h4]
    rfl
theorem sp_nne {n : Nat} (h : 0 < n) (h2 : n < 2 ^ 31) : ¬ nI n = 0 := nI_ne0 h h2
set_option maxRecDepth 100000 in
set_option maxHeartbeats 600000 in
theorem ct_L_isSo (l : Launch) {S : sj_St} {g : Nat → Nat} {m : Nat → Int32} {hs : Bool} {ms : Nat → Int32} {p q : Nat} {Q : Nat → Nat → Int32} {n : Nat} {B : Nat → Int32} (hW : sq_W S g m hs ms p q Q n B) (hI : sj_inv m) (huc : sj_uc m) {rq ra rn rt rp : Nat} (h : sp_B S rq ra rn rt rp m) (x : Int32) : sj_Ctr l nL_isSo [.ref (g 141), .int (x), .ref rq, .ref ra, .ref rn, .ref rt, .ref rp] S (sj_eq (some (.int 1)) S) := by
  refine sj_start ([some (.ref (g 141)), some (.int (x)), some (.ref rq), some (.ref ra), some (.ref rn), some (.ref rt), some (.ref rp), none, none, none, none, none, none, none, none, none, none, none, none]) (by decide +kernel) rfl rfl (fun X hX C hR => ?_)
  subst hX
  obtain ⟨⟨kd_rq, il_rq⟩, ⟨kd_ra, il_ra⟩, ⟨kd_rn, il_rn⟩, ⟨kd_rt, il_rt⟩, ⟨kd_rp, il_rp⟩, hq, hs, hp⟩ := id h
  obtain ⟨h9, hn8⟩ := id hI.1
  obtain ⟨h10, hN28⟩ := id hI.2.1
  have hq9 : sj_ia S rq 9 = nI (sj_tn (m 9)) := (hq 9 (by omega)).trans h9
  have hq10 : sj_ia S rq 10 = nI (sj_tn (m 10)) := (hq 10 (by omega)).trans h10
  have hv := sj_inv_oav hI
  refine sj_iconstv C (0) 1 rfl dL_isSo_0 rfl ?_
  refine sj_istore_7 C 3 rfl dL_isSo_1 rfl rfl ?_
  refine sj_iconstv C (0) 4 rfl dL_isSo_3 rfl ?_
  refine sj_istore_8 C 6 rfl dL_isSo_4 rfl rfl ?_
  refine sj_iconstv C (0) 7 rfl dL_isSo_6 rfl ?_
  refine sj_istore_9 C 9 rfl dL_isSo_7 rfl rfl ?_
  refine sj_iconstv C (0) 10 rfl dL_isSo_9 rfl ?_
  refine sj_istore_10 C 12 rfl dL_isSo_10 rfl rfl ?_
  refine sj_iconstv C (0) 13 rfl dL_isSo_12 rfl ?_
  refine sj_istore_11 C 15 rfl dL_isSo_13 rfl rfl ?_
  refine sj_iconstv C (0) 16 rfl dL_isSo_15 rfl ?_
  refine sj_istore_12 C 18 rfl dL_isSo_16 rfl rfl ?_
  have cut_21 : ∀ x7 : Int32, (x7 = sj_sum (fun k => sj_oa m k 2) 0) → sj_G X S 0 0 [some (.ref (g 141)), some (.int (x)), some (.ref rq), some (.ref ra), some (.ref rn), some (.ref rt), some (.ref rp), some (.int (x7)), some (.int (0)), some (.int (0)), some (.int (0)), some (.int (0)), some (.int (0)), some (.int (nI (0))), none, none, none, none, none] 21 [] := by
    refine sj_down (fun k => ∀ x7 : Int32, (x7 = sj_sum (fun k => sj_oa m k 2) k) → sj_G X S 0 0 [some (.ref (g 141)), some (.int (x)), some (.ref rq), some (.ref ra), some (.ref rn), some (.ref rt), some (.ref rp), some (.int (x7)), some (.int (0)), some (.int (0)), some (.int (0)), some (.int (0)), some (.int (0)), some (.int (nI (k))), none, none, none, none, none] 21 []) (sj_tn (m 10)) (fun k hk ih_21 => ?_)
    intro x7 e_x7
    refine sj_iload C 23 rfl dL_isSo_21 rfl ?_
    refine sj_aload_n C 24 rfl dL_isSo_23 rfl rfl ?_
    refine sj_bipush C (10) 26 rfl dL_isSo_24 (by decide) ?_
    refine sj_iald C 27 rfl dL_isSo_26 kd_rq (sp_vp (i := 10) il_rq (by omega) (by omega)) ?_
    rw [show Int32.toNatClampNeg 10 = 10 from rfl]
    rw [hq10]
    refine sj_icmp_ge C 49 30 rfl rfl dL_isSo_27 (fun c_27 => ?_) (fun c_27 => ?_)
    · have hkn : k = sj_tn (m 10) := by
        have h99 : ¬ k < sj_tn (m 10) := fun h9 => nI_ge h9 (by omega) c_27
        omega
      subst hkn
      have cut_52 : ∀ x8 x9 x10 x11 x12 : Int32, (x8 = sj_big (sq_mem m) 0) → (x9 = sj_sum (fun k => sj_bi (sj_trm m k)) 0) → (x10 = sq_ps (sp_fA m) (sj_tn (m 9)) 0) → (x11 = sq_ps (sp_fS m) (sj_tn (m 9)) 0) → (x12 = sq_ps (sp_fP m) (sj_tn (m 9)) 0) → sj_G X S 0 0 [some (.ref (g 141)), some (.int (x)), some (.ref rq), some (.ref ra), some (.ref rn), some (.ref rt), some (.ref rp), some (.int (x7)), some (.int (x8)), some (.int (x9)), some (.int (x10)), some (.int (x11)), some (.int (x12)), some (.int (nI (0))), none, none, none, none, none] 52 [] := by
        refine sj_down (fun k => ∀ x8 x9 x10 x11 x12 : Int32, (x8 = sj_big (sq_mem m) k) → (x9 = sj_sum (fun k => sj_bi (sj_trm m k)) k) → (x10 = sq_ps (sp_fA m) (sj_tn (m 9)) k) → (x11 = sq_ps (sp_fS m) (sj_tn (m 9)) k) → (x12 = sq_ps (sp_fP m) (sj_tn (m 9)) k) → sj_G X S 0 0 [some (.ref (g 141)), some (.int (x)), some (.ref rq), some (.ref ra), some (.ref rn), some (.ref rt), some (.ref rp), some (.int (x7)), some (.int (x8)), some (.int (x9)), some (.int (x10)), some (.int (x11)), some (.int (x12)), some (.int (nI (k))), none, none, none, none, none] 52 []) (sj_tn (m 9)) (fun k hk ih_52 => ?_)
        intro x8 x9 x10 x11 x12 e_x8 e_x9 e_x10 e_x11 e_x12
        refine sj_iload C 54 rfl dL_isSo_52 rfl ?_
        refine sj_aload_n C 55 rfl dL_isSo_54 rfl rfl ?_
        refine sj_bipush C (9) 57 rfl dL_isSo_55 (by decide) ?_
        refine sj_iald C 58 rfl dL_isSo_57 kd_rq (sp_vp (i := 9) il_rq (by omega) (by omega)) ?_
        rw [show Int32.toNatClampNeg 9 = 9 from rfl]
        rw [hq9]
        refine sj_icmp_ge C 211 61 rfl rfl dL_isSo_58 (fun c_58 => ?_) (fun c_58 => ?_)
        · have hkn : k = sj_tn (m 9) := by
            have h99 : ¬ k < sj_tn (m 9) := fun h9 => nI_ge h9 (by omega) c_58
            omega
          subst hkn
          refine sj_aload_n C 212 rfl dL_isSo_211 rfl rfl ?_
          refine sj_iconstv C (0) 213 rfl dL_isSo_212 rfl ?_
          refine sj_callW1 C 216 rfl dL_isSo_213 cw_L_181 (sj_fitO rfl rfl (show 0 + 1 ≤ 300 by omega) (show 0 + 6 ≤ 1800 by omega)) (tc_count _ hW hI (w := 0) (by omega)) rfl rfl rfl ⟨rfl, rfl⟩ ?_
          refine sj_aload_n C 217 rfl dL_isSo_216 rfl rfl ?_
          refine sj_bipush C (9) 219 rfl dL_isSo_217 (by decide) ?_
          refine sj_iald C 220 rfl dL_isSo_219 kd_rq (sp_vp (i := 9) il_rq (by omega) (by omega)) ?_
          rw [show Int32.toNatClampNeg 9 = 9 from rfl]
          rw [hq9]
          refine sj_icmp_ne C 334 223 rfl rfl dL_isSo_220 (fun c_220 => absurd (show sj_tc m 0 0 = nI (sj_tn (m 9)) from h9) c_220) (fun c_220 => ?_)
          refine sj_aload_n C 224 rfl dL_isSo_223 rfl rfl ?_
          refine sj_iconstv C (1) 225 rfl dL_isSo_224 rfl ?_
          refine sj_callW1 C 228 rfl dL_isSo_225 cw_L_181 (sj_fitO rfl rfl (show 0 + 1 + 1 ≤ 300 by omega) (show 0 + 6 + 6 ≤ 1800 by omega)) (tc_count _ hW hI (w := 1) (by omega)) rfl rfl rfl ⟨rfl, rfl⟩ ?_
          refine sj_aload_n C 229 rfl dL_isSo_228 rfl rfl ?_
          refine sj_bipush C (10) 231 rfl dL_isSo_229 (by decide) ?_
          refine sj_iald C 232 rfl dL_isSo_231 kd_rq (sp_vp (i := 10) il_rq (by omega) (by omega)) ?_
          rw [show Int32.toNatClampNeg 10 = 10 from rfl]
          rw [hq10]
          refine sj_icmp_ne C 334 235 rfl rfl dL_isSo_232 (fun c_232 => absurd (show sj_tc m 0 1 = nI (sj_tn (m 10)) from h10) c_232) (fun c_232 => ?_)
          refine sj_aload_n C 236 rfl dL_isSo_235 rfl rfl ?_
          refine sj_iconstv C (2) 237 rfl dL_isSo_236 rfl ?_
          refine sj_callW1 C 240 rfl dL_isSo_237 cw_L_181 (sj_fitO rfl rfl (show 0 + 1 + 1 + 1 ≤ 300 by omega) (show 0 + 6 + 6 + 6 ≤ 1800 by omega)) (tc_count _ hW hI (w := 2) (by omega)) rfl rfl rfl ⟨rfl, rfl⟩ ?_
          refine sj_iload C 242 rfl dL_isSo_240 rfl ?_
          refine sj_icmp_ne C 334 245 rfl rfl dL_isSo_242 (fun c_242 => absurd (e_x7.symm) c_242) (fun c_242 => ?_)
          refine sj_aload_n C 246 rfl dL_isSo_245 rfl rfl ?_
          refine sj_iconstv C (3) 247 rfl dL_isSo_246 rfl ?_
          refine sj_callW1 C 250 rfl dL_isSo_247 cw_L_181 (sj_fitO rfl rfl (show 0 + 1 + 1 + 1 + 1 ≤ 300 by omega) (show 0 + 6 + 6 + 6 + 6 ≤ 1800 by omega)) (tc_count _ hW hI (w := 3) (by omega)) rfl rfl rfl ⟨rfl, rfl⟩ ?_
          refine sj_aload_n C 251 rfl dL_isSo_250 rfl rfl ?_
          refine sj_aload C 253 rfl dL_isSo_251 rfl ?_
          refine sj_callSd C 256 rfl dL_isSo_253 cv_L_160 (sj_fitO rfl rfl (show 0 + 1 + 1 + 1 + 1 + 0 ≤ 300 by omega) (show 0 + 6 + 6 + 6 + 6 + 0 ≤ 1800 by omega)) (ct_L_hands _ h hI) rfl rfl rfl ⟨rfl, rfl⟩ ?_
          refine sj_icmp_ne C 334 259 rfl rfl dL_isSo_256 (fun c_256 => absurd (rfl) c_256) (fun c_256 => ?_)
          refine sj_aload_n C 260 rfl dL_isSo_259 rfl rfl ?_
          refine sj_iconstv C (4) 261 rfl dL_isSo_260 rfl ?_
          refine sj_callW1 C 264 rfl dL_isSo_261 cw_L_181 (sj_fitO rfl rfl (show 0 + 1 + 1 + 1 + 1 + 1 ≤ 300 by omega) (show 0 + 6 + 6 + 6 + 6 + 6 ≤ 1800 by omega)) (tc_count _ hW hI (w := 4) (by omega)) rfl rfl rfl ⟨rfl, rfl⟩ ?_
          refine sj_iload C 266 rfl dL_isSo_264 rfl ?_
          refine sj_icmp_ne C 334 269 rfl rfl dL_isSo_266 (fun c_266 => absurd (by rw [e_x8]; exact (sq_moh hv).symm) c_266) (fun c_266 => ?_)
          refine sj_aload_n C 270 rfl dL_isSo_269 rfl rfl ?_
          refine sj_iconstv C (5) 271 rfl dL_isSo_270 rfl ?_
          refine sj_callW1 C 274 rfl dL_isSo_271 cw_L_181 (sj_fitO rfl rfl (show 0 + 1 + 1 + 1 + 1 + 1 + 1 ≤ 300 by omega) (show 0 + 6 + 6 + 6 + 6 + 6 + 6 ≤ 1800 by omega)) (tc_count _ hW hI (w := 5) (by omega)) rfl rfl rfl ⟨rfl, rfl⟩ ?_
          refine sj_iload C 276 rfl dL_isSo_274 rfl ?_
          refine sj_icmp_ne C 334 279 rfl rfl dL_isSo_276 (fun c_276 => absurd (e_x9.symm) c_276) (fun c_276 => ?_)
          refine sj_aload_n C 280 rfl dL_isSo_279 rfl rfl ?_
          refine sj_bipush C (6) 282 rfl dL_isSo_280 (by decide) ?_
          refine sj_callW1 C 285 rfl dL_isSo_282 cw_L_181 (sj_fitO rfl rfl (show 0 + 1 + 1 + 1 + 1 + 1 + 1 + 1 ≤ 300 by omega) (show 0 + 6 + 6 + 6 + 6 + 6 + 6 + 6 ≤ 1800 by omega)) (tc_count _ hW hI (w := 6) (by omega)) rfl rfl rfl ⟨rfl, rfl⟩ ?_
          refine sj_aload_n C 286 rfl dL_isSo_285 rfl rfl ?_
          refine sj_bipush C (11) 288 rfl dL_isSo_286 (by decide) ?_
          refine sj_iald C 289 rfl dL_isSo_288 kd_rq (sp_vp (i := 11) il_rq (by omega) (by omega)) ?_
          rw [show Int32.toNatClampNeg 11 = 11 from rfl]
          rw [hq 11 (by omega)]
          refine sj_icmp_ne C 334 292 rfl rfl dL_isSo_289 (fun c_289 => absurd (rfl) c_289) (fun c_289 => ?_)
          refine sj_aload_n C 293 rfl dL_isSo_292 rfl rfl ?_
          refine sj_bipush C (7) 295 rfl dL_isSo_293 (by decide) ?_
          refine sj_callW1 C 298 rfl dL_isSo_295 cw_L_181 (sj_fitO rfl rfl (show 0 + 1 + 1 + 1 + 1 + 1 + 1 + 1 + 1 ≤ 300 by omega) (show 0 + 6 + 6 + 6 + 6 + 6 + 6 + 6 + 6 ≤ 1800 by omega)) (tc_count _ hW hI (w := 7) (by omega)) rfl rfl rfl ⟨rfl, rfl⟩ ?_
          refine sj_iload C 300 rfl dL_isSo_298 rfl ?_
          refine sj_icmp_ne C 334 303 rfl rfl dL_isSo_300 (fun c_300 => absurd (by rw [e_x10]; exact sp_psA hI) c_300) (fun c_300 => ?_)
          refine sj_aload_n C 304 rfl dL_isSo_303 rfl rfl ?_
          refine sj_callVd C 307 rfl dL_isSo_304 cv_L_183 (sj_fitO rfl rfl (show 0 + 1 + 1 + 1 + 1 + 1 + 1 + 1 + 1 + 0 ≤ 300 by omega) (show 0 + 6 + 6 + 6 + 6 + 6 + 6 + 6 + 6 + 0 ≤ 1800 by omega)) (ct_X6_handShare _ hW hI) rfl rfl rfl ⟨_, _, hW.1.1.1, rfl, rfl, by decide⟩ ⟨rfl, rfl⟩ ?_
          refine sj_iload C 309 rfl dL_isSo_307 rfl ?_
          have cut_326 : ∀ j326 : UInt64, (j326 = if x12 = 0 then FP.dconst1 else FP.ddiv (FP.i2d (x11)) (FP.i2d (6 * x12))) → sj_G X S (0 + 1 + 1 + 1 + 1 + 1 + 1 + 1 + 1) (0 + 6 + 6 + 6 + 6 + 6 + 6 + 6 + 6) [some (.ref (g 141)), some (.int (x)), some (.ref rq), some (.ref ra), some (.ref rn), some (.ref rt), some (.ref rp), some (.int (x7)), some (.int (x8)), some (.int (x9)), some (.int (x10)), some (.int (x11)), some (.int (x12)), some (.int (nI (sj_tn (m 9)))), none, none, none, none, none] 326 [.double (j326), .double (sj_shr m)] := by
            intro j326 h326
            have e326 : j326 = sj_shr m := sp_shr_j (e_x11.trans (sp_psS hI)) (e_x12.trans (sp_psP hI)) h326
            refine sj_dcmp C 327 rfl dL_isSo_326 ?_
            refine sj_if_ne C 334 330 rfl rfl dL_isSo_327 (fun c_327 => absurd (by rw [e326]; exact sj_shok_l (sj_shr_ok hn8)) c_327) (fun c_327 => ?_)
            refine sj_iconstv C (1) 331 rfl dL_isSo_330 rfl ?_
            refine sj_goto C 335 rfl dL_isSo_331 ?_
            refine sj_istore_13 C 337 rfl dL_isSo_335 rfl rfl ?_
            have cut_340 : ∀ cl sl : Nat, (cl ≤ 8 + 0) → (sl ≤ 48 + 6 * 0) → sj_G X S cl sl [some (.ref (g 141)), some (.int (x)), some (.ref rq), some (.ref ra), some (.ref rn), some (.ref rt), some (.ref rp), none, none, none, none, none, none, some (.int (1)), some (.int (nI (0))), none, none, none, none] 340 [] := by
              refine sj_down (fun u => ∀ cl sl : Nat, (cl ≤ 8 + u) → (sl ≤ 48 + 6 * u) → sj_G X S cl sl [some (.ref (g 141)), some (.int (x)), some (.ref rq), some (.ref ra), some (.ref rn), some (.ref rt), some (.ref rp), none, none, none, none, none, none, some (.int (1)), some (.int (nI (u))), none, none, none, none] 340 []) 9 (fun u hu ih_340 => ?_)
              intro cl sl hy340_0 hy340_1
              refine sj_iload C 342 rfl dL_isSo_340 rfl ?_
              refine sj_bipush C (9) 344 rfl dL_isSo_342 (by decide) ?_
              refine sj_icmp_ge C 381 347 rfl rfl dL_isSo_344 (fun c_344 => ?_) (fun c_344 => ?_)
              · have hkn : u = 9 := by
                  have h99 : ¬ u < 9 := fun h9 => nI_ge h9 (by omega) c_344
                  omega
                subst hkn
                refine sj_iload_n C 382 rfl dL_isSo_381 rfl rfl ?_
                refine sj_aload_n C 383 rfl dL_isSo_382 rfl rfl ?_
                refine sj_bipush C (10) 385 rfl dL_isSo_383 (by decide) ?_
                refine sj_iald C 386 rfl dL_isSo_385 kd_rq (sp_vp (i := 10) il_rq (by omega) (by omega)) ?_
                rw [show Int32.toNatClampNeg 10 = 10 from rfl]
                rw [hq10]
                refine sj_iconstv C (1) 387 rfl dL_isSo_386 rfl ?_
                refine sj_iadd C 388 rfl dL_isSo_387 ?_
                rw [show nI (sj_tn (m 10)) + 1 = nI ((sj_tn (m 10)) + 1) from nI_add (sj_tn (m 10)) 1]
                refine sj_callSd C 391 rfl dL_isSo_388 cv_L_85 (sj_fitO rfl rfl (show cl + 0 ≤ 300 by omega) (show sl + 0 ≤ 1800 by omega)) (ct_L_low _ _ _ _ (sp_nne (by omega) (by omega))) rfl rfl rfl ⟨rfl, rfl⟩ ?_
                obtain ⟨b, hb, eb⟩ := sp_low_in (x) (n := sj_tn (m 10) + 1) (by omega) (by omega)
                rw [show sp_low (x) (nI ((sj_tn (m 10)) + 1)) = nI b from eb]
                refine sj_istore_14 C 393 rfl dL_isSo_391 rfl rfl ?_
                refine sj_iload C 395 rfl dL_isSo_393 rfl ?_
                refine sj_aload_n C 396 rfl dL_isSo_395 rfl rfl ?_
                refine sj_bipush C (10) 398 rfl dL_isSo_396 (by decide) ?_
                refine sj_iald C 399 rfl dL_isSo_398 kd_rq (sp_vp (i := 10) il_rq (by omega) (by omega)) ?_
                rw [show Int32.toNatClampNeg 10 = 10 from rfl]
                rw [hq10]
                have cut_407 : ∀ j407 : Int32, (j407 = if nI (sj_tn (m 10)) ≤ nI (b) then 0 else 1) → sj_G X S cl sl [some (.ref (g 141)), some (.int (x)), some (.ref rq), some (.ref ra), some (.ref rn), some (.ref rt), some (.ref rp), none, none, none, none, none, none, some (.int (1)), some (.int (nI (b))), none, none, none, none] 407 [.int (j407)] := by
                  intro j407 h407
                  refine sj_istore_15 C 409 rfl dL_isSo_407 rfl rfl ?_
                  refine sj_aload C 411 rfl dL_isSo_409 rfl ?_
                  refine sj_iload C 413 rfl dL_isSo_411 rfl ?_
                  refine sj_iald C 414 rfl dL_isSo_413 kd_rp (sp_vp il_rp (by omega) (by omega)) ?_
                  rw [nI_clamp (by omega)]
                  refine sj_bipush C (15) 416 rfl dL_isSo_414 (by decide) ?_
                  refine sj_iand C 417 rfl dL_isSo_416 ?_
                  obtain ⟨o1, eo1⟩ : ∃ v, v = sj_ia S rp b &&& 15 := ⟨_, rfl⟩
                  rw [← eo1]
                  refine sj_istore_16 C 419 rfl dL_isSo_417 rfl rfl ?_
                  refine sj_aload C 421 rfl dL_isSo_419 rfl ?_
                  refine sj_iload C 423 rfl dL_isSo_421 rfl ?_
                  refine sj_iald C 424 rfl dL_isSo_423 kd_rp (sp_vp il_rp (by omega) (by omega)) ?_
                  rw [nI_clamp (by omega)]
                  refine sj_iconstv C (4) 425 rfl dL_isSo_424 rfl ?_
                  refine sj_ishr C 426 rfl dL_isSo_425 ?_
                  refine sj_bipush C (15) 428 rfl dL_isSo_426 (by decide) ?_
                  refine sj_iand C 429 rfl dL_isSo_428 ?_
                  obtain ⟨o2, eo2⟩ : ∃ v, v = (sj_ia S rp b >>> (4 &&& 31)) &&& 15 := ⟨_, rfl⟩
                  rw [← eo2]
                  have ho9 : b < sj_tn (m 10) → o1 = nI (sj_tn (sj_oa m b 0)) ∧ o2 = nI (sj_tn (sj_oa m b 1)) ∧ sj_ia S rp b >>> (8 &&& 31) = sj_oa m b 2 := fun h9 => by
                    rw [eo1, eo2, hp b h9]
                    exact ⟨sp_pn_0 hI h9, sp_pn_1 hI h9, sp_pn_2 hI h9⟩
                  have hbb := sp_hasb hN28 (show b ≤ sj_tn (m 10) by omega) h407
                  refine sj_istore_17 C 431 rfl dL_isSo_429 rfl rfl ?_
                  refine sj_iload C 433 rfl dL_isSo_431 rfl ?_
                  have cut_473 : ∀ j473 : Int32, (((j407 = 0) ∧ j473 = 0) ∨ ((¬ j407 = 0) ∧ (¬ (sj_oa m b 2) = 1) ∧ j473 = 0) ∨ ((¬ j407 = 0) ∧ ((sj_oa m b 2) = 1) ∧ (¬ (sj_bi ((sp_hd m (nI b) (sj_tn (sj_oa m b 0))).testBit (sj_tn (sj_oa m b 1)))) = 0) ∧ j473 = 0) ∨ ((¬ j407 = 0) ∧ ((sj_oa m b 2) = 1) ∧ ((sj_bi ((sp_hd m (nI b) (sj_tn (sj_oa m b 0))).testBit (sj_tn (sj_oa m b 1)))) = 0) ∧ j473 = 1)) → sj_G X S cl sl [some (.ref (g 141)), some (.int (x)), some (.ref rq), some (.ref ra), some (.ref rn), some (.ref rt), some (.ref rp), none, none, none, none, none, none, some (.int (1)), some (.int (nI (b))), some (.int (j407)), some (.int (o1)), some (.int (o2)), none] 473 [.int (j473)] := by
                    intro j473 h473
                    have e473 : b < sj_tn (m 10) → j473 = sj_bi (sj_hld m b) := fun h9 => sp_hld_j hv h9 h473 (fun h8 => by have := hbb.2 h8; omega)
                    refine sj_istore_18 C 475 rfl dL_isSo_473 rfl rfl ?_
                    refine sj_iload C 477 rfl dL_isSo_475 rfl ?_
                    refine sj_if_eq C 582 480 rfl rfl dL_isSo_477 (fun c_477 => absurd c_477 (by decide)) (fun c_477 => ?_)
                    refine sj_aload_n C 481 rfl dL_isSo_480 rfl rfl ?_
                    refine sj_iload C 483 rfl dL_isSo_481 rfl ?_
                    refine sj_iconstv C (0) 484 rfl dL_isSo_483 rfl ?_
                    refine sj_callW1 C 487 rfl dL_isSo_484 cw_L_187 (sj_fitO rfl rfl (show cl + 1 ≤ 300 by omega) (show sl + 6 ≤ 1800 by omega)) (tc_oath _ hW hI (k := b) (w := 0) (by omega) (by omega)) rfl rfl rfl ⟨rfl, rfl⟩ ?_
                    refine sj_iload C 489 rfl dL_isSo_487 rfl ?_
                    have cut_498 : ∀ j498 : Int32, (j498 = if j407 = 0 then (-1) else o1) → sj_G X S (cl + 1) (sl + 6) [some (.ref (g 141)), some (.int (x)), some (.ref rq), some (.ref ra), some (.ref rn), some (.ref rt), some (.ref rp), none, none, none, none, none, none, some (.int (1)), some (.int (nI (b))), some (.int (j407)), some (.int (o1)), some (.int (o2)), some (.int (j473))] 498 [.int (j498), .int (sj_tlo m b 0)] := by
                      intro j498 h498
                      refine sj_icmp_ne C 582 501 rfl rfl dL_isSo_498 (fun c_498 => absurd (sp_tlo_j (w := 0) (by omega) hbb (fun h9 => (ho9 h9).1.trans (sp_oa_n hI h9).1.1.symm) h498) c_498) (fun c_498 => ?_)
                      refine sj_aload_n C 502 rfl dL_isSo_501 rfl rfl ?_
                      refine sj_iload C 504 rfl dL_isSo_502 rfl ?_
                      refine sj_iconstv C (1) 505 rfl dL_isSo_504 rfl ?_
                      refine sj_callW1 C 508 rfl dL_isSo_505 cw_L_187 (sj_fitO rfl rfl (show cl + 1 + 1 ≤ 300 by omega) (show sl + 6 + 6 ≤ 1800 by omega)) (tc_oath _ hW hI (k := b) (w := 1) (by omega) (by omega)) rfl rfl rfl ⟨rfl, rfl⟩ ?_
                      refine sj_iload C 510 rfl dL_isSo_508 rfl ?_
                      have cut_519 : ∀ j519 : Int32, (j519 = if j407 = 0 then (-1) else o2) → sj_G X S (cl + 1 + 1) (sl + 6 + 6) [some (.ref (g 141)), some (.int (x)), some (.ref rq), some (.ref ra), some (.ref rn), some (.ref rt), some (.ref rp), none, none, none, none, none, none, some (.int (1)), some (.int (nI (b))), some (.int (j407)), some (.int (o1)), some (.int (o2)), some (.int (j473))] 519 [.int (j519), .int (sj_tlo m b 1)] := by
                        intro j519 h519
                        refine sj_icmp_ne C 582 522 rfl rfl dL_isSo_519 (fun c_519 => absurd (sp_tlo_j (w := 1) (by omega) hbb (fun h9 => (ho9 h9).2.1.trans (sp_oa_n hI h9).2.1.1.symm) h519) c_519) (fun c_519 => ?_)
                        refine sj_aload_n C 523 rfl dL_isSo_522 rfl rfl ?_
                        refine sj_iload C 525 rfl dL_isSo_523 rfl ?_
                        refine sj_iconstv C (2) 526 rfl dL_isSo_525 rfl ?_
                        refine sj_callW1 C 529 rfl dL_isSo_526 cw_L_187 (sj_fitO rfl rfl (show cl + 1 + 1 + 1 ≤ 300 by omega) (show sl + 6 + 6 + 6 ≤ 1800 by omega)) (tc_oath _ hW hI (k := b) (w := 2) (by omega) (by omega)) rfl rfl rfl ⟨rfl, rfl⟩ ?_
                        refine sj_iload C 531 rfl dL_isSo_529 rfl ?_
                        have cut_546 : ∀ j546 : Int32, (j546 = if j407 = 0 then (-1) else sj_oa m b 2) → sj_G X S (cl + 1 + 1 + 1) (sl + 6 + 6 + 6) [some (.ref (g 141)), some (.int (x)), some (.ref rq), some (.ref ra), some (.ref rn), some (.ref rt), some (.ref rp), none, none, none, none, none, none, some (.int (1)), some (.int (nI (b))), some (.int (j407)), some (.int (o1)), some (.int (o2)), some (.int (j473))] 546 [.int (j546), .int (sj_tlo m b 2)] := by
                          intro j546 h546
                          refine sj_icmp_ne C 582 549 rfl rfl dL_isSo_546 (fun c_546 => absurd (sp_tlo_j (w := 2) (by omega) hbb (fun _ => rfl) h546) c_546) (fun c_546 => ?_)
                          refine sj_aload_n C 550 rfl dL_isSo_549 rfl rfl ?_
                          refine sj_iload C 552 rfl dL_isSo_550 rfl ?_
                          refine sj_iconstv C (3) 553 rfl dL_isSo_552 rfl ?_
                          refine sj_callW1 C 556 rfl dL_isSo_553 cw_L_187 (sj_fitO rfl rfl (show cl + 1 + 1 + 1 + 1 ≤ 300 by omega) (show sl + 6 + 6 + 6 + 6 ≤ 1800 by omega)) (tc_oath _ hW hI (k := b) (w := 3) (by omega) (by omega)) rfl rfl rfl ⟨rfl, rfl⟩ ?_
                          refine sj_iload C 558 rfl dL_isSo_556 rfl ?_
                          have cut_575 : ∀ j575 : Int32, (((¬ j407 = 0) ∧ (j473 = 0) ∧ j575 = 0) ∨ ((¬ j407 = 0) ∧ (¬ j473 = 0) ∧ j575 = 1) ∨ ((j407 = 0) ∧ j575 = (-1))) → sj_G X S (cl + 1 + 1 + 1 + 1) (sl + 6 + 6 + 6 + 6) [some (.ref (g 141)), some (.int (x)), some (.ref rq), some (.ref ra), some (.ref rn), some (.ref rt), some (.ref rp), none, none, none, none, none, none, some (.int (1)), some (.int (nI (b))), some (.int (j407)), some (.int (o1)), some (.int (o2)), some (.int (j473))] 575 [.int (j575), .int (sj_tlo m b 3)] := by
                            intro j575 h575
                            refine sj_icmp_ne C 582 578 rfl rfl dL_isSo_575 (fun c_575 => absurd (sp_tlo_3 hbb e473 h575) c_575) (fun c_575 => ?_)
                            refine sj_iconstv C (1) 579 rfl dL_isSo_578 rfl ?_
                            refine sj_goto C 583 rfl dL_isSo_579 ?_
                            refine sj_istore_13 C 585 rfl dL_isSo_583 rfl rfl ?_
                            refine sj_iload C 587 rfl dL_isSo_585 rfl ?_
                            refine sj_if_eq C 641 590 rfl rfl dL_isSo_587 (fun c_587 => absurd c_587 (by decide)) (fun c_587 => ?_)
                            refine sj_aload_n C 591 rfl dL_isSo_590 rfl rfl ?_
                            refine sj_bipush C (9) 593 rfl dL_isSo_591 (by decide) ?_
                            refine sj_iald C 594 rfl dL_isSo_593 kd_rq (sp_vp (i := 9) il_rq (by omega) (by omega)) ?_
                            rw [show Int32.toNatClampNeg 9 = 9 from rfl]
                            rw [hq9]
                            refine sj_if_eq C 637 597 rfl rfl dL_isSo_594 (fun c_594 => ?_) (fun c_594 => ?_)
                            · refine sj_iconstv C (1) 638 rfl dL_isSo_637 rfl ?_
                              refine sj_goto C 642 rfl dL_isSo_638 ?_
                              refine sj_zret C hR rfl rfl (sp_fit2 (show cl + 1 + 1 + 1 + 1 ≤ 300 by omega) (show sl + 6 + 6 + 6 + 6 ≤ 1800 by omega)) dL_isSo_642 ?_
                              exact ⟨rfl, rfl⟩
                            · have h0n : 0 < sj_tn (m 9) := Nat.pos_of_ne_zero (fun h9 => c_594 (by rw [h9]; rfl))
                              refine sj_aload_n C 598 rfl dL_isSo_597 rfl rfl ?_
                              refine sj_iload_n C 599 rfl dL_isSo_598 rfl rfl ?_
                              refine sj_iconstv C (5) 600 rfl dL_isSo_599 rfl ?_
                              refine sj_ishr C 601 rfl dL_isSo_600 ?_
                              refine sj_aload_n C 602 rfl dL_isSo_601 rfl rfl ?_
                              refine sj_bipush C (9) 604 rfl dL_isSo_602 (by decide) ?_
                              refine sj_iald C 605 rfl dL_isSo_604 kd_rq (sp_vp (i := 9) il_rq (by omega) (by omega)) ?_
                              rw [show Int32.toNatClampNeg 9 = 9 from rfl]
                              rw [hq9]
                              refine sj_callSd C 608 rfl dL_isSo_605 cv_L_85 (sj_fitO rfl rfl (show cl + 1 + 1 + 1 + 1 + 0 ≤ 300 by omega) (show sl + 6 + 6 + 6 + 6 + 0 ≤ 1800 by omega)) (ct_L_low _ _ _ _ (sp_nne (by omega) (by omega))) rfl rfl rfl ⟨rfl, rfl⟩ ?_
                              obtain ⟨si, hsi, esi⟩ := sp_low_in (x >>> (5 &&& 31)) (n := sj_tn (m 9)) (by omega) (by omega)
                              rw [show sp_low (x >>> (5 &&& 31)) (nI (sj_tn (m 9))) = nI si from esi]
                              refine sj_iload_n C 609 rfl dL_isSo_608 rfl rfl ?_
                              refine sj_bipush C (9) 611 rfl dL_isSo_609 (by decide) ?_
                              refine sj_ishr C 612 rfl dL_isSo_611 ?_
                              refine sj_aload_n C 613 rfl dL_isSo_612 rfl rfl ?_
                              refine sj_bipush C (9) 615 rfl dL_isSo_613 (by decide) ?_
                              refine sj_iald C 616 rfl dL_isSo_615 kd_rq (sp_vp (i := 9) il_rq (by omega) (by omega)) ?_
                              rw [show Int32.toNatClampNeg 9 = 9 from rfl]
                              rw [hq9]
                              refine sj_callSd C 619 rfl dL_isSo_616 cv_L_85 (sj_fitO rfl rfl (show cl + 1 + 1 + 1 + 1 + 0 ≤ 300 by omega) (show sl + 6 + 6 + 6 + 6 + 0 ≤ 1800 by omega)) (ct_L_low _ _ _ _ (sp_nne (by omega) (by omega))) rfl rfl rfl ⟨rfl, rfl⟩ ?_
                              obtain ⟨se, hse, ese⟩ := sp_low_in (x >>> (9 &&& 31)) (n := sj_tn (m 9)) (by omega) (by omega)
                              rw [show sp_low (x >>> (9 &&& 31)) (nI (sj_tn (m 9))) = nI se from ese]
                              refine sj_iload_n C 620 rfl dL_isSo_619 rfl rfl ?_
                              refine sj_bipush C (12) 622 rfl dL_isSo_620 (by decide) ?_
                              refine sj_ishr C 623 rfl dL_isSo_622 ?_
                              refine sj_aload_n C 624 rfl dL_isSo_623 rfl rfl ?_
                              refine sj_aload_n C 625 rfl dL_isSo_624 rfl rfl ?_
                              refine sj_aload C 627 rfl dL_isSo_625 rfl ?_
                              refine sj_aload C 629 rfl dL_isSo_627 rfl ?_
                              refine sj_aload C 631 rfl dL_isSo_629 rfl ?_
                              refine sj_callS C 634 rfl dL_isSo_631 cn_L_189 (sj_fitO rfl rfl (show cl + 1 + 1 + 1 + 1 + 80 ≤ 300 by omega) (show sl + 6 + 6 + 6 + 6 + 480 ≤ 1800 by omega)) (ct_L_isSheet _ hW hI huc h hsi hse _) rfl rfl rfl (fun v9 S9 hp9 => ?_)
                              obtain ⟨rfl, e99⟩ := hp9
                              rw [e99]
                              show sj_G X S (cl + 1 + 1 + 1 + 1 + 80) (sl + 6 + 6 + 6 + 6 + 480) [some (.ref (g 141)), some (.int (x)), some (.ref rq), some (.ref ra), some (.ref rn), some (.ref rt), some (.ref rp), none, none, none, none, none, none, some (.int (1)), some (.int (nI (b))), some (.int (j407)), some (.int (o1)), some (.int (o2)), some (.int (j473))] 634 [.int (1)]
                              refine sj_if_eq C 641 637 rfl rfl dL_isSo_634 (fun c_634 => absurd c_634 (by decide)) (fun c_634 => ?_)
                              refine sj_iconstv C (1) 638 rfl dL_isSo_637 rfl ?_
                              refine sj_goto C 642 rfl dL_isSo_638 ?_
                              refine sj_zret C hR rfl rfl (sp_fit2 (show cl + 1 + 1 + 1 + 1 + 80 ≤ 300 by omega) (show sl + 6 + 6 + 6 + 6 + 480 ≤ 1800 by omega)) dL_isSo_642 ?_
                              exact ⟨rfl, rfl⟩
                          refine sj_if_ne C 565 561 rfl rfl dL_isSo_558 (fun c_558 => ?_) (fun c_558 => ?_)
                          · refine sj_iload C 567 rfl dL_isSo_565 rfl ?_
                            refine sj_if_eq C 574 570 rfl rfl dL_isSo_567 (fun c_567 => ?_) (fun c_567 => ?_)
                            · refine sj_iconstv C (0) 575 rfl dL_isSo_574 rfl ?_
                              exact cut_575 _  (Or.inl ⟨c_558, c_567, rfl⟩)
                            · refine sj_iconstv C (1) 571 rfl dL_isSo_570 rfl ?_
                              refine sj_goto C 575 rfl dL_isSo_571 ?_
                              exact cut_575 _  (Or.inr (Or.inl ⟨c_558, c_567, rfl⟩))
                          · refine sj_iconstv C (-1) 562 rfl dL_isSo_561 rfl ?_
                            refine sj_goto C 575 rfl dL_isSo_562 ?_
                            exact cut_575 _  (Or.inr (Or.inr (⟨c_558, rfl⟩)))
                        refine sj_if_eq C 545 534 rfl rfl dL_isSo_531 (fun c_531 => ?_) (fun c_531 => ?_)
                        · refine sj_iconstv C (-1) 546 rfl dL_isSo_545 rfl ?_
                          exact cut_546 _  ((if_pos c_531).symm)
                        · have hb9 : b < sj_tn (m 10) := hbb.1 c_531
                          refine sj_aload C 536 rfl dL_isSo_534 rfl ?_
                          refine sj_iload C 538 rfl dL_isSo_536 rfl ?_
                          refine sj_iald C 539 rfl dL_isSo_538 kd_rp (sp_vp il_rp (by omega) (by omega)) ?_
                          rw [nI_clamp (by omega)]
                          refine sj_bipush C (8) 541 rfl dL_isSo_539 (by decide) ?_
                          refine sj_ishr C 542 rfl dL_isSo_541 ?_
                          rw [(ho9 hb9).2.2]
                          refine sj_goto C 546 rfl dL_isSo_542 ?_
                          exact cut_546 _  ((if_neg c_531).symm)
                      refine sj_if_eq C 518 513 rfl rfl dL_isSo_510 (fun c_510 => ?_) (fun c_510 => ?_)
                      · refine sj_iconstv C (-1) 519 rfl dL_isSo_518 rfl ?_
                        exact cut_519 _  ((if_pos c_510).symm)
                      · refine sj_iload C 515 rfl dL_isSo_513 rfl ?_
                        refine sj_goto C 519 rfl dL_isSo_515 ?_
                        exact cut_519 _  ((if_neg c_510).symm)
                    refine sj_if_eq C 497 492 rfl rfl dL_isSo_489 (fun c_489 => ?_) (fun c_489 => ?_)
                    · refine sj_iconstv C (-1) 498 rfl dL_isSo_497 rfl ?_
                      exact cut_498 _  ((if_pos c_489).symm)
                    · refine sj_iload C 494 rfl dL_isSo_492 rfl ?_
                      refine sj_goto C 498 rfl dL_isSo_494 ?_
                      exact cut_498 _  ((if_neg c_489).symm)
                  refine sj_if_eq C 472 436 rfl rfl dL_isSo_433 (fun c_433 => ?_) (fun c_433 => ?_)
                  · refine sj_iconstv C (0) 473 rfl dL_isSo_472 rfl ?_
                    exact cut_473 _  (Or.inl ⟨c_433, rfl⟩)
                  · have hb9 : b < sj_tn (m 10) := hbb.1 c_433
                    refine sj_aload C 438 rfl dL_isSo_436 rfl ?_
                    refine sj_iload C 440 rfl dL_isSo_438 rfl ?_
                    refine sj_iald C 441 rfl dL_isSo_440 kd_rp (sp_vp il_rp (by omega) (by omega)) ?_
                    rw [nI_clamp (by omega)]
                    refine sj_bipush C (8) 443 rfl dL_isSo_441 (by decide) ?_
                    refine sj_ishr C 444 rfl dL_isSo_443 ?_
                    rw [(ho9 hb9).2.2]
                    refine sj_iconstv C (1) 445 rfl dL_isSo_444 rfl ?_
                    refine sj_icmp_ne C 472 448 rfl rfl dL_isSo_445 (fun c_445 => ?_) (fun c_445 => ?_)
                    · refine sj_iconstv C (0) 473 rfl dL_isSo_472 rfl ?_
                      exact cut_473 _  (Or.inr (Or.inl ⟨c_433, c_445, rfl⟩))
                    · refine sj_iload C 450 rfl dL_isSo_448 rfl ?_
                      refine sj_iload C 452 rfl dL_isSo_450 rfl ?_
                      refine sj_iconstv C (-1) 453 rfl dL_isSo_452 rfl ?_
                      refine sj_iconstv C (-1) 454 rfl dL_isSo_453 rfl ?_
                      refine sj_aload_n C 455 rfl dL_isSo_454 rfl rfl ?_
                      refine sj_aload C 457 rfl dL_isSo_455 rfl ?_
                      refine sj_callSd C 460 rfl dL_isSo_457 cv_L_119 (sj_fitO rfl rfl (show cl + 0 ≤ 300 by omega) (show sl + 0 ≤ 1800 by omega)) (show sj_Ctr _ mL_handOf [.int o1, .int (nI b), .int (-1), .int (-1), .ref rq, .ref rp] S (sj_eq (some (.int (nI (sp_hd m (nI b) (sj_tn (sj_oa m b 0)))))) S) from by rw [(ho9 hb9).1]; exact ct_L_handOf _ h hI (hv.2.2 b hb9).1.2 (nI b)) rfl rfl rfl ⟨rfl, rfl⟩ ?_
                      refine sj_iload C 462 rfl dL_isSo_460 rfl ?_
                      refine sj_ishr C 463 rfl dL_isSo_462 ?_
                      refine sj_iconstv C (1) 464 rfl dL_isSo_463 rfl ?_
                      refine sj_iand C 465 rfl dL_isSo_464 ?_
                      rw [show (nI (sp_hd m (nI b) (sj_tn (sj_oa m b 0))) >>> (o2 &&& 31)) &&& 1 = sj_bi ((sp_hd m (nI b) (sj_tn (sj_oa m b 0))).testBit (sj_tn (sj_oa m b 1))) from by rw [(ho9 hb9).2.1]; exact sp_bit _ (sp_hd_lt hv (nI b) (hv.2.2 b hb9).1.2) _ (by have := (hv.2.2 b hb9).2.1.2; omega)]
                      refine sj_if_ne C 472 468 rfl rfl dL_isSo_465 (fun c_465 => ?_) (fun c_465 => ?_)
                      · refine sj_iconstv C (0) 473 rfl dL_isSo_472 rfl ?_
                        exact cut_473 _  (Or.inr (Or.inr (Or.inl ⟨c_433, c_445, c_465, rfl⟩)))
                      · refine sj_iconstv C (1) 469 rfl dL_isSo_468 rfl ?_
                        refine sj_goto C 473 rfl dL_isSo_469 ?_
                        exact cut_473 _  (Or.inr (Or.inr (Or.inr (⟨c_433, c_445, c_465, rfl⟩))))
                refine sj_icmp_ge C 406 402 rfl rfl dL_isSo_399 (fun c_399 => ?_) (fun c_399 => ?_)
                · refine sj_iconstv C (0) 407 rfl dL_isSo_406 rfl ?_
                  exact cut_407 _  ((if_pos c_399).symm)
                · refine sj_iconstv C (1) 403 rfl dL_isSo_402 rfl ?_
                  refine sj_goto C 407 rfl dL_isSo_403 ?_
                  exact cut_407 _  ((if_neg c_399).symm)
              · have hlu : u < 9 := Nat.not_le.mp fun h9 => c_344 (nI_le (a := 9) h9 (by omega))
                refine sj_iload C 349 rfl dL_isSo_347 rfl ?_
                refine sj_if_eq C 372 352 rfl rfl dL_isSo_349 (fun c_349 => absurd c_349 (by decide)) (fun c_349 => ?_)
                refine sj_aload_n C 353 rfl dL_isSo_352 rfl rfl ?_
                refine sj_bipush C (8) 355 rfl dL_isSo_353 (by decide) ?_
                refine sj_iload C 357 rfl dL_isSo_355 rfl ?_
                refine sj_iadd C 358 rfl dL_isSo_357 ?_
                rw [show 8 + nI (u) = nI (8 + u) from nI_add 8 u]
                refine sj_callW1 C 361 rfl dL_isSo_358 cw_L_181 (sj_fitO rfl rfl (show cl + 1 ≤ 300 by omega) (show sl + 6 ≤ 1800 by omega)) (tc_count _ hW hI (w := 8 + u) (by omega)) rfl rfl rfl ⟨rfl, rfl⟩ ?_
                refine sj_aload_n C 362 rfl dL_isSo_361 rfl rfl ?_
                refine sj_iload C 364 rfl dL_isSo_362 rfl ?_
                refine sj_iald C 365 rfl dL_isSo_364 kd_rq (sp_vp il_rq (by omega) (by omega)) ?_
                rw [nI_clamp (by omega)]
                rw [hq u (by omega)]
                refine sj_icmp_ne C 372 368 rfl rfl dL_isSo_365 (fun c_365 => absurd (by rw [sj_tc_hi m 0 (by omega) (by omega), Nat.add_sub_cancel_left]) c_365) (fun c_365 => ?_)
                refine sj_iconstv C (1) 369 rfl dL_isSo_368 rfl ?_
                refine sj_goto C 373 rfl dL_isSo_369 ?_
                refine sj_istore_13 C 375 rfl dL_isSo_373 rfl rfl ?_
                refine sj_iinc_14 C 378 rfl dL_isSo_375 rfl rfl ?_
                rw [show nI (u) + Int32.ofInt 1 = nI (u + 1) from nI_add _ _]
                refine sj_goto C 340 rfl dL_isSo_378 ?_
                exact ih_340 (hlu) _ _ (by omega) (by omega)
            refine sj_iconstv C (0) 338 rfl dL_isSo_337 rfl ?_
            refine sj_istore_14 C 340 rfl dL_isSo_338 rfl rfl ?_
            refine sj_for [some (.ref (g 141)), some (.int (x)), some (.ref rq), some (.ref ra), some (.ref rn), some (.ref rt), some (.ref rp), none, none, none, none, none, none, some (.int (1)), some (.int (0)), none, none, none, none] (show _ ∧ _ ∧ _ ∧ _ ∧ _ ∧ _ ∧ _ ∧ _ ∧ _ ∧ True from ⟨rfl, rfl, rfl, rfl, rfl, rfl, rfl, rfl, rfl, trivial⟩) ?_
            exact cut_340 _ _ (by omega) (by omega)
          refine sj_if_ne C 316 312 rfl rfl dL_isSo_309 (fun c_309 => ?_) (fun c_309 => ?_)
          · refine sj_iload C 318 rfl dL_isSo_316 rfl ?_
            refine sj_i2d C 319 rfl dL_isSo_318 ?_
            refine sj_bipush C (6) 321 rfl dL_isSo_319 (by decide) ?_
            refine sj_iload C 323 rfl dL_isSo_321 rfl ?_
            refine sj_imul C 324 rfl dL_isSo_323 ?_
            refine sj_i2d C 325 rfl dL_isSo_324 ?_
            refine sj_ddiv C 326 rfl dL_isSo_325 (by rw [e_x11, sp_psS hI, e_x12, sp_psP hI]; exact sj_shok_n (sj_sh_d hn8 (fun h9 => c_309 ((e_x12.trans (sp_psP hI)).trans h9)))) ?_
            exact cut_326 _  ((if_neg c_309).symm)
          · refine sj_dconst1 C 313 rfl dL_isSo_312 ?_
            refine sj_goto C 326 rfl dL_isSo_313 ?_
            exact cut_326 _  ((if_pos c_309).symm)
        · have hlt : k < sj_tn (m 9) := Nat.not_le.mp fun h9 => c_58 (nI_le (a := sj_tn (m 9)) h9 (by omega))
          refine sj_iload C 63 rfl dL_isSo_61 rfl ?_
          refine sj_iconstv C (-1) 64 rfl dL_isSo_63 rfl ?_
          refine sj_iconstv C (-1) 65 rfl dL_isSo_64 rfl ?_
          refine sj_iconstv C (-1) 66 rfl dL_isSo_65 rfl ?_
          refine sj_aload_n C 67 rfl dL_isSo_66 rfl rfl ?_
          refine sj_aload C 69 rfl dL_isSo_67 rfl ?_
          refine sj_callSd C 72 rfl dL_isSo_69 cv_L_119 (sj_fitO rfl rfl (show 0 + 0 ≤ 300 by omega) (show 0 + 0 ≤ 1800 by omega)) (ct_L_handOf _ h hI (i := k) hlt (-1)) rfl rfl rfl ⟨rfl, rfl⟩ ?_
          refine sj_istore_14 C 74 rfl dL_isSo_72 rfl rfl ?_
          refine sj_iload C 76 rfl dL_isSo_74 rfl ?_
          refine sj_callSd C 79 rfl dL_isSo_76 cv_L_131 (sj_fitO rfl rfl (show 0 + 0 ≤ 300 by omega) (show 0 + 0 ≤ 1800 by omega)) (ct_L_ones_h _ _ hv hlt) rfl rfl rfl ⟨rfl, rfl⟩ ?_
          refine sj_iload C 81 rfl dL_isSo_79 rfl ?_
          have cut_94 : ∀ j94 : Int32, (j94 = if (sq_mem m k) ≤ x8 then x8 else sq_mem m k) → sj_G X S 0 0 [some (.ref (g 141)), some (.int (x)), some (.ref rq), some (.ref ra), some (.ref rn), some (.ref rt), some (.ref rp), some (.int (x7)), some (.int (x8)), some (.int (x9)), some (.int (x10)), some (.int (x11)), some (.int (x12)), some (.int (nI (k))), some (.int (nI (sp_hd m (-1) k))), none, none, none, none] 94 [.int (j94)] := by
            intro j94 h94
            refine sj_istore_8 C 96 rfl dL_isSo_94 rfl rfl ?_
            refine sj_iload C 98 rfl dL_isSo_96 rfl ?_
            refine sj_iload C 100 rfl dL_isSo_98 rfl ?_
            refine sj_aload_n C 101 rfl dL_isSo_100 rfl rfl ?_
            refine sj_aload C 103 rfl dL_isSo_101 rfl ?_
            refine sj_aload C 105 rfl dL_isSo_103 rfl ?_
            refine sj_callSd C 108 rfl dL_isSo_105 cv_L_123 (sj_fitO rfl rfl (show 0 + 0 ≤ 300 by omega) (show 0 + 0 ≤ 1800 by omega)) (ct_L_trembles _ h hI (i := k) hlt) rfl rfl rfl ⟨rfl, rfl⟩ ?_
            have cut_116 : ∀ j116 : Int32, (j116 = if (sj_bi (sj_trm m k)) = 0 then 0 else 1) → sj_G X S 0 0 [some (.ref (g 141)), some (.int (x)), some (.ref rq), some (.ref ra), some (.ref rn), some (.ref rt), some (.ref rp), some (.int (x7)), some (.int (j94)), some (.int (x9)), some (.int (x10)), some (.int (x11)), some (.int (x12)), some (.int (nI (k))), some (.int (nI (sp_hd m (-1) k))), none, none, none, none] 116 [.int (j116), .int (x9)] := by
              intro j116 h116
              refine sj_iadd C 117 rfl dL_isSo_116 ?_
              refine sj_istore_9 C 119 rfl dL_isSo_117 rfl rfl ?_
              refine sj_iload C 121 rfl dL_isSo_119 rfl ?_
              refine sj_iconstv C (1) 122 rfl dL_isSo_121 rfl ?_
              refine sj_iadd C 123 rfl dL_isSo_122 ?_
              rw [show nI (k) + 1 = nI (k + 1) from nI_add k 1]
              have cut_125 : ∀ y10 y11 y12 : Int32, (y10 = x10 + sj_sum (fun t => sp_fA m k (k + 1 + t)) 0) → (y11 = x11 + sj_sum (fun t => sp_fS m k (k + 1 + t)) 0) → (y12 = x12 + sj_sum (fun t => sp_fP m k (k + 1 + t)) 0) → (k < sj_tn (m 9)) → sj_G X S 0 0 [some (.ref (g 141)), some (.int (x)), some (.ref rq), some (.ref ra), some (.ref rn), some (.ref rt), some (.ref rp), some (.int (x7)), some (.int (j94)), some (.int (x9 + j116)), some (.int (y10)), some (.int (y11)), some (.int (y12)), some (.int (nI (k))), some (.int (nI (sp_hd m (-1) k))), some (.int (nI (k + 1 + 0))), none, none, none] 125 [] := by
                refine sj_down (fun t => ∀ y10 y11 y12 : Int32, (y10 = x10 + sj_sum (fun t => sp_fA m k (k + 1 + t)) t) → (y11 = x11 + sj_sum (fun t => sp_fS m k (k + 1 + t)) t) → (y12 = x12 + sj_sum (fun t => sp_fP m k (k + 1 + t)) t) → (k < sj_tn (m 9)) → sj_G X S 0 0 [some (.ref (g 141)), some (.int (x)), some (.ref rq), some (.ref ra), some (.ref rn), some (.ref rt), some (.ref rp), some (.int (x7)), some (.int (j94)), some (.int (x9 + j116)), some (.int (y10)), some (.int (y11)), some (.int (y12)), some (.int (nI (k))), some (.int (nI (sp_hd m (-1) k))), some (.int (nI (k + 1 + t))), none, none, none] 125 []) (sj_tn (m 9) - (k + 1)) (fun t ht ih_125 => ?_)
                intro y10 y11 y12 e_y10 e_y11 e_y12 hy125_0
                refine sj_iload C 127 rfl dL_isSo_125 rfl ?_
                refine sj_aload_n C 128 rfl dL_isSo_127 rfl rfl ?_
                refine sj_bipush C (9) 130 rfl dL_isSo_128 (by decide) ?_
                refine sj_iald C 131 rfl dL_isSo_130 kd_rq (sp_vp (i := 9) il_rq (by omega) (by omega)) ?_
                rw [show Int32.toNatClampNeg 9 = 9 from rfl]
                rw [hq9]
                refine sj_icmp_ge C 205 134 rfl rfl dL_isSo_131 (fun c_131 => ?_) (fun c_131 => ?_)
                · have htn : t = sj_tn (m 9) - (k + 1) := by
                    have h99 : ¬ k + 1 + t < sj_tn (m 9) := fun h9 => nI_ge h9 (by omega) c_131
                    omega
                  subst htn
                  refine sj_iinc_13 C 208 rfl dL_isSo_205 rfl rfl ?_
                  rw [show nI (k) + Int32.ofInt 1 = nI (k + 1) from nI_add _ _]
                  refine sj_goto C 52 rfl dL_isSo_208 ?_
                  refine sj_for [some (.ref (g 141)), some (.int (x)), some (.ref rq), some (.ref ra), some (.ref rn), some (.ref rt), some (.ref rp), some (.int (x7)), some (.int (j94)), some (.int (x9 + j116)), some (.int (y10)), some (.int (y11)), some (.int (y12)), some (.int (nI (k + 1))), none, none, none, none, none] (show _ ∧ _ ∧ _ ∧ _ ∧ _ ∧ _ ∧ _ ∧ _ ∧ _ ∧ _ ∧ _ ∧ _ ∧ _ ∧ _ ∧ True from ⟨rfl, rfl, rfl, rfl, rfl, rfl, rfl, rfl, rfl, rfl, rfl, rfl, rfl, rfl, trivial⟩) ?_
                  exact ih_52 (hy125_0) _ _ _ _ _ (sp_big_j e_x8 h94) (by rw [e_x9, ← sp_bij h116]; rfl) (by rw [e_y10, e_x10]; rfl) (by rw [e_y11, e_x11]; rfl) (by rw [e_y12, e_x12]; rfl)
                · have hle : k + 1 + t < sj_tn (m 9) := Nat.not_le.mp fun h9 => c_131 (nI_le h9 (by omega))
                  refine sj_iload C 136 rfl dL_isSo_134 rfl ?_
                  refine sj_iload C 138 rfl dL_isSo_136 rfl ?_
                  refine sj_iconstv C (0) 139 rfl dL_isSo_138 rfl ?_
                  refine sj_aload_n C 140 rfl dL_isSo_139 rfl rfl ?_
                  refine sj_aload_n C 141 rfl dL_isSo_140 rfl rfl ?_
                  refine sj_aload C 143 rfl dL_isSo_141 rfl ?_
                  refine sj_aload C 145 rfl dL_isSo_143 rfl ?_
                  refine sj_callSd C 148 rfl dL_isSo_145 cv_L_127 (sj_fitO rfl rfl (show 0 + 0 ≤ 300 by omega) (show 0 + 0 ≤ 1800 by omega)) (ct_L_agreeing0 _ h hI (i := k) (e := k + 1 + t) hy125_0 hle) rfl rfl rfl ⟨rfl, rfl⟩ ?_
                  refine sj_callSd C 151 rfl dL_isSo_148 cv_L_131 (sj_fitO rfl rfl (show 0 + 0 ≤ 300 by omega) (show 0 + 0 ≤ 1800 by omega)) (ct_L_ones_a _ _ m k (k + 1 + t)) rfl rfl rfl ⟨rfl, rfl⟩ ?_
                  refine sj_istore_16 C 153 rfl dL_isSo_151 rfl rfl ?_
                  refine sj_iload C 155 rfl dL_isSo_153 rfl ?_
                  refine sj_iload C 157 rfl dL_isSo_155 rfl ?_
                  refine sj_aload_n C 158 rfl dL_isSo_157 rfl rfl ?_
                  refine sj_bipush C (8) 160 rfl dL_isSo_158 (by decide) ?_
                  refine sj_iald C 161 rfl dL_isSo_160 kd_rq (sp_vp (i := 8) il_rq (by omega) (by omega)) ?_
                  rw [show Int32.toNatClampNeg 8 = 8 from rfl]
                  rw [hq 8 (by omega)]
                  have cut_169 : ∀ j169 : Int32, (j169 = if (sj_lik m k (k + 1 + t)) < (m 8) then 0 else 1) → sj_G X S 0 0 [some (.ref (g 141)), some (.int (x)), some (.ref rq), some (.ref ra), some (.ref rn), some (.ref rt), some (.ref rp), some (.int (x7)), some (.int (j94)), some (.int (x9 + j116)), some (.int (y10)), some (.int (y11)), some (.int (y12)), some (.int (nI (k))), some (.int (nI (sp_hd m (-1) k))), some (.int (nI (k + 1 + t))), some (.int (sj_lik m k (k + 1 + t))), none, none] 169 [.int (j169), .int (y10)] := by
                    intro j169 h169
                    refine sj_iadd C 170 rfl dL_isSo_169 ?_
                    refine sj_istore_10 C 172 rfl dL_isSo_170 rfl rfl ?_
                    refine sj_iload C 174 rfl dL_isSo_172 rfl ?_
                    refine sj_iload C 176 rfl dL_isSo_174 rfl ?_
                    refine sj_iload C 178 rfl dL_isSo_176 rfl ?_
                    refine sj_ishr C 179 rfl dL_isSo_178 ?_
                    refine sj_iconstv C (1) 180 rfl dL_isSo_179 rfl ?_
                    refine sj_iand C 181 rfl dL_isSo_180 ?_
                    rw [sp_bit _ (sp_hd_lt hv (-1) hy125_0) (k + 1 + t) (by omega), sp_hd_in hv (-1) hy125_0 hle]
                    refine sj_iload C 183 rfl dL_isSo_181 rfl ?_
                    refine sj_imul C 184 rfl dL_isSo_183 ?_
                    refine sj_iadd C 185 rfl dL_isSo_184 ?_
                    refine sj_istore_11 C 187 rfl dL_isSo_185 rfl rfl ?_
                    refine sj_iload C 189 rfl dL_isSo_187 rfl ?_
                    refine sj_iload C 191 rfl dL_isSo_189 rfl ?_
                    refine sj_iload C 193 rfl dL_isSo_191 rfl ?_
                    refine sj_ishr C 194 rfl dL_isSo_193 ?_
                    refine sj_iconstv C (1) 195 rfl dL_isSo_194 rfl ?_
                    refine sj_iand C 196 rfl dL_isSo_195 ?_
                    rw [sp_bit _ (sp_hd_lt hv (-1) hy125_0) (k + 1 + t) (by omega), sp_hd_in hv (-1) hy125_0 hle]
                    refine sj_iadd C 197 rfl dL_isSo_196 ?_
                    refine sj_istore_12 C 199 rfl dL_isSo_197 rfl rfl ?_
                    refine sj_iinc_15 C 202 rfl dL_isSo_199 rfl rfl ?_
                    rw [show nI (k + 1 + t) + Int32.ofInt 1 = nI ((k + 1 + t) + 1) from nI_add _ _]
                    refine sj_goto C 125 rfl dL_isSo_202 ?_
                    refine sj_for [some (.ref (g 141)), some (.int (x)), some (.ref rq), some (.ref ra), some (.ref rn), some (.ref rt), some (.ref rp), some (.int (x7)), some (.int (j94)), some (.int (x9 + j116)), some (.int (y10 + j169)), some (.int (y11 + ((sj_bi (decide (sj_hH m (-1) k = sj_hH m (-1) (k + 1 + t)))) * (sj_lik m k (k + 1 + t))))), some (.int (y12 + (sj_bi (decide (sj_hH m (-1) k = sj_hH m (-1) (k + 1 + t)))))), some (.int (nI (k))), some (.int (nI (sp_hd m (-1) k))), some (.int (nI ((k + 1 + t) + 1))), none, none, none] (show _ ∧ _ ∧ _ ∧ _ ∧ _ ∧ _ ∧ _ ∧ _ ∧ _ ∧ _ ∧ _ ∧ _ ∧ _ ∧ _ ∧ _ ∧ _ ∧ True from ⟨rfl, rfl, rfl, rfl, rfl, rfl, rfl, rfl, rfl, rfl, rfl, rfl, rfl, rfl, rfl, rfl, trivial⟩) ?_
                    exact ih_125 (by omega) _ _ _ (by rw [e_y10, sp_fA_j h169, Int32.add_assoc]; rfl) (by rw [e_y11, sp_fS_j, Int32.add_assoc]; rfl) (by rw [e_y12, Int32.add_assoc]; rfl) (hy125_0)
                  refine sj_icmp_lt C 168 164 rfl rfl dL_isSo_161 (fun c_161 => ?_) (fun c_161 => ?_)
                  · refine sj_iconstv C (0) 169 rfl dL_isSo_168 rfl ?_
                    exact cut_169 _  ((if_pos c_161).symm)
                  · refine sj_iconstv C (1) 165 rfl dL_isSo_164 rfl ?_
                    refine sj_goto C 169 rfl dL_isSo_165 ?_
                    exact cut_169 _  ((if_neg c_161).symm)
              refine sj_istore_15 C 125 rfl dL_isSo_123 rfl rfl ?_
              exact cut_125 _ _ _ ((Int32.add_zero _).symm) ((Int32.add_zero _).symm) ((Int32.add_zero _).symm) (hlt)
            refine sj_if_eq C 115 111 rfl rfl dL_isSo_108 (fun c_108 => ?_) (fun c_108 => ?_)
            · refine sj_iconstv C (0) 116 rfl dL_isSo_115 rfl ?_
              exact cut_116 _  ((if_pos c_108).symm)
            · refine sj_iconstv C (1) 112 rfl dL_isSo_111 rfl ?_
              refine sj_goto C 116 rfl dL_isSo_112 ?_
              exact cut_116 _  ((if_neg c_108).symm)
          refine sj_icmp_le C 92 84 rfl rfl dL_isSo_81 (fun c_81 => ?_) (fun c_81 => ?_)
          · refine sj_iload C 94 rfl dL_isSo_92 rfl ?_
            exact cut_94 _  ((if_pos c_81).symm)
          · refine sj_iload C 86 rfl dL_isSo_84 rfl ?_
            refine sj_callSd C 89 rfl dL_isSo_86 cv_L_131 (sj_fitO rfl rfl (show 0 + 0 ≤ 300 by omega) (show 0 + 0 ≤ 1800 by omega)) (ct_L_ones_h _ _ hv hlt) rfl rfl rfl ⟨rfl, rfl⟩ ?_
            refine sj_goto C 94 rfl dL_isSo_89 ?_
            exact cut_94 _  ((if_neg c_81).symm)
      refine sj_iconstv C (0) 50 rfl dL_isSo_49 rfl ?_
      refine sj_istore_13 C 52 rfl dL_isSo_50 rfl rfl ?_
      exact cut_52 _ _ _ _ _ (rfl) (rfl) (rfl) (rfl) (rfl)
    · have hlt : k < sj_tn (m 10) := Nat.not_le.mp fun h9 => c_27 (nI_le (a := sj_tn (m 10)) h9 (by omega))
      refine sj_iload C 32 rfl dL_isSo_30 rfl ?_
      refine sj_aload C 34 rfl dL_isSo_32 rfl ?_
      refine sj_iload C 36 rfl dL_isSo_34 rfl ?_
      refine sj_iald C 37 rfl dL_isSo_36 kd_rp (sp_vp il_rp (by omega) (by omega)) ?_
      rw [nI_clamp (by omega)]
      rw [hp k hlt]
      refine sj_bipush C (8) 39 rfl dL_isSo_37 (by decide) ?_
      refine sj_ishr C 40 rfl dL_isSo_39 ?_
      rw [sp_pn_2 hI hlt]
      refine sj_iadd C 41 rfl dL_isSo_40 ?_
      refine sj_istore_7 C 43 rfl dL_isSo_41 rfl rfl ?_
      refine sj_iinc_13 C 46 rfl dL_isSo_43 rfl rfl ?_
      rw [show nI (k) + Int32.ofInt 1 = nI (k + 1) from nI_add _ _]
      refine sj_goto C 21 rfl dL_isSo_46 ?_
      exact ih_21 (hlt) _ (by rw [e_x7]; rfl)
  refine sj_iconstv C (0) 19 rfl dL_isSo_18 rfl ?_
  refine sj_istore_13 C 21 rfl dL_isSo_19 rfl rfl ?_
  exact cut_21 _ (rfl)
