/-! THE LAW: a sheet told in full -/
theorem sp_has {ns b : Nat} (h1 : ns ≤ 8) (h2 : b < 8) {j : Int32} (h : j = if nI ns ≤ nI b then 0 else 1) (hc : ¬ j = 0) : b < ns := by
  rcases Nat.lt_or_ge b ns with h3 | h3
  · exact h3
  · rw [if_pos (nI_le h3 (by omega))] at h
    exact absurd h hc
theorem sp_tst {m : Nat → Int32} {i b w : Nat} {j jw X : Int32} (h : j = if nI (sj_ns m i) ≤ nI b then 0 else 1) (hw : jw = if j = 0 then -1 else X) (hX : X = sj_os m i b w + (if w = 0 then 100 else 0)) : sj_tst m i b w = jw := by
  unfold sj_tst
  by_cases h1 : nI (sj_ns m i) ≤ nI b
  · rw [if_pos h1] at h
    rw [if_pos h1, hw, if_pos h]
  · rw [if_neg h1] at h
    rw [if_neg h1, hw, hX, if_neg (show ¬ j = 0 by rw [h]; decide)]
theorem sp_bij {b : Bool} {j : Int32} (h : j = if sj_bi b = 0 then 0 else 1) : sj_bi b = j := by
  rw [h]
  cases b <;> rfl
theorem sp_hf_j {m : Nat → Int32} {i : Nat} {j : Int32} (h : j = if sj_of m i 0 < m 6 then 0 else 1) : sj_bi (sj_hf m i) = j := by
  rw [h]
  unfold sj_hf
  by_cases h1 : sj_of m i 0 < m 6
  · rw [if_pos h1, decide_eq_false (Int32.not_le.mpr h1)]
    rfl
  · rw [if_neg h1, decide_eq_true (Int32.not_lt.mp h1)]
    rfl
theorem sp_oof_j {m : Nat → Int32} (hI : sj_inv m) {k i : Nat} (hk : k < sj_tn (m 10)) {j : Int32} (h : ((nI (sj_tn (sj_oa m k 0)) = nI i) ∧ j = 1) ∨ ((¬ nI (sj_tn (sj_oa m k 0)) = nI i) ∧ (¬ nI (sj_tn (sj_oa m k 1)) = nI i) ∧ j = 0) ∨ ((¬ nI (sj_tn (sj_oa m k 0)) = nI i) ∧ (nI (sj_tn (sj_oa m k 1)) = nI i) ∧ j = 1)) : j = sj_bi (decide (sj_oa m k 0 = nI i) || decide (sj_oa m k 1 = nI i)) := by
  obtain ⟨⟨a1, -⟩, ⟨b1, -⟩, -⟩ := sp_oa_n hI hk
  rw [← a1, ← b1] at h
  rcases h with ⟨h1, rfl⟩ | ⟨h1, h2, rfl⟩ | ⟨h1, h2, rfl⟩
  · rw [decide_eq_true h1]; rfl
  · rw [decide_eq_false h1, decide_eq_false h2]; rfl
  · rw [decide_eq_true h2, Bool.or_true]; rfl
theorem sp_lowbit {m : Nat → Int32} (hI : sj_inv m) {i : Nat} (hi : i < sj_tn (m 9)) : ((1 : Int32) <<< (sj_hH m (-1) i &&& 31)) = nI (sp_hd m (-1) i) &&& -nI (sp_hd m (-1) i) := by
  have hv := sj_inv_oav hI
  have h8 := hI.1.2
  obtain ⟨x, hx, e1, e2⟩ := sp_hH_lo hv hi
  have h := sp_lowest _ (sp_hd_lt hv (-1) hi) x (by omega)
  have hb : ((sp_hd m (-1) i).testBit x && decide (∀ y, y < x → (sp_hd m (-1) i).testBit y = false)) = true := by
    rw [Bool.and_eq_true]
    refine ⟨?_, decide_eq_true (fun y hy => ?_)⟩
    · rw [sp_hd_in hv (-1) hi (by omega)]
      exact decide_eq_true (e1.trans e2.symm)
    · rw [sp_hd_in hv (-1) hi (by omega)]
      refine decide_eq_false (fun e => ?_)
      obtain ⟨z, hz, e3, -⟩ := sp_hH_lo hv (show y < sj_tn (m 9) by omega)
      rw [e1, e3] at e
      have := (nI_eq (by omega) (by omega)).mp e
      omega
  rw [hb] at h
  rw [e1]
  exact (of_decide_eq_true h).symm
/-- the more alike of two, the former at a tie -/
def sp_cb (m : Nat → Int32) (i : Nat) : Option Nat → Option Nat → Option Nat
  | none, b => b
  | some j, none => some j
  | some j, some b => if sj_lik m i j < sj_lik m i b then some b else some j
theorem sp_cb_n (m : Nat → Int32) (i : Nat) (a : Option Nat) : sp_cb m i a none = a := by
  cases a <;> rfl
theorem sp_cb_as (m : Nat → Int32) (i : Nat) (a b c : Option Nat) : sp_cb m i (sp_cb m i a b) c = sp_cb m i a (sp_cb m i b c) := by
  cases a with
  | none => rfl
  | some x =>
    cases b with
    | none => rfl
    | some y =>
      cases c with
      | none => rw [sp_cb_n, sp_cb_n]
      | some z =>
        show sp_cb m i (if sj_lik m i x < sj_lik m i y then some y else some x) (some z) = sp_cb m i (some x) (if sj_lik m i y < sj_lik m i z then some z else some y)
        by_cases h1 : sj_lik m i x < sj_lik m i y
        · rw [if_pos h1]
          by_cases h2 : sj_lik m i y < sj_lik m i z
          · rw [if_pos h2]
            show (if sj_lik m i y < sj_lik m i z then some z else some y) = (if sj_lik m i x < sj_lik m i z then some z else some x)
            rw [if_pos h2, if_pos (Int32.lt_trans h1 h2)]
          · rw [if_neg h2]
            show (if sj_lik m i y < sj_lik m i z then some z else some y) = (if sj_lik m i x < sj_lik m i y then some y else some x)
            rw [if_neg h2, if_pos h1]
        · rw [if_neg h1]
          by_cases h2 : sj_lik m i y < sj_lik m i z
          · rw [if_pos h2]
          · rw [if_neg h2]
            show (if sj_lik m i x < sj_lik m i z then some z else some x) = (if sj_lik m i x < sj_lik m i y then some y else some x)
            rw [if_neg h1, if_neg (Int32.not_lt.mpr (Int32.le_trans (Int32.not_lt.mp h2) (Int32.not_lt.mp h1)))]
theorem sp_mal_s (m : Nat → Int32) (i k : Nat) : sj_mal m i (k + 1) = if k = i then sj_mal m i k else sp_cb m i (sj_mal m i k) (some k) := by
  show (if k = i then sj_mal m i k else match sj_mal m i k with
    | none => some k
    | some j => if sj_lik m i j < sj_lik m i k then some k else some j) = _
  by_cases h : k = i
  · rw [if_pos h, if_pos h]
  · rw [if_neg h, if_neg h]
    cases sj_mal m i k <;> rfl
theorem sp_mal_i {m : Nat → Int32} {i k : Nat} {o r : Option Nat} (h : sp_cb m i (sj_mal m i (k + 1)) o = r) (hk : k = i) : sp_cb m i (sj_mal m i k) o = r := by
  rw [sp_mal_s, if_pos hk] at h
  exact h
theorem sp_mal_k {m : Nat → Int32} {i k : Nat} {o r : Option Nat} (h : sp_cb m i (sj_mal m i (k + 1)) o = r) (hk : ¬ k = i) : sp_cb m i (sj_mal m i k) (sp_cb m i (some k) o) = r := by
  rw [sp_mal_s, if_neg hk, sp_cb_as] at h
  exact h
theorem sp_fo_in {m : Nat → Int32} {i e : Nat} (hN : sj_tn (m 10) ≤ 28) (h : 0 ≤ sj_fo m i e) : ∃ j, j < sj_tn (m 10) ∧ sj_fo m i e = nI j := by
  unfold sj_fo at h ⊢
  rcases sq_fst_in (p := sj_fp m i e) (sj_tn (m 10)) 0 with h1 | ⟨j, h1, h2, h3, h4⟩
  · rw [h1] at h
    exact absurd h (by decide)
  · exact ⟨j, by omega, h4⟩
theorem sp_too_j {m : Nat → Int32} {i e : Nat} (hN : sj_tn (m 10) ≤ 28) {j : Int32} (h : j = if 0 ≤ sj_fo m i e then sj_oa m (sj_tn (sj_fo m i e)) 2 else -1) : sj_too m i e = j := by
  rw [h]
  unfold sj_too
  by_cases h1 : sj_fo m i e = -1
  · rw [if_pos h1, if_neg (by rw [h1]; decide)]
  · rw [if_neg h1, if_pos]
    exact Int32.not_lt.mp (fun h2 => h1 ((sp_fo_lt hN).mp h2))
theorem sp_old_no {m : Nat → Int32} (hI : sj_inv m) {y : Int32} (hy : 0 ≤ y ∧ y ≤ 99) : ∀ k, k < sj_tn (m 9) → ¬ sj_old m y (k + 1) = -1
  | 0, h0, h => by
    have ha := (sj_age_ok (hI.2.2.2.1 0 h0).1 hy).1
    have e : sj_old m y 1 = if (-1 : Int32) < sj_age m y 0 then sj_age m y 0 else -1 := rfl
    rw [e, if_pos (Int32.lt_of_lt_of_le (by decide) ha)] at h
    rw [h] at ha
    exact absurd ha (by decide)
  | k + 1, hk, h => by
    have ih := sp_old_no hI hy k (by omega)
    have ha := (sj_age_ok (hI.2.2.2.1 (k + 1) hk).1 hy).1
    have e : sj_old m y (k + 2) = if sj_old m y (k + 1) < sj_age m y (k + 1) then sj_age m y (k + 1) else sj_old m y (k + 1) := rfl
    rw [e] at h
    by_cases h1 : sj_old m y (k + 1) < sj_age m y (k + 1)
    · rw [if_pos h1] at h
      rw [h] at ha
      exact absurd ha (by decide)
    · rw [if_neg h1] at h
      exact ih h
theorem sp_ifp {m : Nat → Int32} (hI : sj_inv m) {i e : Nat} (hi : i < sj_tn (m 9)) {y : Int32} (hy : 0 ≤ y ∧ y ≤ 99) : sj_ifp m i e y = sj_lik (sj_pas m y (sj_tn (m 9))) i e := by
  unfold sj_ifp
  rw [if_neg]
  have h := sp_old_no hI hy (sj_tn (m 9) - 1) (by omega)
  rw [show sj_tn (m 9) - 1 + 1 = sj_tn (m 9) by omega] at h
  exact h
theorem ct_L_tolerance0 (l : Launch) {S : sj_St} {rq ra rn rt rp : Nat} {m : Nat → Int32} (h : sp_B S rq ra rn rt rp m) (hI : sj_inv m) {i e j : Nat} (hi : i < sj_tn (m 9)) (he : e < sj_tn (m 9)) (hj : j < 6) : sj_Ctr l mL_tolerance [.int (nI i), .int (nI e), .int (nI j), .int 0, .ref rq, .ref ra, .ref rn, .ref rt] S (sj_eq (some (.int (sj_tol m i e j))) S) := by
  have h1 := ct_L_tolerance l h hI hi he hj (y := 0) ⟨by decide, by decide⟩
  rw [sj_pas0 hI] at h1
  exact h1
set_option maxRecDepth 100000 in
set_option maxHeartbeats 1500000 in
theorem ct_L_isSheet (l : Launch) {S : sj_St} {g : Nat → Nat} {m : Nat → Int32} {hs : Bool} {ms : Nat → Int32} {p q : Nat} {Q : Nat → Nat → Int32} {n : Nat} {B : Nat → Int32} (hW : sq_W S g m hs ms p q Q n B) (hI : sj_inv m) (huc : sj_uc m) {rq ra rn rt rp : Nat} (h : sp_B S rq ra rn rt rp m) {i e : Nat} (hi : i < sj_tn (m 9)) (he : e < sj_tn (m 9)) (x : Int32) : sj_Ctr l nL_isSheet [.ref (g 141), .int (nI (i)), .int (nI (e)), .int (x), .ref rq, .ref ra, .ref rn, .ref rt, .ref rp] S (sj_eq (some (.int 1)) S) := by
  refine sj_start ([some (.ref (g 141)), some (.int (nI (i))), some (.int (nI (e))), some (.int (x)), some (.ref rq), some (.ref ra), some (.ref rn), some (.ref rt), some (.ref rp), none, none, none, none, none, none, none, none, none, none, none, none]) (by decide +kernel) rfl rfl (fun X hX C hR => ?_)
  subst hX
  obtain ⟨⟨kd_rq, il_rq⟩, ⟨kd_ra, il_ra⟩, ⟨kd_rn, il_rn⟩, ⟨kd_rt, il_rt⟩, ⟨kd_rp, il_rp⟩, hq, hs, hp⟩ := id h
  obtain ⟨h9, hn8⟩ := id hI.1
  obtain ⟨h10, hN28⟩ := id hI.2.1
  have hq9 : sj_ia S rq 9 = nI (sj_tn (m 9)) := (hq 9 (by omega)).trans h9
  have hq10 : sj_ia S rq 10 = nI (sj_tn (m 10)) := (hq 10 (by omega)).trans h10
  obtain ⟨hai, hni, hti⟩ := hs i hi
  obtain ⟨ens, n1, n8⟩ := sp_ns hI hi
  rw [ens] at hni
  have hv := sj_inv_oav hI
  refine sj_iconstv C (0) 1 rfl dL_isSheet_0 rfl ?_
  refine sj_istore_9 C 3 rfl dL_isSheet_1 rfl rfl ?_
  refine sj_iconstv C (0) 4 rfl dL_isSheet_3 rfl ?_
  refine sj_istore_10 C 6 rfl dL_isSheet_4 rfl rfl ?_
  have cut_12 : ∀ x9 : Int32, (x9 = sj_sum (fun e => sj_os m i e 2) 0) → sj_G X S 0 0 [some (.ref (g 141)), some (.int (nI (i))), some (.int (nI (e))), some (.int (x)), some (.ref rq), some (.ref ra), some (.ref rn), some (.ref rt), some (.ref rp), some (.int (x9)), some (.int (0)), some (.int (nI (8 * i + 0))), none, none, none, none, none, none, none, none, none] 12 [] := by
    refine sj_down (fun k => ∀ x9 : Int32, (x9 = sj_sum (fun e => sj_os m i e 2) k) → sj_G X S 0 0 [some (.ref (g 141)), some (.int (nI (i))), some (.int (nI (e))), some (.int (x)), some (.ref rq), some (.ref ra), some (.ref rn), some (.ref rt), some (.ref rp), some (.int (x9)), some (.int (0)), some (.int (nI (8 * i + k))), none, none, none, none, none, none, none, none, none] 12 []) (sj_ns m i) (fun k hk ih_12 => ?_)
    intro x9 e_x9
    refine sj_iload C 14 rfl dL_isSheet_12 rfl ?_
    refine sj_bipush C (8) 16 rfl dL_isSheet_14 (by decide) ?_
    refine sj_iload_n C 17 rfl dL_isSheet_16 rfl rfl ?_
    refine sj_imul C 18 rfl dL_isSheet_17 ?_
    rw [show 8 * nI (i) = nI (8 * i) from sj_nmul 8 i]
    refine sj_aload C 20 rfl dL_isSheet_18 rfl ?_
    refine sj_iload_n C 21 rfl dL_isSheet_20 rfl rfl ?_
    refine sj_iald C 22 rfl dL_isSheet_21 kd_rn (sp_vp il_rn (by omega) (by omega)) ?_
    rw [nI_clamp (by omega)]
    rw [hni]
    refine sj_iadd C 23 rfl dL_isSheet_22 ?_
    rw [show nI (8 * i) + nI (sj_ns m i) = nI ((8 * i) + (sj_ns m i)) from nI_add (8 * i) (sj_ns m i)]
    refine sj_icmp_ge C 45 26 rfl rfl dL_isSheet_23 (fun c_23 => ?_) (fun c_23 => ?_)
    · have hkn : k = sj_ns m i := by
        have h99 : ¬ k < sj_ns m i := fun h9 => nI_ge (show 8 * i + k < 8 * i + sj_ns m i by omega) (by omega) c_23
        omega
      subst hkn
      have cut_48 : ∀ x10 : Int32, (x10 = sj_sum (fun k => sj_bi (decide (sj_oa m k 0 = nI i) || decide (sj_oa m k 1 = nI i))) 0) → sj_G X S 0 0 [some (.ref (g 141)), some (.int (nI (i))), some (.int (nI (e))), some (.int (x)), some (.ref rq), some (.ref ra), some (.ref rn), some (.ref rt), some (.ref rp), some (.int (x9)), some (.int (x10)), some (.int (nI (0))), none, none, none, none, none, none, none, none, none] 48 [] := by
        refine sj_down (fun k => ∀ x10 : Int32, (x10 = sj_sum (fun k => sj_bi (decide (sj_oa m k 0 = nI i) || decide (sj_oa m k 1 = nI i))) k) → sj_G X S 0 0 [some (.ref (g 141)), some (.int (nI (i))), some (.int (nI (e))), some (.int (x)), some (.ref rq), some (.ref ra), some (.ref rn), some (.ref rt), some (.ref rp), some (.int (x9)), some (.int (x10)), some (.int (nI (k))), none, none, none, none, none, none, none, none, none] 48 []) (sj_tn (m 10)) (fun k hk ih_48 => ?_)
        intro x10 e_x10
        refine sj_iload C 50 rfl dL_isSheet_48 rfl ?_
        refine sj_aload C 52 rfl dL_isSheet_50 rfl ?_
        refine sj_bipush C (10) 54 rfl dL_isSheet_52 (by decide) ?_
        refine sj_iald C 55 rfl dL_isSheet_54 kd_rq (sp_vp (i := 10) il_rq (by omega) (by omega)) ?_
        rw [show Int32.toNatClampNeg 10 = 10 from rfl]
        rw [hq10]
        refine sj_icmp_ge C 100 58 rfl rfl dL_isSheet_55 (fun c_55 => ?_) (fun c_55 => ?_)
        · have hkn : k = sj_tn (m 10) := by
            have h99 : ¬ k < sj_tn (m 10) := fun h9 => nI_ge h9 (by omega) c_55
            omega
          subst hkn
          refine sj_iload_n C 101 rfl dL_isSheet_100 rfl rfl ?_
          refine sj_iconstv C (-1) 102 rfl dL_isSheet_101 rfl ?_
          refine sj_iconstv C (-1) 103 rfl dL_isSheet_102 rfl ?_
          refine sj_iconstv C (-1) 104 rfl dL_isSheet_103 rfl ?_
          refine sj_aload C 106 rfl dL_isSheet_104 rfl ?_
          refine sj_aload C 108 rfl dL_isSheet_106 rfl ?_
          refine sj_callSd C 111 rfl dL_isSheet_108 cv_L_119 (sj_fitO rfl rfl (show 0 + 0 ≤ 80 by omega) (show 0 + 0 ≤ 480 by omega)) (ct_L_handOf _ h hI (i := i) hi (-1)) rfl rfl rfl ⟨rfl, rfl⟩ ?_
          refine sj_istore_11 C 113 rfl dL_isSheet_111 rfl rfl ?_
          refine sj_iload_n C 114 rfl dL_isSheet_113 rfl rfl ?_
          refine sj_bipush C (8) 116 rfl dL_isSheet_114 (by decide) ?_
          refine sj_callSd C 119 rfl dL_isSheet_116 cv_L_85 (sj_fitO rfl rfl (show 0 + 0 ≤ 80 by omega) (show 0 + 0 ≤ 480 by omega)) (ct_L_low _ _ _ _ (by decide)) rfl rfl rfl ⟨rfl, rfl⟩ ?_
          obtain ⟨b, hb, eb⟩ := sp_low_in (x) (n := 8) (by omega) (by omega)
          rw [show sp_low (x) 8 = nI b from eb]
          refine sj_istore_12 C 121 rfl dL_isSheet_119 rfl rfl ?_
          refine sj_aload C 123 rfl dL_isSheet_121 rfl ?_
          refine sj_bipush C (8) 125 rfl dL_isSheet_123 (by decide) ?_
          refine sj_iload_n C 126 rfl dL_isSheet_125 rfl rfl ?_
          refine sj_imul C 127 rfl dL_isSheet_126 ?_
          rw [show 8 * nI (i) = nI (8 * i) from sj_nmul 8 i]
          refine sj_iload C 129 rfl dL_isSheet_127 rfl ?_
          refine sj_iadd C 130 rfl dL_isSheet_129 ?_
          rw [show nI (8 * i) + nI (b) = nI ((8 * i) + b) from nI_add (8 * i) b]
          refine sj_iald C 131 rfl dL_isSheet_130 kd_rt (sp_vp il_rt (by omega) (by omega)) ?_
          rw [nI_clamp (by omega)]
          refine sj_istore_13 C 133 rfl dL_isSheet_131 rfl rfl ?_
          refine sj_iload C 135 rfl dL_isSheet_133 rfl ?_
          refine sj_aload C 137 rfl dL_isSheet_135 rfl ?_
          refine sj_iload_n C 138 rfl dL_isSheet_137 rfl rfl ?_
          refine sj_iald C 139 rfl dL_isSheet_138 kd_rn (sp_vp il_rn (by omega) (by omega)) ?_
          rw [nI_clamp (by omega)]
          rw [hni]
          have cut_147 : ∀ j147 : Int32, (j147 = if nI (sj_ns m i) ≤ nI (b) then 0 else 1) → sj_G X S 0 0 [some (.ref (g 141)), some (.int (nI (i))), some (.int (nI (e))), some (.int (x)), some (.ref rq), some (.ref ra), some (.ref rn), some (.ref rt), some (.ref rp), some (.int (x9)), some (.int (x10)), some (.int (nI (sp_hd m (-1) i))), some (.int (nI (b))), some (.int (sj_ia S rt ((8 * i) + b))), none, none, none, none, none, none, none] 147 [.int (j147)] := by
            intro j147 h147
            refine sj_istore_14 C 149 rfl dL_isSheet_147 rfl rfl ?_
            refine sj_aload_n C 150 rfl dL_isSheet_149 rfl rfl ?_
            refine sj_iload_n C 151 rfl dL_isSheet_150 rfl rfl ?_
            refine sj_iconstv C (0) 152 rfl dL_isSheet_151 rfl ?_
            refine sj_callW1 C 155 rfl dL_isSheet_152 cw_L_164 (sj_fitO rfl rfl (show 0 + 1 ≤ 80 by omega) (show 0 + 6 ≤ 480 by omega)) (tc_sheet _ hW hI hi (w := 0) (by omega)) rfl rfl rfl ⟨rfl, rfl⟩ ?_
            refine sj_aload C 157 rfl dL_isSheet_155 rfl ?_
            refine sj_iload_n C 158 rfl dL_isSheet_157 rfl rfl ?_
            refine sj_iald C 159 rfl dL_isSheet_158 kd_rn (sp_vp il_rn (by omega) (by omega)) ?_
            rw [nI_clamp (by omega)]
            rw [hni]
            refine sj_icmp_ne C 272 162 rfl rfl dL_isSheet_159 (fun c_159 => absurd (show sj_ts m i 0 = nI (sj_ns m i) from ens) c_159) (fun c_159 => ?_)
            refine sj_aload_n C 163 rfl dL_isSheet_162 rfl rfl ?_
            refine sj_iload_n C 164 rfl dL_isSheet_163 rfl rfl ?_
            refine sj_iconstv C (1) 165 rfl dL_isSheet_164 rfl ?_
            refine sj_callW1 C 168 rfl dL_isSheet_165 cw_L_164 (sj_fitO rfl rfl (show 0 + 1 + 1 ≤ 80 by omega) (show 0 + 6 + 6 ≤ 480 by omega)) (tc_sheet _ hW hI hi (w := 1) (by omega)) rfl rfl rfl ⟨rfl, rfl⟩ ?_
            refine sj_aload C 170 rfl dL_isSheet_168 rfl ?_
            refine sj_iload_n C 171 rfl dL_isSheet_170 rfl rfl ?_
            refine sj_iald C 172 rfl dL_isSheet_171 kd_ra (sp_vp il_ra (by omega) (by omega)) ?_
            rw [nI_clamp (by omega)]
            rw [hai]
            refine sj_icmp_ne C 272 175 rfl rfl dL_isSheet_172 (fun c_172 => absurd (rfl) c_172) (fun c_172 => ?_)
            refine sj_aload_n C 176 rfl dL_isSheet_175 rfl rfl ?_
            refine sj_iload_n C 177 rfl dL_isSheet_176 rfl rfl ?_
            refine sj_iconstv C (2) 178 rfl dL_isSheet_177 rfl ?_
            refine sj_callW1 C 181 rfl dL_isSheet_178 cw_L_164 (sj_fitO rfl rfl (show 0 + 1 + 1 + 1 ≤ 80 by omega) (show 0 + 6 + 6 + 6 ≤ 480 by omega)) (tc_sheet _ hW hI hi (w := 2) (by omega)) rfl rfl rfl ⟨rfl, rfl⟩ ?_
            refine sj_iload C 183 rfl dL_isSheet_181 rfl ?_
            refine sj_icmp_ne C 272 186 rfl rfl dL_isSheet_183 (fun c_183 => absurd (e_x9.symm) c_183) (fun c_183 => ?_)
            refine sj_aload_n C 187 rfl dL_isSheet_186 rfl rfl ?_
            refine sj_iload_n C 188 rfl dL_isSheet_187 rfl rfl ?_
            refine sj_iconstv C (3) 189 rfl dL_isSheet_188 rfl ?_
            refine sj_callW1 C 192 rfl dL_isSheet_189 cw_L_164 (sj_fitO rfl rfl (show 0 + 1 + 1 + 1 + 1 ≤ 80 by omega) (show 0 + 6 + 6 + 6 + 6 ≤ 480 by omega)) (tc_sheet _ hW hI hi (w := 3) (by omega)) rfl rfl rfl ⟨rfl, rfl⟩ ?_
            refine sj_iload_n C 193 rfl dL_isSheet_192 rfl rfl ?_
            refine sj_aload C 195 rfl dL_isSheet_193 rfl ?_
            refine sj_aload C 197 rfl dL_isSheet_195 rfl ?_
            refine sj_aload C 199 rfl dL_isSheet_197 rfl ?_
            refine sj_callSd C 202 rfl dL_isSheet_199 cv_L_123 (sj_fitO rfl rfl (show 0 + 1 + 1 + 1 + 1 + 0 ≤ 80 by omega) (show 0 + 6 + 6 + 6 + 6 + 0 ≤ 480 by omega)) (ct_L_trembles _ h hI hi) rfl rfl rfl ⟨rfl, rfl⟩ ?_
            have cut_210 : ∀ j210 : Int32, (j210 = if (sj_bi (sj_trm m i)) = 0 then 0 else 1) → sj_G X S (0 + 1 + 1 + 1 + 1) (0 + 6 + 6 + 6 + 6) [some (.ref (g 141)), some (.int (nI (i))), some (.int (nI (e))), some (.int (x)), some (.ref rq), some (.ref ra), some (.ref rn), some (.ref rt), some (.ref rp), some (.int (x9)), some (.int (x10)), some (.int (nI (sp_hd m (-1) i))), some (.int (nI (b))), some (.int (sj_ia S rt ((8 * i) + b))), some (.int (j147)), none, none, none, none, none, none] 210 [.int (j210), .int (sj_ts m i 3)] := by
              intro j210 h210
              refine sj_icmp_ne C 272 213 rfl rfl dL_isSheet_210 (fun c_210 => absurd (sp_bij h210) c_210) (fun c_210 => ?_)
              refine sj_iconstv C (1) 214 rfl dL_isSheet_213 rfl ?_
              refine sj_aload_n C 215 rfl dL_isSheet_214 rfl rfl ?_
              refine sj_iload_n C 216 rfl dL_isSheet_215 rfl rfl ?_
              refine sj_iconstv C (4) 217 rfl dL_isSheet_216 rfl ?_
              refine sj_callW1 C 220 rfl dL_isSheet_217 cw_L_164 (sj_fitO rfl rfl (show 0 + 1 + 1 + 1 + 1 + 1 ≤ 80 by omega) (show 0 + 6 + 6 + 6 + 6 + 6 ≤ 480 by omega)) (tc_sheet _ hW hI hi (w := 4) (by omega)) rfl rfl rfl ⟨rfl, rfl⟩ ?_
              refine sj_ishl C 221 rfl dL_isSheet_220 ?_
              refine sj_iload C 223 rfl dL_isSheet_221 rfl ?_
              refine sj_iload C 225 rfl dL_isSheet_223 rfl ?_
              refine sj_ineg C 226 rfl dL_isSheet_225 ?_
              refine sj_iand C 227 rfl dL_isSheet_226 ?_
              refine sj_icmp_ne C 272 230 rfl rfl dL_isSheet_227 (fun c_227 => absurd (sp_lowbit hI hi) c_227) (fun c_227 => ?_)
              refine sj_aload_n C 231 rfl dL_isSheet_230 rfl rfl ?_
              refine sj_iload_n C 232 rfl dL_isSheet_231 rfl rfl ?_
              refine sj_iconstv C (5) 233 rfl dL_isSheet_232 rfl ?_
              refine sj_callW1 C 236 rfl dL_isSheet_233 cw_L_164 (sj_fitO rfl rfl (show 0 + 1 + 1 + 1 + 1 + 1 + 1 ≤ 80 by omega) (show 0 + 6 + 6 + 6 + 6 + 6 + 6 ≤ 480 by omega)) (tc_sheet _ hW hI hi (w := 5) (by omega)) rfl rfl rfl ⟨rfl, rfl⟩ ?_
              refine sj_iload C 238 rfl dL_isSheet_236 rfl ?_
              refine sj_icmp_ne C 272 241 rfl rfl dL_isSheet_238 (fun c_238 => absurd (e_x10.symm) c_238) (fun c_238 => ?_)
              refine sj_aload_n C 242 rfl dL_isSheet_241 rfl rfl ?_
              refine sj_iload_n C 243 rfl dL_isSheet_242 rfl rfl ?_
              refine sj_bipush C (6) 245 rfl dL_isSheet_243 (by decide) ?_
              refine sj_callW1 C 248 rfl dL_isSheet_245 cw_L_164 (sj_fitO rfl rfl (show 0 + 1 + 1 + 1 + 1 + 1 + 1 + 1 ≤ 80 by omega) (show 0 + 6 + 6 + 6 + 6 + 6 + 6 + 6 ≤ 480 by omega)) (tc_sheet _ hW hI hi (w := 6) (by omega)) rfl rfl rfl ⟨rfl, rfl⟩ ?_
              refine sj_aload C 250 rfl dL_isSheet_248 rfl ?_
              refine sj_iload_n C 251 rfl dL_isSheet_250 rfl rfl ?_
              refine sj_iald C 252 rfl dL_isSheet_251 kd_ra (sp_vp il_ra (by omega) (by omega)) ?_
              rw [nI_clamp (by omega)]
              rw [hai]
              refine sj_aload C 254 rfl dL_isSheet_252 rfl ?_
              refine sj_bipush C (6) 256 rfl dL_isSheet_254 (by decide) ?_
              refine sj_iald C 257 rfl dL_isSheet_256 kd_rq (sp_vp (i := 6) il_rq (by omega) (by omega)) ?_
              rw [show Int32.toNatClampNeg 6 = 6 from rfl]
              rw [hq 6 (by omega)]
              have cut_265 : ∀ j265 : Int32, (j265 = if (sj_of m i 0) < (m 6) then 0 else 1) → sj_G X S (0 + 1 + 1 + 1 + 1 + 1 + 1 + 1) (0 + 6 + 6 + 6 + 6 + 6 + 6 + 6) [some (.ref (g 141)), some (.int (nI (i))), some (.int (nI (e))), some (.int (x)), some (.ref rq), some (.ref ra), some (.ref rn), some (.ref rt), some (.ref rp), some (.int (x9)), some (.int (x10)), some (.int (nI (sp_hd m (-1) i))), some (.int (nI (b))), some (.int (sj_ia S rt ((8 * i) + b))), some (.int (j147)), none, none, none, none, none, none] 265 [.int (j265), .int (sj_ts m i 6)] := by
                intro j265 h265
                refine sj_icmp_ne C 272 268 rfl rfl dL_isSheet_265 (fun c_265 => absurd (sp_hf_j h265) c_265) (fun c_265 => ?_)
                refine sj_iconstv C (1) 269 rfl dL_isSheet_268 rfl ?_
                refine sj_goto C 273 rfl dL_isSheet_269 ?_
                refine sj_istore_15 C 275 rfl dL_isSheet_273 rfl rfl ?_
                refine sj_iload C 277 rfl dL_isSheet_275 rfl ?_
                refine sj_if_eq C 412 280 rfl rfl dL_isSheet_277 (fun c_277 => absurd c_277 (by decide)) (fun c_277 => ?_)
                refine sj_aload_n C 281 rfl dL_isSheet_280 rfl rfl ?_
                refine sj_iload_n C 282 rfl dL_isSheet_281 rfl rfl ?_
                refine sj_iload C 284 rfl dL_isSheet_282 rfl ?_
                refine sj_iconstv C (0) 285 rfl dL_isSheet_284 rfl ?_
                refine sj_callW1 C 288 rfl dL_isSheet_285 cw_L_166 (sj_fitO rfl rfl (show 0 + 1 + 1 + 1 + 1 + 1 + 1 + 1 + 1 ≤ 80 by omega) (show 0 + 6 + 6 + 6 + 6 + 6 + 6 + 6 + 6 ≤ 480 by omega)) (tc_stroke _ hW hI hi (k := b) (w := 0) hb (by omega)) rfl rfl rfl ⟨rfl, rfl⟩ ?_
                refine sj_iload C 290 rfl dL_isSheet_288 rfl ?_
                have cut_305 : ∀ j305 : Int32, (j305 = if j147 = 0 then (-1) else (sj_os m i b 0) + 100) → sj_G X S (0 + 1 + 1 + 1 + 1 + 1 + 1 + 1 + 1) (0 + 6 + 6 + 6 + 6 + 6 + 6 + 6 + 6) [some (.ref (g 141)), some (.int (nI (i))), some (.int (nI (e))), some (.int (x)), some (.ref rq), some (.ref ra), some (.ref rn), some (.ref rt), some (.ref rp), some (.int (x9)), some (.int (x10)), some (.int (nI (sp_hd m (-1) i))), some (.int (nI (b))), some (.int (sj_ia S rt ((8 * i) + b))), some (.int (j147)), some (.int (1)), none, none, none, none, none] 305 [.int (j305), .int (sj_tst m i b 0)] := by
                  intro j305 h305
                  refine sj_icmp_ne C 412 308 rfl rfl dL_isSheet_305 (fun c_305 => absurd (sp_tst h147 h305 rfl) c_305) (fun c_305 => ?_)
                  refine sj_aload_n C 309 rfl dL_isSheet_308 rfl rfl ?_
                  refine sj_iload_n C 310 rfl dL_isSheet_309 rfl rfl ?_
                  refine sj_iload C 312 rfl dL_isSheet_310 rfl ?_
                  refine sj_iconstv C (1) 313 rfl dL_isSheet_312 rfl ?_
                  refine sj_callW1 C 316 rfl dL_isSheet_313 cw_L_166 (sj_fitO rfl rfl (show 0 + 1 + 1 + 1 + 1 + 1 + 1 + 1 + 1 + 1 ≤ 80 by omega) (show 0 + 6 + 6 + 6 + 6 + 6 + 6 + 6 + 6 + 6 ≤ 480 by omega)) (tc_stroke _ hW hI hi (k := b) (w := 1) hb (by omega)) rfl rfl rfl ⟨rfl, rfl⟩ ?_
                  refine sj_iload C 318 rfl dL_isSheet_316 rfl ?_
                  have cut_330 : ∀ j330 : Int32, (j330 = if j147 = 0 then (-1) else sj_os m i b 1) → sj_G X S (0 + 1 + 1 + 1 + 1 + 1 + 1 + 1 + 1 + 1) (0 + 6 + 6 + 6 + 6 + 6 + 6 + 6 + 6 + 6) [some (.ref (g 141)), some (.int (nI (i))), some (.int (nI (e))), some (.int (x)), some (.ref rq), some (.ref ra), some (.ref rn), some (.ref rt), some (.ref rp), some (.int (x9)), some (.int (x10)), some (.int (nI (sp_hd m (-1) i))), some (.int (nI (b))), some (.int (sj_ia S rt ((8 * i) + b))), some (.int (j147)), some (.int (1)), none, none, none, none, none] 330 [.int (j330), .int (sj_tst m i b 1)] := by
                    intro j330 h330
                    refine sj_icmp_ne C 412 333 rfl rfl dL_isSheet_330 (fun c_330 => absurd (sp_tst (w := 1) h147 h330 (Int32.add_zero _).symm) c_330) (fun c_330 => ?_)
                    refine sj_aload_n C 334 rfl dL_isSheet_333 rfl rfl ?_
                    refine sj_iload_n C 335 rfl dL_isSheet_334 rfl rfl ?_
                    refine sj_iload C 337 rfl dL_isSheet_335 rfl ?_
                    refine sj_iconstv C (2) 338 rfl dL_isSheet_337 rfl ?_
                    refine sj_callW1 C 341 rfl dL_isSheet_338 cw_L_166 (sj_fitO rfl rfl (show 0 + 1 + 1 + 1 + 1 + 1 + 1 + 1 + 1 + 1 + 1 ≤ 80 by omega) (show 0 + 6 + 6 + 6 + 6 + 6 + 6 + 6 + 6 + 6 + 6 ≤ 480 by omega)) (tc_stroke _ hW hI hi (k := b) (w := 2) hb (by omega)) rfl rfl rfl ⟨rfl, rfl⟩ ?_
                    refine sj_iload C 343 rfl dL_isSheet_341 rfl ?_
                    have cut_355 : ∀ j355 : Int32, (j355 = if j147 = 0 then (-1) else sj_os m i b 2) → sj_G X S (0 + 1 + 1 + 1 + 1 + 1 + 1 + 1 + 1 + 1 + 1) (0 + 6 + 6 + 6 + 6 + 6 + 6 + 6 + 6 + 6 + 6) [some (.ref (g 141)), some (.int (nI (i))), some (.int (nI (e))), some (.int (x)), some (.ref rq), some (.ref ra), some (.ref rn), some (.ref rt), some (.ref rp), some (.int (x9)), some (.int (x10)), some (.int (nI (sp_hd m (-1) i))), some (.int (nI (b))), some (.int (sj_ia S rt ((8 * i) + b))), some (.int (j147)), some (.int (1)), none, none, none, none, none] 355 [.int (j355), .int (sj_tst m i b 2)] := by
                      intro j355 h355
                      refine sj_icmp_ne C 412 358 rfl rfl dL_isSheet_355 (fun c_355 => absurd (sp_tst (w := 2) h147 h355 (Int32.add_zero _).symm) c_355) (fun c_355 => ?_)
                      refine sj_aload_n C 359 rfl dL_isSheet_358 rfl rfl ?_
                      refine sj_iload_n C 360 rfl dL_isSheet_359 rfl rfl ?_
                      refine sj_iload C 362 rfl dL_isSheet_360 rfl ?_
                      refine sj_iconstv C (3) 363 rfl dL_isSheet_362 rfl ?_
                      refine sj_callW1 C 366 rfl dL_isSheet_363 cw_L_166 (sj_fitO rfl rfl (show 0 + 1 + 1 + 1 + 1 + 1 + 1 + 1 + 1 + 1 + 1 + 1 ≤ 80 by omega) (show 0 + 6 + 6 + 6 + 6 + 6 + 6 + 6 + 6 + 6 + 6 + 6 ≤ 480 by omega)) (tc_stroke _ hW hI hi (k := b) (w := 3) hb (by omega)) rfl rfl rfl ⟨rfl, rfl⟩ ?_
                      refine sj_iload C 368 rfl dL_isSheet_366 rfl ?_
                      have cut_380 : ∀ j380 : Int32, (j380 = if j147 = 0 then (-1) else sj_os m i b 3) → sj_G X S (0 + 1 + 1 + 1 + 1 + 1 + 1 + 1 + 1 + 1 + 1 + 1) (0 + 6 + 6 + 6 + 6 + 6 + 6 + 6 + 6 + 6 + 6 + 6) [some (.ref (g 141)), some (.int (nI (i))), some (.int (nI (e))), some (.int (x)), some (.ref rq), some (.ref ra), some (.ref rn), some (.ref rt), some (.ref rp), some (.int (x9)), some (.int (x10)), some (.int (nI (sp_hd m (-1) i))), some (.int (nI (b))), some (.int (sj_ia S rt ((8 * i) + b))), some (.int (j147)), some (.int (1)), none, none, none, none, none] 380 [.int (j380), .int (sj_tst m i b 3)] := by
                        intro j380 h380
                        refine sj_icmp_ne C 412 383 rfl rfl dL_isSheet_380 (fun c_380 => absurd (sp_tst (w := 3) h147 h380 (Int32.add_zero _).symm) c_380) (fun c_380 => ?_)
                        refine sj_aload_n C 384 rfl dL_isSheet_383 rfl rfl ?_
                        refine sj_iload_n C 385 rfl dL_isSheet_384 rfl rfl ?_
                        refine sj_iload C 387 rfl dL_isSheet_385 rfl ?_
                        refine sj_iconstv C (4) 388 rfl dL_isSheet_387 rfl ?_
                        refine sj_callW1 C 391 rfl dL_isSheet_388 cw_L_166 (sj_fitO rfl rfl (show 0 + 1 + 1 + 1 + 1 + 1 + 1 + 1 + 1 + 1 + 1 + 1 + 1 ≤ 80 by omega) (show 0 + 6 + 6 + 6 + 6 + 6 + 6 + 6 + 6 + 6 + 6 + 6 + 6 ≤ 480 by omega)) (tc_stroke _ hW hI hi (k := b) (w := 4) hb (by omega)) rfl rfl rfl ⟨rfl, rfl⟩ ?_
                        refine sj_iload C 393 rfl dL_isSheet_391 rfl ?_
                        have cut_405 : ∀ j405 : Int32, (j405 = if j147 = 0 then (-1) else sj_os m i b 4) → sj_G X S (0 + 1 + 1 + 1 + 1 + 1 + 1 + 1 + 1 + 1 + 1 + 1 + 1) (0 + 6 + 6 + 6 + 6 + 6 + 6 + 6 + 6 + 6 + 6 + 6 + 6) [some (.ref (g 141)), some (.int (nI (i))), some (.int (nI (e))), some (.int (x)), some (.ref rq), some (.ref ra), some (.ref rn), some (.ref rt), some (.ref rp), some (.int (x9)), some (.int (x10)), some (.int (nI (sp_hd m (-1) i))), some (.int (nI (b))), some (.int (sj_ia S rt ((8 * i) + b))), some (.int (j147)), some (.int (1)), none, none, none, none, none] 405 [.int (j405), .int (sj_tst m i b 4)] := by
                          intro j405 h405
                          refine sj_icmp_ne C 412 408 rfl rfl dL_isSheet_405 (fun c_405 => absurd (sp_tst (w := 4) h147 h405 (Int32.add_zero _).symm) c_405) (fun c_405 => ?_)
                          refine sj_iconstv C (1) 409 rfl dL_isSheet_408 rfl ?_
                          refine sj_goto C 413 rfl dL_isSheet_409 ?_
                          refine sj_istore_15 C 415 rfl dL_isSheet_413 rfl rfl ?_
                          refine sj_iconstv C (-1) 416 rfl dL_isSheet_415 rfl ?_
                          refine sj_istore_16 C 418 rfl dL_isSheet_416 rfl rfl ?_
                          refine sj_aload C 420 rfl dL_isSheet_418 rfl ?_
                          refine sj_bipush C (9) 422 rfl dL_isSheet_420 (by decide) ?_
                          refine sj_iald C 423 rfl dL_isSheet_422 kd_rq (sp_vp (i := 9) il_rq (by omega) (by omega)) ?_
                          rw [show Int32.toNatClampNeg 9 = 9 from rfl]
                          rw [hq9]
                          refine sj_iconstv C (1) 424 rfl dL_isSheet_423 rfl ?_
                          refine sj_isub C 425 rfl dL_isSheet_424 ?_
                          have cut_427 : ∀ (k : Nat) (o : Option Nat), k ≤ sj_tn (m 9) → (∀ b, o = some b → b < sj_tn (m 9)) → sp_cb m i (sj_mal m i k) o = sj_mal m i (sj_tn (m 9)) → sj_G X S (0 + 1 + 1 + 1 + 1 + 1 + 1 + 1 + 1 + 1 + 1 + 1 + 1) (0 + 6 + 6 + 6 + 6 + 6 + 6 + 6 + 6 + 6 + 6 + 6 + 6) [some (.ref (g 141)), some (.int (nI (i))), some (.int (nI (e))), some (.int (x)), some (.ref rq), some (.ref ra), some (.ref rn), some (.ref rt), some (.ref rp), some (.int (x9)), some (.int (x10)), some (.int (nI (sp_hd m (-1) i))), some (.int (nI (b))), some (.int (sj_ia S rt ((8 * i) + b))), some (.int (j147)), some (.int (1)), some (.int (sj_on o)), some (.int (nI k - 1)), none, none, none] 427 [] := by
                            intro k
                            induction k with
                            | zero =>
                              intro o hkn hob hcb
                              have ho : o = sj_mal m i (sj_tn (m 9)) := hcb
                              refine sj_iload C 429 rfl dL_isSheet_427 rfl ?_
                              refine sj_if_lt C 509 432 rfl rfl dL_isSheet_429 (fun c_429 => ?_) (fun c_429 => absurd (by decide) c_429)
                              refine sj_iconstv C (1) 510 rfl dL_isSheet_509 rfl ?_
                              refine sj_iload_n C 511 rfl dL_isSheet_510 rfl rfl ?_
                              refine sj_iconstv C (4) 512 rfl dL_isSheet_511 rfl ?_
                              refine sj_ishr C 513 rfl dL_isSheet_512 ?_
                              refine sj_bipush C (99) 515 rfl dL_isSheet_513 (by decide) ?_
                              refine sj_callSd C 518 rfl dL_isSheet_515 cv_L_85 (sj_fitO rfl rfl (show 0 + 1 + 1 + 1 + 1 + 1 + 1 + 1 + 1 + 1 + 1 + 1 + 1 + 0 ≤ 80 by omega) (show 0 + 6 + 6 + 6 + 6 + 6 + 6 + 6 + 6 + 6 + 6 + 6 + 6 + 0 ≤ 480 by omega)) (ct_L_low _ _ _ _ (by decide)) rfl rfl rfl ⟨rfl, rfl⟩ ?_
                              obtain ⟨y9, hy9, ey9⟩ := sp_low_in (x >>> (4 &&& 31)) (n := 99) (by omega) (by omega)
                              rw [show sp_low (x >>> (4 &&& 31)) 99 = nI y9 from ey9]
                              refine sj_iadd C 519 rfl dL_isSheet_518 ?_
                              rw [show 1 + nI (y9) = nI (1 + y9) from nI_add 1 y9]
                              have hy : 0 ≤ nI (1 + y9) ∧ nI (1 + y9) ≤ 99 := ⟨nI_pos' (by omega), nI_le (b := 99) (by omega) (by omega)⟩
                              refine sj_istore_17 C 521 rfl dL_isSheet_519 rfl rfl ?_
                              refine sj_iload_n C 522 rfl dL_isSheet_521 rfl rfl ?_
                              refine sj_iload_n C 523 rfl dL_isSheet_522 rfl rfl ?_
                              refine sj_aload C 525 rfl dL_isSheet_523 rfl ?_
                              refine sj_aload C 527 rfl dL_isSheet_525 rfl ?_
                              refine sj_callSd C 530 rfl dL_isSheet_527 cv_L_116 (sj_fitO rfl rfl (show 0 + 1 + 1 + 1 + 1 + 1 + 1 + 1 + 1 + 1 + 1 + 1 + 1 + 0 ≤ 80 by omega) (show 0 + 6 + 6 + 6 + 6 + 6 + 6 + 6 + 6 + 6 + 6 + 6 + 6 + 0 ≤ 480 by omega)) (ct_L_oathOf _ h hI (i := i) (e := e) (by omega) (by omega)) rfl rfl rfl ⟨rfl, rfl⟩ ?_
                              refine sj_istore_18 C 532 rfl dL_isSheet_530 rfl rfl ?_
                              refine sj_iload C 534 rfl dL_isSheet_532 rfl ?_
                              refine sj_iload_n C 535 rfl dL_isSheet_534 rfl rfl ?_
                              refine sj_ishr C 536 rfl dL_isSheet_535 ?_
                              refine sj_iconstv C (1) 537 rfl dL_isSheet_536 rfl ?_
                              refine sj_iand C 538 rfl dL_isSheet_537 ?_
                              rw [sp_bit _ (sp_hd_lt hv (-1) hi) e (by omega), sp_hd_in hv (-1) hi he]
                              refine sj_istore_19 C 540 rfl dL_isSheet_538 rfl rfl ?_
                              refine sj_iload C 542 rfl dL_isSheet_540 rfl ?_
                              refine sj_if_eq C 690 545 rfl rfl dL_isSheet_542 (fun c_542 => absurd c_542 (by decide)) (fun c_542 => ?_)
                              refine sj_aload_n C 546 rfl dL_isSheet_545 rfl rfl ?_
                              refine sj_iload_n C 547 rfl dL_isSheet_546 rfl rfl ?_
                              refine sj_callW1 C 550 rfl dL_isSheet_547 cw_L_169 (sj_fitO rfl rfl (show 0 + 1 + 1 + 1 + 1 + 1 + 1 + 1 + 1 + 1 + 1 + 1 + 1 + 1 ≤ 80 by omega) (show 0 + 6 + 6 + 6 + 6 + 6 + 6 + 6 + 6 + 6 + 6 + 6 + 6 + 6 ≤ 480 by omega)) (tc_near _ hW hI hi) rfl rfl rfl ⟨rfl, rfl⟩ ?_
                              refine sj_iload C 552 rfl dL_isSheet_550 rfl ?_
                              refine sj_icmp_ne C 690 555 rfl rfl dL_isSheet_552 (fun c_552 => absurd (by rw [ho]) c_552) (fun c_552 => ?_)
                              refine sj_aload_n C 556 rfl dL_isSheet_555 rfl rfl ?_
                              refine sj_iload_n C 557 rfl dL_isSheet_556 rfl rfl ?_
                              refine sj_iload_n C 558 rfl dL_isSheet_557 rfl rfl ?_
                              refine sj_iconstv C (0) 559 rfl dL_isSheet_558 rfl ?_
                              refine sj_callW1 C 562 rfl dL_isSheet_559 cw_L_171 (sj_fitO rfl rfl (show 0 + 1 + 1 + 1 + 1 + 1 + 1 + 1 + 1 + 1 + 1 + 1 + 1 + 1 + 1 ≤ 80 by omega) (show 0 + 6 + 6 + 6 + 6 + 6 + 6 + 6 + 6 + 6 + 6 + 6 + 6 + 6 + 6 ≤ 480 by omega)) (tc_compare _ hW hI hi he (w := 0) (by omega)) rfl rfl rfl ⟨rfl, rfl⟩ ?_
                              refine sj_iload_n C 563 rfl dL_isSheet_562 rfl rfl ?_
                              refine sj_iload_n C 564 rfl dL_isSheet_563 rfl rfl ?_
                              refine sj_iconstv C (0) 565 rfl dL_isSheet_564 rfl ?_
                              refine sj_aload C 567 rfl dL_isSheet_565 rfl ?_
                              refine sj_aload C 569 rfl dL_isSheet_567 rfl ?_
                              refine sj_aload C 571 rfl dL_isSheet_569 rfl ?_
                              refine sj_aload C 573 rfl dL_isSheet_571 rfl ?_
                              refine sj_callSd C 576 rfl dL_isSheet_573 cv_L_127 (sj_fitO rfl rfl (show 0 + 1 + 1 + 1 + 1 + 1 + 1 + 1 + 1 + 1 + 1 + 1 + 1 + 1 + 1 + 0 ≤ 80 by omega) (show 0 + 6 + 6 + 6 + 6 + 6 + 6 + 6 + 6 + 6 + 6 + 6 + 6 + 6 + 6 + 0 ≤ 480 by omega)) (ct_L_agreeing0 _ h hI hi he) rfl rfl rfl ⟨rfl, rfl⟩ ?_
                              refine sj_callSd C 579 rfl dL_isSheet_576 cv_L_131 (sj_fitO rfl rfl (show 0 + 1 + 1 + 1 + 1 + 1 + 1 + 1 + 1 + 1 + 1 + 1 + 1 + 1 + 1 + 0 ≤ 80 by omega) (show 0 + 6 + 6 + 6 + 6 + 6 + 6 + 6 + 6 + 6 + 6 + 6 + 6 + 6 + 6 + 0 ≤ 480 by omega)) (ct_L_ones_a _ _ m i e) rfl rfl rfl ⟨rfl, rfl⟩ ?_
                              refine sj_icmp_ne C 690 582 rfl rfl dL_isSheet_579 (fun c_579 => absurd (rfl) c_579) (fun c_579 => ?_)
                              refine sj_aload_n C 583 rfl dL_isSheet_582 rfl rfl ?_
                              refine sj_iload_n C 584 rfl dL_isSheet_583 rfl rfl ?_
                              refine sj_iload_n C 585 rfl dL_isSheet_584 rfl rfl ?_
                              refine sj_iconstv C (1) 586 rfl dL_isSheet_585 rfl ?_
                              refine sj_callW1 C 589 rfl dL_isSheet_586 cw_L_171 (sj_fitO rfl rfl (show 0 + 1 + 1 + 1 + 1 + 1 + 1 + 1 + 1 + 1 + 1 + 1 + 1 + 1 + 1 + 1 ≤ 80 by omega) (show 0 + 6 + 6 + 6 + 6 + 6 + 6 + 6 + 6 + 6 + 6 + 6 + 6 + 6 + 6 + 6 ≤ 480 by omega)) (tc_compare _ hW hI hi he (w := 1) (by omega)) rfl rfl rfl ⟨rfl, rfl⟩ ?_
                              refine sj_iload_n C 590 rfl dL_isSheet_589 rfl rfl ?_
                              refine sj_iload_n C 591 rfl dL_isSheet_590 rfl rfl ?_
                              refine sj_iconstv C (0) 592 rfl dL_isSheet_591 rfl ?_
                              refine sj_aload C 594 rfl dL_isSheet_592 rfl ?_
                              refine sj_aload C 596 rfl dL_isSheet_594 rfl ?_
                              refine sj_aload C 598 rfl dL_isSheet_596 rfl ?_
                              refine sj_aload C 600 rfl dL_isSheet_598 rfl ?_
                              refine sj_callSd C 603 rfl dL_isSheet_600 cv_L_127 (sj_fitO rfl rfl (show 0 + 1 + 1 + 1 + 1 + 1 + 1 + 1 + 1 + 1 + 1 + 1 + 1 + 1 + 1 + 1 + 0 ≤ 80 by omega) (show 0 + 6 + 6 + 6 + 6 + 6 + 6 + 6 + 6 + 6 + 6 + 6 + 6 + 6 + 6 + 6 + 0 ≤ 480 by omega)) (ct_L_agreeing0 _ h hI hi he) rfl rfl rfl ⟨rfl, rfl⟩ ?_
                              refine sj_icmp_ne C 690 606 rfl rfl dL_isSheet_603 (fun c_603 => absurd (rfl) c_603) (fun c_603 => ?_)
                              refine sj_aload_n C 607 rfl dL_isSheet_606 rfl rfl ?_
                              refine sj_iload_n C 608 rfl dL_isSheet_607 rfl rfl ?_
                              refine sj_iload_n C 609 rfl dL_isSheet_608 rfl rfl ?_
                              refine sj_iconstv C (2) 610 rfl dL_isSheet_609 rfl ?_
                              refine sj_callW1 C 613 rfl dL_isSheet_610 cw_L_171 (sj_fitO rfl rfl (show 0 + 1 + 1 + 1 + 1 + 1 + 1 + 1 + 1 + 1 + 1 + 1 + 1 + 1 + 1 + 1 + 1 ≤ 80 by omega) (show 0 + 6 + 6 + 6 + 6 + 6 + 6 + 6 + 6 + 6 + 6 + 6 + 6 + 6 + 6 + 6 + 6 ≤ 480 by omega)) (tc_compare _ hW hI hi he (w := 2) (by omega)) rfl rfl rfl ⟨rfl, rfl⟩ ?_
                              refine sj_iload C 615 rfl dL_isSheet_613 rfl ?_
                              refine sj_icmp_ne C 690 618 rfl rfl dL_isSheet_615 (fun c_615 => absurd (rfl) c_615) (fun c_615 => ?_)
                              refine sj_aload_n C 619 rfl dL_isSheet_618 rfl rfl ?_
                              refine sj_iload_n C 620 rfl dL_isSheet_619 rfl rfl ?_
                              refine sj_iload_n C 621 rfl dL_isSheet_620 rfl rfl ?_
                              refine sj_iconstv C (3) 622 rfl dL_isSheet_621 rfl ?_
                              refine sj_callW1 C 625 rfl dL_isSheet_622 cw_L_171 (sj_fitO rfl rfl (show 0 + 1 + 1 + 1 + 1 + 1 + 1 + 1 + 1 + 1 + 1 + 1 + 1 + 1 + 1 + 1 + 1 + 1 ≤ 80 by omega) (show 0 + 6 + 6 + 6 + 6 + 6 + 6 + 6 + 6 + 6 + 6 + 6 + 6 + 6 + 6 + 6 + 6 + 6 ≤ 480 by omega)) (tc_compare _ hW hI hi he (w := 3) (by omega)) rfl rfl rfl ⟨rfl, rfl⟩ ?_
                              refine sj_iload C 627 rfl dL_isSheet_625 rfl ?_
                              refine sj_icmp_ne C 690 630 rfl rfl dL_isSheet_627 (fun c_627 => absurd (rfl) c_627) (fun c_627 => ?_)
                              refine sj_aload_n C 631 rfl dL_isSheet_630 rfl rfl ?_
                              refine sj_iload_n C 632 rfl dL_isSheet_631 rfl rfl ?_
                              refine sj_iload_n C 633 rfl dL_isSheet_632 rfl rfl ?_
                              refine sj_iconstv C (4) 634 rfl dL_isSheet_633 rfl ?_
                              refine sj_callW1 C 637 rfl dL_isSheet_634 cw_L_171 (sj_fitO rfl rfl (show 0 + 1 + 1 + 1 + 1 + 1 + 1 + 1 + 1 + 1 + 1 + 1 + 1 + 1 + 1 + 1 + 1 + 1 + 1 ≤ 80 by omega) (show 0 + 6 + 6 + 6 + 6 + 6 + 6 + 6 + 6 + 6 + 6 + 6 + 6 + 6 + 6 + 6 + 6 + 6 + 6 ≤ 480 by omega)) (tc_compare _ hW hI hi he (w := 4) (by omega)) rfl rfl rfl ⟨rfl, rfl⟩ ?_
                              refine sj_iload C 639 rfl dL_isSheet_637 rfl ?_
                              have cut_654 : ∀ j654 : Int32, (j654 = if 0 ≤ (sj_fo m i e) then sj_oa m (sj_tn (sj_fo m i e)) 2 else (-1)) → sj_G X S (0 + 1 + 1 + 1 + 1 + 1 + 1 + 1 + 1 + 1 + 1 + 1 + 1 + 1 + 1 + 1 + 1 + 1 + 1) (0 + 6 + 6 + 6 + 6 + 6 + 6 + 6 + 6 + 6 + 6 + 6 + 6 + 6 + 6 + 6 + 6 + 6 + 6) [some (.ref (g 141)), some (.int (nI (i))), some (.int (nI (e))), some (.int (x)), some (.ref rq), some (.ref ra), some (.ref rn), some (.ref rt), some (.ref rp), some (.int (x9)), some (.int (x10)), some (.int (nI (sp_hd m (-1) i))), some (.int (nI (b))), some (.int (sj_ia S rt ((8 * i) + b))), some (.int (j147)), some (.int (1)), some (.int (sj_on o)), some (.int (nI (1 + y9))), none, some (.int (sj_bi (decide (sj_hH m (-1) i = sj_hH m (-1) e)))), none] 654 [.int (j654), .int (sj_cps m i e 4)] := by
                                intro j654 h654
                                refine sj_icmp_ne C 690 657 rfl rfl dL_isSheet_654 (fun c_654 => absurd (sp_too_j hN28 h654) c_654) (fun c_654 => ?_)
                                refine sj_aload_n C 658 rfl dL_isSheet_657 rfl rfl ?_
                                refine sj_iload_n C 659 rfl dL_isSheet_658 rfl rfl ?_
                                refine sj_iload_n C 660 rfl dL_isSheet_659 rfl rfl ?_
                                refine sj_iload C 662 rfl dL_isSheet_660 rfl ?_
                                refine sj_callW1 C 665 rfl dL_isSheet_662 cw_L_173 (sj_fitO rfl rfl (show 0 + 1 + 1 + 1 + 1 + 1 + 1 + 1 + 1 + 1 + 1 + 1 + 1 + 1 + 1 + 1 + 1 + 1 + 1 + 1 ≤ 80 by omega) (show 0 + 6 + 6 + 6 + 6 + 6 + 6 + 6 + 6 + 6 + 6 + 6 + 6 + 6 + 6 + 6 + 6 + 6 + 6 + 6 ≤ 480 by omega)) (tc_ifp _ hW hI hi he (y := nI (1 + y9)) (sp_wi (a := 1) (b := 99) (by omega) (by omega) (by omega))) rfl rfl rfl ⟨rfl, rfl⟩ ?_
                                refine sj_iload_n C 666 rfl dL_isSheet_665 rfl rfl ?_
                                refine sj_iload_n C 667 rfl dL_isSheet_666 rfl rfl ?_
                                refine sj_iload C 669 rfl dL_isSheet_667 rfl ?_
                                refine sj_aload C 671 rfl dL_isSheet_669 rfl ?_
                                refine sj_aload C 673 rfl dL_isSheet_671 rfl ?_
                                refine sj_aload C 675 rfl dL_isSheet_673 rfl ?_
                                refine sj_aload C 677 rfl dL_isSheet_675 rfl ?_
                                refine sj_callSd C 680 rfl dL_isSheet_677 cv_L_127 (sj_fitO rfl rfl (show 0 + 1 + 1 + 1 + 1 + 1 + 1 + 1 + 1 + 1 + 1 + 1 + 1 + 1 + 1 + 1 + 1 + 1 + 1 + 1 + 0 ≤ 80 by omega) (show 0 + 6 + 6 + 6 + 6 + 6 + 6 + 6 + 6 + 6 + 6 + 6 + 6 + 6 + 6 + 6 + 6 + 6 + 6 + 6 + 0 ≤ 480 by omega)) (ct_L_agreeing _ h hI hi he hy) rfl rfl rfl ⟨rfl, rfl⟩ ?_
                                refine sj_callSd C 683 rfl dL_isSheet_680 cv_L_131 (sj_fitO rfl rfl (show 0 + 1 + 1 + 1 + 1 + 1 + 1 + 1 + 1 + 1 + 1 + 1 + 1 + 1 + 1 + 1 + 1 + 1 + 1 + 1 + 0 ≤ 80 by omega) (show 0 + 6 + 6 + 6 + 6 + 6 + 6 + 6 + 6 + 6 + 6 + 6 + 6 + 6 + 6 + 6 + 6 + 6 + 6 + 6 + 0 ≤ 480 by omega)) (ct_L_ones_a _ _ (sj_pas m (nI (1 + y9)) (sj_tn (m 9))) i e) rfl rfl rfl ⟨rfl, rfl⟩ ?_
                                refine sj_icmp_ne C 690 686 rfl rfl dL_isSheet_683 (fun c_683 => absurd (sp_ifp hI hi hy) c_683) (fun c_683 => ?_)
                                refine sj_iconstv C (1) 687 rfl dL_isSheet_686 rfl ?_
                                refine sj_goto C 691 rfl dL_isSheet_687 ?_
                                refine sj_istore_15 C 693 rfl dL_isSheet_691 rfl rfl ?_
                                have cut_696 : ∀ cl sl : Nat, (cl ≤ 19 + 2 * 0) → (sl ≤ 114 + 12 * 0) → sj_G X S cl sl [some (.ref (g 141)), some (.int (nI (i))), some (.int (nI (e))), some (.int (x)), some (.ref rq), some (.ref ra), some (.ref rn), some (.ref rt), some (.ref rp), none, none, none, none, none, none, some (.int (1)), none, none, none, none, some (.int (nI (0)))] 696 [] := by
                                  refine sj_down (fun u => ∀ cl sl : Nat, (cl ≤ 19 + 2 * u) → (sl ≤ 114 + 12 * u) → sj_G X S cl sl [some (.ref (g 141)), some (.int (nI (i))), some (.int (nI (e))), some (.int (x)), some (.ref rq), some (.ref ra), some (.ref rn), some (.ref rt), some (.ref rp), none, none, none, none, none, none, some (.int (1)), none, none, none, none, some (.int (nI (u)))] 696 []) 6 (fun u hu ih_696 => ?_)
                                  intro cl sl hy696_0 hy696_1
                                  refine sj_iload C 698 rfl dL_isSheet_696 rfl ?_
                                  refine sj_bipush C (6) 700 rfl dL_isSheet_698 (by decide) ?_
                                  refine sj_icmp_ge C 772 703 rfl rfl dL_isSheet_700 (fun c_700 => ?_) (fun c_700 => ?_)
                                  · have hun : u = 6 := by
                                      have h99 : ¬ u < 6 := fun h9 => nI_ge h9 (by omega) c_700
                                      omega
                                    subst hun
                                    refine sj_iload C 774 rfl dL_isSheet_772 rfl ?_
                                    refine sj_if_eq C 833 777 rfl rfl dL_isSheet_774 (fun c_774 => absurd c_774 (by decide)) (fun c_774 => ?_)
                                    refine sj_aload_n C 778 rfl dL_isSheet_777 rfl rfl ?_
                                    refine sj_iload_n C 779 rfl dL_isSheet_778 rfl rfl ?_
                                    refine sj_iload_n C 780 rfl dL_isSheet_779 rfl rfl ?_
                                    refine sj_iconstv C (1) 781 rfl dL_isSheet_780 rfl ?_
                                    refine sj_callW1 C 784 rfl dL_isSheet_781 cw_L_179 (sj_fitO rfl rfl (show cl + 1 ≤ 80 by omega) (show sl + 6 ≤ 480 by omega)) (tc_why _ hW hI huc hi he true) rfl rfl rfl ⟨rfl, rfl⟩ ?_
                                    refine sj_iload_n C 785 rfl dL_isSheet_784 rfl rfl ?_
                                    refine sj_iload_n C 786 rfl dL_isSheet_785 rfl rfl ?_
                                    refine sj_iconstv C (1) 787 rfl dL_isSheet_786 rfl ?_
                                    refine sj_aload C 789 rfl dL_isSheet_787 rfl ?_
                                    refine sj_aload C 791 rfl dL_isSheet_789 rfl ?_
                                    refine sj_aload C 793 rfl dL_isSheet_791 rfl ?_
                                    refine sj_aload C 795 rfl dL_isSheet_793 rfl ?_
                                    refine sj_aload C 797 rfl dL_isSheet_795 rfl ?_
                                    refine sj_callSd C 800 rfl dL_isSheet_797 cv_L_156 (sj_fitO rfl rfl (show cl + 1 + 0 ≤ 80 by omega) (show sl + 6 + 0 ≤ 480 by omega)) (ct_L_why _ h hI huc hi he true) rfl rfl rfl ⟨rfl, rfl⟩ ?_
                                    refine sj_icmp_ne C 833 803 rfl rfl dL_isSheet_800 (fun c_800 => absurd (rfl) c_800) (fun c_800 => ?_)
                                    refine sj_aload_n C 804 rfl dL_isSheet_803 rfl rfl ?_
                                    refine sj_iload_n C 805 rfl dL_isSheet_804 rfl rfl ?_
                                    refine sj_iload_n C 806 rfl dL_isSheet_805 rfl rfl ?_
                                    refine sj_iconstv C (0) 807 rfl dL_isSheet_806 rfl ?_
                                    refine sj_callW1 C 810 rfl dL_isSheet_807 cw_L_179 (sj_fitO rfl rfl (show cl + 1 + 1 ≤ 80 by omega) (show sl + 6 + 6 ≤ 480 by omega)) (tc_why _ hW hI huc hi he false) rfl rfl rfl ⟨rfl, rfl⟩ ?_
                                    refine sj_iload_n C 811 rfl dL_isSheet_810 rfl rfl ?_
                                    refine sj_iload_n C 812 rfl dL_isSheet_811 rfl rfl ?_
                                    refine sj_iconstv C (0) 813 rfl dL_isSheet_812 rfl ?_
                                    refine sj_aload C 815 rfl dL_isSheet_813 rfl ?_
                                    refine sj_aload C 817 rfl dL_isSheet_815 rfl ?_
                                    refine sj_aload C 819 rfl dL_isSheet_817 rfl ?_
                                    refine sj_aload C 821 rfl dL_isSheet_819 rfl ?_
                                    refine sj_aload C 823 rfl dL_isSheet_821 rfl ?_
                                    refine sj_callSd C 826 rfl dL_isSheet_823 cv_L_156 (sj_fitO rfl rfl (show cl + 1 + 1 + 0 ≤ 80 by omega) (show sl + 6 + 6 + 0 ≤ 480 by omega)) (ct_L_why _ h hI huc hi he false) rfl rfl rfl ⟨rfl, rfl⟩ ?_
                                    refine sj_icmp_ne C 833 829 rfl rfl dL_isSheet_826 (fun c_826 => absurd (rfl) c_826) (fun c_826 => ?_)
                                    refine sj_iconstv C (1) 830 rfl dL_isSheet_829 rfl ?_
                                    refine sj_goto C 834 rfl dL_isSheet_830 ?_
                                    refine sj_zret C hR rfl rfl (sp_fit2 (show cl + 1 + 1 ≤ 80 by omega) (show sl + 6 + 6 ≤ 480 by omega)) dL_isSheet_834 ?_
                                    exact ⟨rfl, rfl⟩
                                  · have hlu : u < 6 := Nat.not_le.mp fun h9 => c_700 (nI_le (a := 6) h9 (by omega))
                                    refine sj_iload C 705 rfl dL_isSheet_703 rfl ?_
                                    refine sj_if_eq C 763 708 rfl rfl dL_isSheet_705 (fun c_705 => absurd c_705 (by decide)) (fun c_705 => ?_)
                                    refine sj_aload_n C 709 rfl dL_isSheet_708 rfl rfl ?_
                                    refine sj_iload_n C 710 rfl dL_isSheet_709 rfl rfl ?_
                                    refine sj_iload C 712 rfl dL_isSheet_710 rfl ?_
                                    refine sj_callW1 C 715 rfl dL_isSheet_712 cw_L_175 (sj_fitO rfl rfl (show cl + 1 ≤ 80 by omega) (show sl + 6 ≤ 480 by omega)) (tc_mark _ hW hI hi (j := u) hlu) rfl rfl rfl ⟨rfl, rfl⟩ ?_
                                    refine sj_iload_n C 716 rfl dL_isSheet_715 rfl rfl ?_
                                    refine sj_iload C 718 rfl dL_isSheet_716 rfl ?_
                                    refine sj_aload C 720 rfl dL_isSheet_718 rfl ?_
                                    refine sj_aload C 722 rfl dL_isSheet_720 rfl ?_
                                    refine sj_callSd C 725 rfl dL_isSheet_722 cv_L_105 (sj_fitO rfl rfl (show cl + 1 + 0 ≤ 80 by omega) (show sl + 6 + 0 ≤ 480 by omega)) (ct_L_markOf _ h hI hi (j := u) hlu) rfl rfl rfl ⟨rfl, rfl⟩ ?_
                                    refine sj_sipush C (1000) 728 rfl dL_isSheet_725 (by decide) ?_
                                    refine sj_iadd C 729 rfl dL_isSheet_728 ?_
                                    refine sj_icmp_ne C 763 732 rfl rfl dL_isSheet_729 (fun c_729 => absurd (rfl) c_729) (fun c_729 => ?_)
                                    refine sj_aload_n C 733 rfl dL_isSheet_732 rfl rfl ?_
                                    refine sj_iload_n C 734 rfl dL_isSheet_733 rfl rfl ?_
                                    refine sj_iload_n C 735 rfl dL_isSheet_734 rfl rfl ?_
                                    refine sj_iload C 737 rfl dL_isSheet_735 rfl ?_
                                    refine sj_callW1 C 740 rfl dL_isSheet_737 cw_L_177 (sj_fitO rfl rfl (show cl + 1 + 1 ≤ 80 by omega) (show sl + 6 + 6 ≤ 480 by omega)) (tc_tol _ hW hI hi he (j := u) hlu) rfl rfl rfl ⟨rfl, rfl⟩ ?_
                                    refine sj_iload_n C 741 rfl dL_isSheet_740 rfl rfl ?_
                                    refine sj_iload_n C 742 rfl dL_isSheet_741 rfl rfl ?_
                                    refine sj_iload C 744 rfl dL_isSheet_742 rfl ?_
                                    refine sj_iconstv C (0) 745 rfl dL_isSheet_744 rfl ?_
                                    refine sj_aload C 747 rfl dL_isSheet_745 rfl ?_
                                    refine sj_aload C 749 rfl dL_isSheet_747 rfl ?_
                                    refine sj_aload C 751 rfl dL_isSheet_749 rfl ?_
                                    refine sj_aload C 753 rfl dL_isSheet_751 rfl ?_
                                    refine sj_callSd C 756 rfl dL_isSheet_753 cv_L_112 (sj_fitO rfl rfl (show cl + 1 + 1 + 0 ≤ 80 by omega) (show sl + 6 + 6 + 0 ≤ 480 by omega)) (ct_L_tolerance0 _ h hI hi he (j := u) hlu) rfl rfl rfl ⟨rfl, rfl⟩ ?_
                                    refine sj_icmp_ne C 763 759 rfl rfl dL_isSheet_756 (fun c_756 => absurd (rfl) c_756) (fun c_756 => ?_)
                                    refine sj_iconstv C (1) 760 rfl dL_isSheet_759 rfl ?_
                                    refine sj_goto C 764 rfl dL_isSheet_760 ?_
                                    refine sj_istore_15 C 766 rfl dL_isSheet_764 rfl rfl ?_
                                    refine sj_iinc_20 C 769 rfl dL_isSheet_766 rfl rfl ?_
                                    rw [show nI (u) + Int32.ofInt 1 = nI (u + 1) from nI_add _ _]
                                    refine sj_goto C 696 rfl dL_isSheet_769 ?_
                                    exact ih_696 (hlu) _ _ (by omega) (by omega)
                                refine sj_iconstv C (0) 694 rfl dL_isSheet_693 rfl ?_
                                refine sj_istore_20 C 696 rfl dL_isSheet_694 rfl rfl ?_
                                refine sj_for [some (.ref (g 141)), some (.int (nI (i))), some (.int (nI (e))), some (.int (x)), some (.ref rq), some (.ref ra), some (.ref rn), some (.ref rt), some (.ref rp), none, none, none, none, none, none, some (.int (1)), none, none, none, none, some (.int (0))] (show _ ∧ _ ∧ _ ∧ _ ∧ _ ∧ _ ∧ _ ∧ _ ∧ _ ∧ _ ∧ _ ∧ True from ⟨rfl, rfl, rfl, rfl, rfl, rfl, rfl, rfl, rfl, rfl, rfl, trivial⟩) ?_
                                exact cut_696 _ _ (by omega) (by omega)
                              refine sj_if_ge C 646 642 rfl rfl dL_isSheet_639 (fun c_639 => ?_) (fun c_639 => ?_)
                              · obtain ⟨j, hj, ej⟩ := sp_fo_in hN28 c_639
                                rw [ej]
                                refine sj_aload C 648 rfl dL_isSheet_646 rfl ?_
                                refine sj_iload C 650 rfl dL_isSheet_648 rfl ?_
                                refine sj_iald C 651 rfl dL_isSheet_650 kd_rp (sp_vp il_rp (by omega) (by omega)) ?_
                                rw [nI_clamp (by omega)]
                                rw [hp j hj]
                                refine sj_bipush C (8) 653 rfl dL_isSheet_651 (by decide) ?_
                                refine sj_ishr C 654 rfl dL_isSheet_653 ?_
                                rw [sp_pn_2 hI hj, show sj_oa m j 2 = sj_oa m (sj_tn (sj_fo m i e)) 2 by rw [ej, sj_tn_nI (by omega)]]
                                refine sj_for [some (.ref (g 141)), some (.int (nI (i))), some (.int (nI (e))), some (.int (x)), some (.ref rq), some (.ref ra), some (.ref rn), some (.ref rt), some (.ref rp), some (.int (x9)), some (.int (x10)), some (.int (nI (sp_hd m (-1) i))), some (.int (nI (b))), some (.int (sj_ia S rt ((8 * i) + b))), some (.int (j147)), some (.int (1)), some (.int (sj_on o)), some (.int (nI (1 + y9))), none, some (.int (sj_bi (decide (sj_hH m (-1) i = sj_hH m (-1) e)))), none] (show _ ∧ _ ∧ _ ∧ _ ∧ _ ∧ _ ∧ _ ∧ _ ∧ _ ∧ _ ∧ _ ∧ _ ∧ _ ∧ _ ∧ _ ∧ _ ∧ _ ∧ _ ∧ _ ∧ True from ⟨rfl, rfl, rfl, rfl, rfl, rfl, rfl, rfl, rfl, rfl, rfl, rfl, rfl, rfl, rfl, rfl, rfl, rfl, rfl, trivial⟩) ?_
                                exact cut_654 _  ((if_pos c_639).symm)
                              · refine sj_iconstv C (-1) 643 rfl dL_isSheet_642 rfl ?_
                                refine sj_goto C 654 rfl dL_isSheet_643 ?_
                                refine sj_for [some (.ref (g 141)), some (.int (nI (i))), some (.int (nI (e))), some (.int (x)), some (.ref rq), some (.ref ra), some (.ref rn), some (.ref rt), some (.ref rp), some (.int (x9)), some (.int (x10)), some (.int (nI (sp_hd m (-1) i))), some (.int (nI (b))), some (.int (sj_ia S rt ((8 * i) + b))), some (.int (j147)), some (.int (1)), some (.int (sj_on o)), some (.int (nI (1 + y9))), none, some (.int (sj_bi (decide (sj_hH m (-1) i = sj_hH m (-1) e)))), none] (show _ ∧ _ ∧ _ ∧ _ ∧ _ ∧ _ ∧ _ ∧ _ ∧ _ ∧ _ ∧ _ ∧ _ ∧ _ ∧ _ ∧ _ ∧ _ ∧ _ ∧ _ ∧ _ ∧ True from ⟨rfl, rfl, rfl, rfl, rfl, rfl, rfl, rfl, rfl, rfl, rfl, rfl, rfl, rfl, rfl, rfl, rfl, rfl, rfl, trivial⟩) ?_
                                exact cut_654 _  ((if_neg c_639).symm)
                            | succ k ih =>
                              intro o hkn hob hcb
                              rw [nI_pred]
                              have hk9 : k < sj_tn (m 9) := by omega
                              cases o with
                              | none =>
                                show sj_G X S (0 + 1 + 1 + 1 + 1 + 1 + 1 + 1 + 1 + 1 + 1 + 1 + 1) (0 + 6 + 6 + 6 + 6 + 6 + 6 + 6 + 6 + 6 + 6 + 6 + 6) [some (.ref (g 141)), some (.int (nI (i))), some (.int (nI (e))), some (.int (x)), some (.ref rq), some (.ref ra), some (.ref rn), some (.ref rt), some (.ref rp), some (.int (x9)), some (.int (x10)), some (.int (nI (sp_hd m (-1) i))), some (.int (nI (b))), some (.int (sj_ia S rt ((8 * i) + b))), some (.int (j147)), some (.int (1)), some (.int ((-1))), some (.int (nI (k))), none, none, none] 427 []
                                refine sj_iload C 429 rfl dL_isSheet_427 rfl ?_
                                refine sj_if_lt C 509 432 rfl rfl dL_isSheet_429 (fun c_429 => absurd c_429 (nI_pos (by omega))) (fun c_429 => ?_)
                                refine sj_iload C 434 rfl dL_isSheet_432 rfl ?_
                                refine sj_iload_n C 435 rfl dL_isSheet_434 rfl rfl ?_
                                refine sj_icmp_eq C 486 438 rfl rfl dL_isSheet_435 (fun c_435 => ?_) (fun c_435 => ?_)
                                · refine sj_iconstv C (0) 487 rfl dL_isSheet_486 rfl ?_
                                  refine sj_istore_18 C 489 rfl dL_isSheet_487 rfl rfl ?_
                                  refine sj_iload C 491 rfl dL_isSheet_489 rfl ?_
                                  refine sj_if_eq C 499 494 rfl rfl dL_isSheet_491 (fun c_491 => ?_) (fun c_491 => absurd c_491 (by decide))
                                  refine sj_iload C 501 rfl dL_isSheet_499 rfl ?_
                                  refine sj_istore_16 C 503 rfl dL_isSheet_501 rfl rfl ?_
                                  refine sj_iinc_17 C 506 rfl dL_isSheet_503 rfl rfl ?_
                                  rw [sp_m1]
                                  refine sj_goto C 427 rfl dL_isSheet_506 ?_
                                  refine sj_for [some (.ref (g 141)), some (.int (nI (i))), some (.int (nI (e))), some (.int (x)), some (.ref rq), some (.ref ra), some (.ref rn), some (.ref rt), some (.ref rp), some (.int (x9)), some (.int (x10)), some (.int (nI (sp_hd m (-1) i))), some (.int (nI (b))), some (.int (sj_ia S rt ((8 * i) + b))), some (.int (j147)), some (.int (1)), some (.int ((-1))), some (.int (nI k - 1)), none, none, none] (show _ ∧ _ ∧ _ ∧ _ ∧ _ ∧ _ ∧ _ ∧ _ ∧ _ ∧ _ ∧ _ ∧ _ ∧ _ ∧ _ ∧ _ ∧ _ ∧ _ ∧ _ ∧ True from ⟨rfl, rfl, rfl, rfl, rfl, rfl, rfl, rfl, rfl, rfl, rfl, rfl, rfl, rfl, rfl, rfl, rfl, rfl, trivial⟩) ?_
                                  exact ih none (by omega) hob (sp_mal_i hcb ((nI_eq (by omega) (by omega)).mp c_435))
                                · refine sj_iload C 440 rfl dL_isSheet_438 rfl ?_
                                  refine sj_if_lt C 482 443 rfl rfl dL_isSheet_440 (fun c_440 => ?_) (fun c_440 => absurd c_440 (by decide))
                                  refine sj_iconstv C (1) 483 rfl dL_isSheet_482 rfl ?_
                                  refine sj_goto C 487 rfl dL_isSheet_483 ?_
                                  refine sj_istore_18 C 489 rfl dL_isSheet_487 rfl rfl ?_
                                  refine sj_iload C 491 rfl dL_isSheet_489 rfl ?_
                                  refine sj_if_eq C 499 494 rfl rfl dL_isSheet_491 (fun c_491 => absurd c_491 (by decide)) (fun c_491 => ?_)
                                  refine sj_iload C 496 rfl dL_isSheet_494 rfl ?_
                                  refine sj_goto C 501 rfl dL_isSheet_496 ?_
                                  refine sj_istore_16 C 503 rfl dL_isSheet_501 rfl rfl ?_
                                  refine sj_iinc_17 C 506 rfl dL_isSheet_503 rfl rfl ?_
                                  rw [sp_m1]
                                  refine sj_goto C 427 rfl dL_isSheet_506 ?_
                                  refine sj_for [some (.ref (g 141)), some (.int (nI (i))), some (.int (nI (e))), some (.int (x)), some (.ref rq), some (.ref ra), some (.ref rn), some (.ref rt), some (.ref rp), some (.int (x9)), some (.int (x10)), some (.int (nI (sp_hd m (-1) i))), some (.int (nI (b))), some (.int (sj_ia S rt ((8 * i) + b))), some (.int (j147)), some (.int (1)), some (.int (nI (k))), some (.int (nI k - 1)), none, none, none] (show _ ∧ _ ∧ _ ∧ _ ∧ _ ∧ _ ∧ _ ∧ _ ∧ _ ∧ _ ∧ _ ∧ _ ∧ _ ∧ _ ∧ _ ∧ _ ∧ _ ∧ _ ∧ True from ⟨rfl, rfl, rfl, rfl, rfl, rfl, rfl, rfl, rfl, rfl, rfl, rfl, rfl, rfl, rfl, rfl, rfl, rfl, trivial⟩) ?_
                                  exact ih (some k) (by omega) (fun b hb => by cases hb; exact hk9) (sp_mal_k hcb (fun h9 => c_435 (by rw [h9])))
                              | some v =>
                                have hv9 := hob v rfl
                                show sj_G X S (0 + 1 + 1 + 1 + 1 + 1 + 1 + 1 + 1 + 1 + 1 + 1 + 1) (0 + 6 + 6 + 6 + 6 + 6 + 6 + 6 + 6 + 6 + 6 + 6 + 6) [some (.ref (g 141)), some (.int (nI (i))), some (.int (nI (e))), some (.int (x)), some (.ref rq), some (.ref ra), some (.ref rn), some (.ref rt), some (.ref rp), some (.int (x9)), some (.int (x10)), some (.int (nI (sp_hd m (-1) i))), some (.int (nI (b))), some (.int (sj_ia S rt ((8 * i) + b))), some (.int (j147)), some (.int (1)), some (.int (nI (v))), some (.int (nI (k))), none, none, none] 427 []
                                refine sj_iload C 429 rfl dL_isSheet_427 rfl ?_
                                refine sj_if_lt C 509 432 rfl rfl dL_isSheet_429 (fun c_429 => absurd c_429 (nI_pos (by omega))) (fun c_429 => ?_)
                                refine sj_iload C 434 rfl dL_isSheet_432 rfl ?_
                                refine sj_iload_n C 435 rfl dL_isSheet_434 rfl rfl ?_
                                refine sj_icmp_eq C 486 438 rfl rfl dL_isSheet_435 (fun c_435 => ?_) (fun c_435 => ?_)
                                · refine sj_iconstv C (0) 487 rfl dL_isSheet_486 rfl ?_
                                  refine sj_istore_18 C 489 rfl dL_isSheet_487 rfl rfl ?_
                                  refine sj_iload C 491 rfl dL_isSheet_489 rfl ?_
                                  refine sj_if_eq C 499 494 rfl rfl dL_isSheet_491 (fun c_491 => ?_) (fun c_491 => absurd c_491 (by decide))
                                  refine sj_iload C 501 rfl dL_isSheet_499 rfl ?_
                                  refine sj_istore_16 C 503 rfl dL_isSheet_501 rfl rfl ?_
                                  refine sj_iinc_17 C 506 rfl dL_isSheet_503 rfl rfl ?_
                                  rw [sp_m1]
                                  refine sj_goto C 427 rfl dL_isSheet_506 ?_
                                  refine sj_for [some (.ref (g 141)), some (.int (nI (i))), some (.int (nI (e))), some (.int (x)), some (.ref rq), some (.ref ra), some (.ref rn), some (.ref rt), some (.ref rp), some (.int (x9)), some (.int (x10)), some (.int (nI (sp_hd m (-1) i))), some (.int (nI (b))), some (.int (sj_ia S rt ((8 * i) + b))), some (.int (j147)), some (.int (1)), some (.int (nI (v))), some (.int (nI k - 1)), none, none, none] (show _ ∧ _ ∧ _ ∧ _ ∧ _ ∧ _ ∧ _ ∧ _ ∧ _ ∧ _ ∧ _ ∧ _ ∧ _ ∧ _ ∧ _ ∧ _ ∧ _ ∧ _ ∧ True from ⟨rfl, rfl, rfl, rfl, rfl, rfl, rfl, rfl, rfl, rfl, rfl, rfl, rfl, rfl, rfl, rfl, rfl, rfl, trivial⟩) ?_
                                  exact ih (some v) (by omega) hob (sp_mal_i hcb ((nI_eq (by omega) (by omega)).mp c_435))
                                · refine sj_iload C 440 rfl dL_isSheet_438 rfl ?_
                                  refine sj_if_lt C 482 443 rfl rfl dL_isSheet_440 (fun c_440 => absurd c_440 (nI_pos (by omega))) (fun c_440 => ?_)
                                  refine sj_iload_n C 444 rfl dL_isSheet_443 rfl rfl ?_
                                  refine sj_iload C 446 rfl dL_isSheet_444 rfl ?_
                                  refine sj_iconstv C (0) 447 rfl dL_isSheet_446 rfl ?_
                                  refine sj_aload C 449 rfl dL_isSheet_447 rfl ?_
                                  refine sj_aload C 451 rfl dL_isSheet_449 rfl ?_
                                  refine sj_aload C 453 rfl dL_isSheet_451 rfl ?_
                                  refine sj_aload C 455 rfl dL_isSheet_453 rfl ?_
                                  refine sj_callSd C 458 rfl dL_isSheet_455 cv_L_127 (sj_fitO rfl rfl (show 0 + 1 + 1 + 1 + 1 + 1 + 1 + 1 + 1 + 1 + 1 + 1 + 1 + 0 ≤ 80 by omega) (show 0 + 6 + 6 + 6 + 6 + 6 + 6 + 6 + 6 + 6 + 6 + 6 + 6 + 0 ≤ 480 by omega)) (ct_L_agreeing0 _ h hI hi hk9) rfl rfl rfl ⟨rfl, rfl⟩ ?_
                                  refine sj_callSd C 461 rfl dL_isSheet_458 cv_L_131 (sj_fitO rfl rfl (show 0 + 1 + 1 + 1 + 1 + 1 + 1 + 1 + 1 + 1 + 1 + 1 + 1 + 0 ≤ 80 by omega) (show 0 + 6 + 6 + 6 + 6 + 6 + 6 + 6 + 6 + 6 + 6 + 6 + 6 + 0 ≤ 480 by omega)) (ct_L_ones_a _ _ m i k) rfl rfl rfl ⟨rfl, rfl⟩ ?_
                                  refine sj_iload_n C 462 rfl dL_isSheet_461 rfl rfl ?_
                                  refine sj_iload C 464 rfl dL_isSheet_462 rfl ?_
                                  refine sj_iconstv C (0) 465 rfl dL_isSheet_464 rfl ?_
                                  refine sj_aload C 467 rfl dL_isSheet_465 rfl ?_
                                  refine sj_aload C 469 rfl dL_isSheet_467 rfl ?_
                                  refine sj_aload C 471 rfl dL_isSheet_469 rfl ?_
                                  refine sj_aload C 473 rfl dL_isSheet_471 rfl ?_
                                  refine sj_callSd C 476 rfl dL_isSheet_473 cv_L_127 (sj_fitO rfl rfl (show 0 + 1 + 1 + 1 + 1 + 1 + 1 + 1 + 1 + 1 + 1 + 1 + 1 + 0 ≤ 80 by omega) (show 0 + 6 + 6 + 6 + 6 + 6 + 6 + 6 + 6 + 6 + 6 + 6 + 6 + 0 ≤ 480 by omega)) (ct_L_agreeing0 _ h hI hi hv9) rfl rfl rfl ⟨rfl, rfl⟩ ?_
                                  refine sj_callSd C 479 rfl dL_isSheet_476 cv_L_131 (sj_fitO rfl rfl (show 0 + 1 + 1 + 1 + 1 + 1 + 1 + 1 + 1 + 1 + 1 + 1 + 1 + 0 ≤ 80 by omega) (show 0 + 6 + 6 + 6 + 6 + 6 + 6 + 6 + 6 + 6 + 6 + 6 + 6 + 0 ≤ 480 by omega)) (ct_L_ones_a _ _ m i v) rfl rfl rfl ⟨rfl, rfl⟩ ?_
                                  refine sj_icmp_lt C 486 482 rfl rfl dL_isSheet_479 (fun c_479 => ?_) (fun c_479 => ?_)
                                  · refine sj_iconstv C (0) 487 rfl dL_isSheet_486 rfl ?_
                                    refine sj_istore_18 C 489 rfl dL_isSheet_487 rfl rfl ?_
                                    refine sj_iload C 491 rfl dL_isSheet_489 rfl ?_
                                    refine sj_if_eq C 499 494 rfl rfl dL_isSheet_491 (fun c_491 => ?_) (fun c_491 => absurd c_491 (by decide))
                                    refine sj_iload C 501 rfl dL_isSheet_499 rfl ?_
                                    refine sj_istore_16 C 503 rfl dL_isSheet_501 rfl rfl ?_
                                    refine sj_iinc_17 C 506 rfl dL_isSheet_503 rfl rfl ?_
                                    rw [sp_m1]
                                    refine sj_goto C 427 rfl dL_isSheet_506 ?_
                                    refine sj_for [some (.ref (g 141)), some (.int (nI (i))), some (.int (nI (e))), some (.int (x)), some (.ref rq), some (.ref ra), some (.ref rn), some (.ref rt), some (.ref rp), some (.int (x9)), some (.int (x10)), some (.int (nI (sp_hd m (-1) i))), some (.int (nI (b))), some (.int (sj_ia S rt ((8 * i) + b))), some (.int (j147)), some (.int (1)), some (.int (nI (v))), some (.int (nI k - 1)), none, none, none] (show _ ∧ _ ∧ _ ∧ _ ∧ _ ∧ _ ∧ _ ∧ _ ∧ _ ∧ _ ∧ _ ∧ _ ∧ _ ∧ _ ∧ _ ∧ _ ∧ _ ∧ _ ∧ True from ⟨rfl, rfl, rfl, rfl, rfl, rfl, rfl, rfl, rfl, rfl, rfl, rfl, rfl, rfl, rfl, rfl, rfl, rfl, trivial⟩) ?_
                                    have hcb2 := sp_mal_k hcb (fun h9 => c_435 (by rw [h9]))
                                    rw [show sp_cb m i (some k) (some v) = some v from if_pos c_479] at hcb2
                                    exact ih (some v) (by omega) hob hcb2
                                  · refine sj_iconstv C (1) 483 rfl dL_isSheet_482 rfl ?_
                                    refine sj_goto C 487 rfl dL_isSheet_483 ?_
                                    refine sj_istore_18 C 489 rfl dL_isSheet_487 rfl rfl ?_
                                    refine sj_iload C 491 rfl dL_isSheet_489 rfl ?_
                                    refine sj_if_eq C 499 494 rfl rfl dL_isSheet_491 (fun c_491 => absurd c_491 (by decide)) (fun c_491 => ?_)
                                    refine sj_iload C 496 rfl dL_isSheet_494 rfl ?_
                                    refine sj_goto C 501 rfl dL_isSheet_496 ?_
                                    refine sj_istore_16 C 503 rfl dL_isSheet_501 rfl rfl ?_
                                    refine sj_iinc_17 C 506 rfl dL_isSheet_503 rfl rfl ?_
                                    rw [sp_m1]
                                    refine sj_goto C 427 rfl dL_isSheet_506 ?_
                                    refine sj_for [some (.ref (g 141)), some (.int (nI (i))), some (.int (nI (e))), some (.int (x)), some (.ref rq), some (.ref ra), some (.ref rn), some (.ref rt), some (.ref rp), some (.int (x9)), some (.int (x10)), some (.int (nI (sp_hd m (-1) i))), some (.int (nI (b))), some (.int (sj_ia S rt ((8 * i) + b))), some (.int (j147)), some (.int (1)), some (.int (nI (k))), some (.int (nI k - 1)), none, none, none] (show _ ∧ _ ∧ _ ∧ _ ∧ _ ∧ _ ∧ _ ∧ _ ∧ _ ∧ _ ∧ _ ∧ _ ∧ _ ∧ _ ∧ _ ∧ _ ∧ _ ∧ _ ∧ True from ⟨rfl, rfl, rfl, rfl, rfl, rfl, rfl, rfl, rfl, rfl, rfl, rfl, rfl, rfl, rfl, rfl, rfl, rfl, trivial⟩) ?_
                                    have hcb2 := sp_mal_k hcb (fun h9 => c_435 (by rw [h9]))
                                    rw [show sp_cb m i (some k) (some v) = some k from if_neg c_479] at hcb2
                                    exact ih (some k) (by omega) (fun b hb => by cases hb; exact hk9) hcb2
                          refine sj_istore_17 C 427 rfl dL_isSheet_425 rfl rfl ?_
                          exact cut_427 (sj_tn (m 9)) none (Nat.le_refl _) (fun b hb => by cases hb) (sp_cb_n m i _)
                        refine sj_if_eq C 404 396 rfl rfl dL_isSheet_393 (fun c_393 => ?_) (fun c_393 => ?_)
                        · refine sj_iconstv C (-1) 405 rfl dL_isSheet_404 rfl ?_
                          exact cut_405 _  ((if_pos c_393).symm)
                        · have hb9 : b < sj_ns m i := sp_has n8 hb h147 c_393
                          refine sj_iload C 398 rfl dL_isSheet_396 rfl ?_
                          refine sj_bipush C (18) 400 rfl dL_isSheet_398 (by decide) ?_
                          refine sj_ishr C 401 rfl dL_isSheet_400 ?_
                          rw [sp_tk_4 (hti b hb9)]
                          refine sj_goto C 405 rfl dL_isSheet_401 ?_
                          exact cut_405 _  ((if_neg c_393).symm)
                      refine sj_if_eq C 379 371 rfl rfl dL_isSheet_368 (fun c_368 => ?_) (fun c_368 => ?_)
                      · refine sj_iconstv C (-1) 380 rfl dL_isSheet_379 rfl ?_
                        exact cut_380 _  ((if_pos c_368).symm)
                      · have hb9 : b < sj_ns m i := sp_has n8 hb h147 c_368
                        refine sj_iload C 373 rfl dL_isSheet_371 rfl ?_
                        refine sj_callSd C 376 rfl dL_isSheet_373 cv_L_102 (sj_fitO rfl rfl (show 0 + 1 + 1 + 1 + 1 + 1 + 1 + 1 + 1 + 1 + 1 + 1 + 0 ≤ 80 by omega) (show 0 + 6 + 6 + 6 + 6 + 6 + 6 + 6 + 6 + 6 + 6 + 6 + 0 ≤ 480 by omega)) (ct_L_pressure _ _ (hti b hb9)) rfl rfl rfl ⟨rfl, rfl⟩ ?_
                        refine sj_goto C 380 rfl dL_isSheet_376 ?_
                        exact cut_380 _  ((if_neg c_368).symm)
                    refine sj_if_eq C 354 346 rfl rfl dL_isSheet_343 (fun c_343 => ?_) (fun c_343 => ?_)
                    · refine sj_iconstv C (-1) 355 rfl dL_isSheet_354 rfl ?_
                      exact cut_355 _  ((if_pos c_343).symm)
                    · have hb9 : b < sj_ns m i := sp_has n8 hb h147 c_343
                      refine sj_iload C 348 rfl dL_isSheet_346 rfl ?_
                      refine sj_callSd C 351 rfl dL_isSheet_348 cv_L_99 (sj_fitO rfl rfl (show 0 + 1 + 1 + 1 + 1 + 1 + 1 + 1 + 1 + 1 + 1 + 0 ≤ 80 by omega) (show 0 + 6 + 6 + 6 + 6 + 6 + 6 + 6 + 6 + 6 + 6 + 0 ≤ 480 by omega)) (ct_L_loop _ _ (hti b hb9)) rfl rfl rfl ⟨rfl, rfl⟩ ?_
                      refine sj_goto C 355 rfl dL_isSheet_351 ?_
                      exact cut_355 _  ((if_neg c_343).symm)
                  refine sj_if_eq C 329 321 rfl rfl dL_isSheet_318 (fun c_318 => ?_) (fun c_318 => ?_)
                  · refine sj_iconstv C (-1) 330 rfl dL_isSheet_329 rfl ?_
                    exact cut_330 _  ((if_pos c_318).symm)
                  · have hb9 : b < sj_ns m i := sp_has n8 hb h147 c_318
                    refine sj_iload C 323 rfl dL_isSheet_321 rfl ?_
                    refine sj_callSd C 326 rfl dL_isSheet_323 cv_L_96 (sj_fitO rfl rfl (show 0 + 1 + 1 + 1 + 1 + 1 + 1 + 1 + 1 + 1 + 0 ≤ 80 by omega) (show 0 + 6 + 6 + 6 + 6 + 6 + 6 + 6 + 6 + 6 + 0 ≤ 480 by omega)) (ct_L_height _ _ (hti b hb9)) rfl rfl rfl ⟨rfl, rfl⟩ ?_
                    refine sj_goto C 330 rfl dL_isSheet_326 ?_
                    exact cut_330 _  ((if_neg c_318).symm)
                refine sj_if_eq C 304 293 rfl rfl dL_isSheet_290 (fun c_290 => ?_) (fun c_290 => ?_)
                · refine sj_iconstv C (-1) 305 rfl dL_isSheet_304 rfl ?_
                  exact cut_305 _  ((if_pos c_290).symm)
                · have hb9 : b < sj_ns m i := sp_has n8 hb h147 c_290
                  refine sj_iload C 295 rfl dL_isSheet_293 rfl ?_
                  refine sj_callSd C 298 rfl dL_isSheet_295 cv_L_93 (sj_fitO rfl rfl (show 0 + 1 + 1 + 1 + 1 + 1 + 1 + 1 + 1 + 0 ≤ 80 by omega) (show 0 + 6 + 6 + 6 + 6 + 6 + 6 + 6 + 6 + 0 ≤ 480 by omega)) (ct_L_slant _ _ (hti b hb9)) rfl rfl rfl ⟨rfl, rfl⟩ ?_
                  refine sj_bipush C (100) 300 rfl dL_isSheet_298 (by decide) ?_
                  refine sj_iadd C 301 rfl dL_isSheet_300 ?_
                  refine sj_goto C 305 rfl dL_isSheet_301 ?_
                  exact cut_305 _  ((if_neg c_290).symm)
              refine sj_icmp_lt C 264 260 rfl rfl dL_isSheet_257 (fun c_257 => ?_) (fun c_257 => ?_)
              · refine sj_iconstv C (0) 265 rfl dL_isSheet_264 rfl ?_
                exact cut_265 _  ((if_pos c_257).symm)
              · refine sj_iconstv C (1) 261 rfl dL_isSheet_260 rfl ?_
                refine sj_goto C 265 rfl dL_isSheet_261 ?_
                exact cut_265 _  ((if_neg c_257).symm)
            refine sj_if_eq C 209 205 rfl rfl dL_isSheet_202 (fun c_202 => ?_) (fun c_202 => ?_)
            · refine sj_iconstv C (0) 210 rfl dL_isSheet_209 rfl ?_
              exact cut_210 _  ((if_pos c_202).symm)
            · refine sj_iconstv C (1) 206 rfl dL_isSheet_205 rfl ?_
              refine sj_goto C 210 rfl dL_isSheet_206 ?_
              exact cut_210 _  ((if_neg c_202).symm)
          refine sj_icmp_ge C 146 142 rfl rfl dL_isSheet_139 (fun c_139 => ?_) (fun c_139 => ?_)
          · refine sj_iconstv C (0) 147 rfl dL_isSheet_146 rfl ?_
            exact cut_147 _  ((if_pos c_139).symm)
          · refine sj_iconstv C (1) 143 rfl dL_isSheet_142 rfl ?_
            refine sj_goto C 147 rfl dL_isSheet_143 ?_
            exact cut_147 _  ((if_neg c_139).symm)
        · have hlt : k < sj_tn (m 10) := Nat.not_le.mp fun h9 => c_55 (nI_le (a := sj_tn (m 10)) h9 (by omega))
          refine sj_iload C 60 rfl dL_isSheet_58 rfl ?_
          refine sj_aload C 62 rfl dL_isSheet_60 rfl ?_
          refine sj_iload C 64 rfl dL_isSheet_62 rfl ?_
          refine sj_iald C 65 rfl dL_isSheet_64 kd_rp (sp_vp il_rp (by omega) (by omega)) ?_
          rw [nI_clamp (by omega)]
          rw [hp k hlt]
          refine sj_bipush C (15) 67 rfl dL_isSheet_65 (by decide) ?_
          refine sj_iand C 68 rfl dL_isSheet_67 ?_
          rw [sp_pn_0 hI hlt]
          refine sj_iload_n C 69 rfl dL_isSheet_68 rfl rfl ?_
          have cut_91 : ∀ j91 : Int32, (((nI (sj_tn (sj_oa m k 0)) = nI (i)) ∧ j91 = 1) ∨ ((¬ nI (sj_tn (sj_oa m k 0)) = nI (i)) ∧ (¬ nI (sj_tn (sj_oa m k 1)) = nI (i)) ∧ j91 = 0) ∨ ((¬ nI (sj_tn (sj_oa m k 0)) = nI (i)) ∧ (nI (sj_tn (sj_oa m k 1)) = nI (i)) ∧ j91 = 1)) → sj_G X S 0 0 [some (.ref (g 141)), some (.int (nI (i))), some (.int (nI (e))), some (.int (x)), some (.ref rq), some (.ref ra), some (.ref rn), some (.ref rt), some (.ref rp), some (.int (x9)), some (.int (x10)), some (.int (nI (k))), none, none, none, none, none, none, none, none, none] 91 [.int (j91), .int (x10)] := by
            intro j91 h91
            refine sj_iadd C 92 rfl dL_isSheet_91 ?_
            refine sj_istore_10 C 94 rfl dL_isSheet_92 rfl rfl ?_
            refine sj_iinc_11 C 97 rfl dL_isSheet_94 rfl rfl ?_
            rw [show nI (k) + Int32.ofInt 1 = nI (k + 1) from nI_add _ _]
            refine sj_goto C 48 rfl dL_isSheet_97 ?_
            exact ih_48 (hlt) _ (by rw [sp_oof_j hI hlt h91, e_x10]; rfl)
          refine sj_icmp_eq C 86 72 rfl rfl dL_isSheet_69 (fun c_69 => ?_) (fun c_69 => ?_)
          · refine sj_iconstv C (1) 87 rfl dL_isSheet_86 rfl ?_
            refine sj_goto C 91 rfl dL_isSheet_87 ?_
            exact cut_91 _  (Or.inl ⟨c_69, rfl⟩)
          · refine sj_aload C 74 rfl dL_isSheet_72 rfl ?_
            refine sj_iload C 76 rfl dL_isSheet_74 rfl ?_
            refine sj_iald C 77 rfl dL_isSheet_76 kd_rp (sp_vp il_rp (by omega) (by omega)) ?_
            rw [nI_clamp (by omega)]
            rw [hp k hlt]
            refine sj_iconstv C (4) 78 rfl dL_isSheet_77 rfl ?_
            refine sj_ishr C 79 rfl dL_isSheet_78 ?_
            refine sj_bipush C (15) 81 rfl dL_isSheet_79 (by decide) ?_
            refine sj_iand C 82 rfl dL_isSheet_81 ?_
            rw [sp_pn_1 hI hlt]
            refine sj_iload_n C 83 rfl dL_isSheet_82 rfl rfl ?_
            refine sj_icmp_ne C 90 86 rfl rfl dL_isSheet_83 (fun c_83 => ?_) (fun c_83 => ?_)
            · refine sj_iconstv C (0) 91 rfl dL_isSheet_90 rfl ?_
              exact cut_91 _  (Or.inr (Or.inl ⟨c_69, c_83, rfl⟩))
            · refine sj_iconstv C (1) 87 rfl dL_isSheet_86 rfl ?_
              refine sj_goto C 91 rfl dL_isSheet_87 ?_
              exact cut_91 _  (Or.inr (Or.inr (⟨c_69, c_83, rfl⟩)))
      refine sj_iconstv C (0) 46 rfl dL_isSheet_45 rfl ?_
      refine sj_istore_11 C 48 rfl dL_isSheet_46 rfl rfl ?_
      exact cut_48 _ (rfl)
    · have hlt : k < sj_ns m i := Nat.not_le.mp fun h9 => c_23 (nI_le (show 8 * i + sj_ns m i ≤ 8 * i + k by omega) (by omega))
      refine sj_iload C 28 rfl dL_isSheet_26 rfl ?_
      refine sj_aload C 30 rfl dL_isSheet_28 rfl ?_
      refine sj_iload C 32 rfl dL_isSheet_30 rfl ?_
      refine sj_iald C 33 rfl dL_isSheet_32 kd_rt (sp_vp il_rt (by omega) (by omega)) ?_
      rw [nI_clamp (by omega)]
      refine sj_callSd C 36 rfl dL_isSheet_33 cv_L_99 (sj_fitO rfl rfl (show 0 + 0 ≤ 80 by omega) (show 0 + 0 ≤ 480 by omega)) (ct_L_loop _ _ (hti k hlt)) rfl rfl rfl ⟨rfl, rfl⟩ ?_
      refine sj_iadd C 37 rfl dL_isSheet_36 ?_
      refine sj_istore_9 C 39 rfl dL_isSheet_37 rfl rfl ?_
      refine sj_iinc_11 C 42 rfl dL_isSheet_39 rfl rfl ?_
      rw [show nI (8 * i + k) + Int32.ofInt 1 = nI ((8 * i + k) + 1) from nI_add _ _]
      refine sj_goto C 12 rfl dL_isSheet_42 ?_
      exact ih_12 (hlt) _ (by rw [e_x9]; rfl)
  refine sj_bipush C (8) 8 rfl dL_isSheet_6 (by decide) ?_
  refine sj_iload_n C 9 rfl dL_isSheet_8 rfl rfl ?_
  refine sj_imul C 10 rfl dL_isSheet_9 ?_
  rw [show 8 * nI (i) = nI (8 * i) from sj_nmul 8 i]
  refine sj_istore_11 C 12 rfl dL_isSheet_10 rfl rfl ?_
  exact cut_12 _ (rfl)
