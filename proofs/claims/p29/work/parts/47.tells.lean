/-! THE CLASS: what its table tells -/
theorem sj_sz_cm {a b : Int32} (ha : sj_sm a) (hb : sj_sm b) : sj_sz (a - b) = sj_sz (b - a) := by
  obtain ⟨a1, a2⟩ := ha
  obtain ⟨b1, b2⟩ := hb
  have e : (a - b).toInt = a.toInt - b.toInt := sj_ti_sub (by omega) (by omega) (by omega) (by omega)
  have e' : (b - a).toInt = b.toInt - a.toInt := sj_ti_sub (by omega) (by omega) (by omega) (by omega)
  apply Int32.toInt_inj.mp
  unfold sj_sz
  by_cases h : a - b < 0
  · have h1 : (a - b).toInt < 0 := Int32.lt_iff_toInt_lt.mp h
    have h2 : ¬ b - a < 0 := fun h3 => by
      have h4 : (b - a).toInt < 0 := Int32.lt_iff_toInt_lt.mp h3
      omega
    rw [if_pos h, if_neg h2, sj_ti_neg (by omega) (by omega)]
    omega
  · have h1 : 0 ≤ (a - b).toInt := Int32.le_iff_toInt_le.mp (Int32.not_lt.mp h)
    rw [if_neg h]
    by_cases h3 : b - a < 0
    · rw [if_pos h3, sj_ti_neg (by omega) (by omega)]
      omega
    · have h2 : 0 ≤ (b - a).toInt := Int32.le_iff_toInt_le.mp (Int32.not_lt.mp h3)
      rw [if_neg h3]
      omega
theorem sj_lik_cm {m : Nat → Int32} (hI : sj_inv m) {i e : Nat} (hi : i < sj_tn (m 9)) (he : e < sj_tn (m 9)) : sj_lik m i e = sj_lik m e i := by
  obtain ⟨a, ha, ea⟩ := sj_inv_age hI hi
  obtain ⟨c, hc, ec⟩ := sj_inv_age hI he
  have k : ∀ j, j < 6 → sj_agb m i e j = sj_agb m e i j := fun j hj => by
    unfold sj_agb sj_gn sj_dfr
    rw [sj_sz_cm (sj_mk_sm (hI.2.2.2.1 i hi) hj) (sj_mk_sm (hI.2.2.2.1 e he) hj), sj_sz_cm (a := sj_of m i 0) (b := sj_of m e 0) (by rw [ea]; exact sj_sm_n (by omega)) (by rw [ec]; exact sj_sm_n (by omega)), Bool.or_comm (sj_hf m i) (sj_hf m e)]
  unfold sj_lik
  rw [sj_agr_m6, sj_agr_m6, k 0 (by omega), k 1 (by omega), k 2 (by omega), k 3 (by omega), k 4 (by omega), k 5 (by omega)]
theorem sj_a1_cm (m : Nat → Int32) (i e : Nat) : sj_a1 m i e = sj_a1 m e i := decide_eq_decide.mpr ⟨Eq.symm, Eq.symm⟩
/-- over the pairs, the lesser one first -/
def sq_ps (f : Nat → Nat → Int32) (n : Nat) : Nat → Int32
  | 0 => 0
  | i + 1 => sq_ps f n i + sj_sum (fun t => f i (i + 1 + t)) (n - (i + 1))
def sj_pl (f : Nat → Nat → Int32) : Nat → Int32
  | 0 => 0
  | k + 1 => sj_pl f k + sj_sum (fun e => f k e) k
theorem sq_ps_s (f : Nat → Nat → Int32) (n : Nat) : ∀ i, i ≤ n → sq_ps f (n + 1) i = sq_ps f n i + sj_sum (fun a => f a n) i
  | 0, _ => rfl
  | i + 1, h => by
    have ih := sq_ps_s f n i (by omega)
    show sq_ps f (n + 1) i + sj_sum (fun t => f i (i + 1 + t)) (n + 1 - (i + 1)) = (sq_ps f n i + sj_sum (fun t => f i (i + 1 + t)) (n - (i + 1))) + (sj_sum (fun a => f a n) i + f i n)
    rw [ih, show n + 1 - (i + 1) = (n - (i + 1)) + 1 by omega]
    show (sq_ps f n i + sj_sum (fun a => f a n) i) + (sj_sum (fun t => f i (i + 1 + t)) (n - (i + 1)) + f i (i + 1 + (n - (i + 1)))) = _
    rw [show i + 1 + (n - (i + 1)) = n by omega]
    generalize sq_ps f n i = A
    generalize sj_sum (fun a => f a n) i = B
    generalize sj_sum (fun t => f i (i + 1 + t)) (n - (i + 1)) = C
    rw [Int32.add_assoc, Int32.add_assoc, ← Int32.add_assoc B C, Int32.add_comm B C, Int32.add_assoc C B]
theorem sq_ps_pl (f : Nat → Nat → Int32) : ∀ n, (∀ a b, a < n → b < n → f a b = f b a) → sq_ps f n n = sj_pl f n
  | 0, _ => rfl
  | n + 1, h => by
    have ih := sq_ps_pl f n (fun a b ha hb => h a b (by omega) (by omega))
    show sq_ps f (n + 1) n + sj_sum (fun t => f n (n + 1 + t)) (n + 1 - (n + 1)) = sj_pl f n + sj_sum (fun e => f n e) n
    rw [sq_ps_s f n n (Nat.le_refl n), ih, Nat.sub_self, sj_sum_cg (f := fun a => f a n) (g := fun e => f n e) n (fun k hk => h k n (by omega) (by omega))]
    exact Int32.add_zero _
theorem sj_lps_pl (m : Nat → Int32) : ∀ n, sj_lps m n = sj_pl (fun k e => sj_bi (decide (m 8 ≤ sj_lik m k e))) n
  | 0 => rfl
  | n + 1 => congrArg (fun z => z + sj_lpr m n) (sj_lps_pl m n)
theorem sj_shp_pl (m : Nat → Int32) : ∀ n, sj_shp m n = sj_pl (fun k e => sj_bi (sj_a1 m k e)) n
  | 0 => rfl
  | n + 1 => congrArg (fun z => z + sj_sum (fun e => sj_bi (sj_a1 m n e)) n) (sj_shp_pl m n)
theorem sj_shl_pl (m : Nat → Int32) : ∀ n, sj_shl m n = sj_pl (fun k e => if sj_a1 m k e then sj_lik m k e else 0) n
  | 0 => rfl
  | n + 1 => congrArg (fun z => z + sj_sum (fun e => if sj_a1 m n e then sj_lik m n e else 0) n) (sj_shl_pl m n)
/-- the greatest -/
theorem sj_big_0 (f : Nat → Int32) : ∀ n, 0 ≤ sj_big f n
  | 0 => Int32.le_refl 0
  | n + 1 => by
    have ih := sj_big_0 f n
    unfold sj_big
    by_cases h : sj_big f n < f n
    · rw [if_pos h]
      exact Int32.le_trans ih (Int32.le_of_lt h)
    · rw [if_neg h]
      exact ih
theorem sj_big_le (f : Nat → Int32) : ∀ n i, i < n → f i ≤ sj_big f n
  | n + 1, i, hi => by
    unfold sj_big
    by_cases h : sj_big f n < f n
    · rw [if_pos h]
      by_cases e : i = n
      · rw [e]
        exact Int32.le_refl _
      · exact Int32.le_trans (sj_big_le f n i (by omega)) (Int32.le_of_lt h)
    · rw [if_neg h]
      by_cases e : i = n
      · rw [e]
        exact Int32.not_lt.mp h
      · exact sj_big_le f n i (by omega)
theorem sj_big_ex (f : Nat → Int32) : ∀ n, sj_big f n = 0 ∨ ∃ i, i < n ∧ sj_big f n = f i
  | 0 => Or.inl rfl
  | n + 1 => by
    unfold sj_big
    by_cases h : sj_big f n < f n
    · rw [if_pos h]
      exact Or.inr ⟨n, by omega, rfl⟩
    · rw [if_neg h]
      exact (sj_big_ex f n).imp id (fun ⟨i, hi, e⟩ => ⟨i, by omega, e⟩)
theorem sj_sum_bi0 (p : Nat → Bool) : ∀ n, (∀ k, k < n → p k = false) → sj_sum (fun k => sj_bi (p k)) n = 0
  | 0, _ => rfl
  | n + 1, h => by
    show sj_sum (fun k => sj_bi (p k)) n + sj_bi (p n) = 0
    rw [sj_sum_bi0 p n (fun k hk => h k (by omega)), h n (by omega)]
    rfl
def sq_mem (m : Nat → Int32) (i : Nat) : Int32 := sj_sum (fun j => sj_bi (sj_a1 m i j)) (sj_tn (m 9))
theorem sq_mem_m {m : Nat → Int32} {i x : Nat} (e : sj_hH m (-1) i = nI x) : sq_mem m i = sj_mem m x := by
  refine sj_sum_cg _ (fun k _ => congrArg sj_bi (decide_eq_decide.mpr ?_))
  rw [e]
  exact ⟨Eq.symm, Eq.symm⟩
theorem sq_moh {m : Nat → Int32} (hv : sj_oav m) : sj_big (sq_mem m) (sj_tn (m 9)) = sj_moh m := by
  have hn8 := hv.1.2
  refine Int32.le_antisymm ?_ ?_
  · rcases sj_big_ex (sq_mem m) (sj_tn (m 9)) with h | ⟨i, hi, h⟩
    · rw [h]
      exact sj_big_0 _ _
    · obtain ⟨x, hx, ex⟩ := (sj_hnd_v hv (-1) (sj_tn (m 10)) (Nat.le_refl _) i).1 hi
      rw [h, sq_mem_m ex]
      exact sj_big_le (sj_mem m) _ x (by omega)
  · unfold sj_moh
    rcases sj_big_ex (sj_mem m) (sj_tn (m 9)) with h | ⟨k, hk, h⟩
    · rw [h]
      exact sj_big_0 _ _
    · rw [h]
      by_cases hex : ∃ e, e < sj_tn (m 9) ∧ sj_hH m (-1) e = nI k
      · obtain ⟨e, he, ee⟩ := hex
        rw [← sq_mem_m ee]
        exact sj_big_le (sq_mem m) _ e he
      · rw [show sj_mem m k = 0 from sj_sum_bi0 _ _ (fun e he => decide_eq_false (fun ee => hex ⟨e, he, ee⟩))]
        exact sj_big_0 _ _
/-- how alike the best one so far is -/
def sq_mo (m : Nat → Int32) (i : Nat) (o : Option Nat) : Int32 := match o with
  | none => -1
  | some j => sj_lik m i j
theorem sq_mal_s {m : Nat → Int32} {i k : Nat} (h : ¬ k = i) : (sq_mo m i (sj_mal m i k) < sj_lik m i k → sj_mal m i (k + 1) = some k) ∧ (¬ sq_mo m i (sj_mal m i k) < sj_lik m i k → sj_mal m i (k + 1) = sj_mal m i k) := by
  have e : sj_mal m i (k + 1) = (match sj_mal m i k with
    | none => some k
    | some j => if sj_lik m i j < sj_lik m i k then some k else some j) := if_neg h
  obtain ⟨x, hx, ex⟩ := sj_lik_6 m i k
  rw [e]
  cases hm : sj_mal m i k with
  | none =>
    refine ⟨fun _ => rfl, fun h2 => absurd ?_ h2⟩
    show (-1 : Int32) < sj_lik m i k
    rw [ex]
    exact Int32.lt_of_lt_of_le (show (-1 : Int32) < 0 by decide) (nI_pos' (by omega))
  | some j => exact ⟨fun h2 => if_pos h2, fun h2 => if_neg h2⟩
theorem sj_pas0 {m : Nat → Int32} (hI : sj_inv m) : sj_pas m 0 (sj_tn (m 9)) = m := by
  funext j
  by_cases h : ∃ i, i < sj_tn (m 9) ∧ j = 98 + 42 * i
  · obtain ⟨i, hi, rfl⟩ := h
    obtain ⟨a, ha, ea⟩ := sj_inv_age hI hi
    have h1 := sj_pas_at m 0 (sj_tn (m 9)) hi
    have h2 : sj_age m 0 i = sj_of m i 0 := by
      unfold sj_age
      rw [Int32.add_zero, if_neg]
      rw [ea]
      exact nI_nlt (a := 99) (b := a) ha (by omega)
    exact h1.trans h2
  · exact sj_pas_o m 0 _ (fun i hi e => h ⟨i, hi, e⟩)
theorem sq_min99 (v : Int32) : (if v < 99 then v else 99) = if 99 < v then 99 else v := by
  by_cases h : v < 99
  · rw [if_pos h, if_neg (Int32.not_lt.mpr (Int32.le_of_lt h))]
  · rw [if_neg h]
    by_cases h2 : 99 < v
    · rw [if_pos h2]
    · rw [if_neg h2]
      exact Int32.le_antisymm (Int32.not_lt.mp h) (Int32.not_lt.mp h2)
theorem sq_sm_cg {S : sj_St} {F : Nat → Prop} {m M : Nat → Int32} {i e a : Nat} (h1 : ∀ w, 1 ≤ w → w < 42 → sj_of M e w = sj_of m i w) (h : sj_shw m i) (h' : sj_shw M e) (hs : sq_sm S F m i a) : sq_sm S F M e a := by
  obtain ⟨rn, cn, rm, cm, g1, g2, g3, g4⟩ := hs
  have en : sj_ns M e = sj_ns m i := by
    unfold sj_ns
    rw [h1 1 (by omega) (by omega)]
  have eo : ∀ k w, k < sj_ns m i → w < 5 → sj_os M e k w = sj_os m i k w := fun k w hk hw => h1 (2 + 5 * k + w) (by omega) (by have := h.2.1.2.2; omega)
  refine ⟨rn, cn, rm, cm, by rw [en]; exact g1, g2, fun k w hk hw => ?_, fun j hj => ?_⟩
  · rw [en] at hk
    rw [eo k w hk hw]
    exact g3 k w hk hw
  · rw [g4 j hj, ← sj_mr_mk h g3 hj, ← sj_mr_mk h' (f := sj_ia S cn) (fun k w hk hw => by rw [en] at hk; rw [eo k w hk hw]; exact g3 k w hk hw) hj, en]
set_option maxRecDepth 100000 in
set_option maxHeartbeats 150000 in
theorem ct_X4_sheetAt (l : Launch) {S : sj_St} {F : Nat → Prop} {D : Nat → Nat} {m : Nat → Int32} (h : sq_T S F D m) {i a : Nat} (hi : i < 8) (ha : sj_ra S (D 1) i = some a) : sj_Ctr l mX4_sheetAt [.ref (D 0), .int (nI i)] S (sj_eq (some (.ref a)) S) := by
  refine sj_start ([some (.ref (D 0)), some (.int (nI i)), none]) (by decide +kernel) rfl rfl (fun X hX C hR => ?_)
  subst hX
  obtain ⟨⟨kd_t, rf_t_0, ⟨rf_t_1, kd_sh, il_sh⟩, -⟩, -⟩ := id h
  refine sj_iload_n C 1 rfl dX4_sheetAt_0 rfl rfl ?_
  refine sj_if_lt C 22 4 rfl rfl dX4_sheetAt_1 (fun c_1 => ?_) (fun c_1 => ?_)
  · exact absurd c_1 (nI_pos (by omega))
  · refine sj_iload_n C 5 rfl dX4_sheetAt_4 rfl rfl ?_
    refine sj_aload_n C 6 rfl dX4_sheetAt_5 rfl rfl ?_
    refine sj_getr C 9 rfl fd_X4_20 dX4_sheetAt_6 kd_t rf_t_1 ?_
    refine sj_alen9 C 10 rfl dX4_sheetAt_9 kd_sh ?_
    refine sj_icmp_ge C 22 13 rfl rfl dX4_sheetAt_10 (fun c_10 => ?_) (fun c_10 => ?_)
    · exact absurd (show nI 8 ≤ nI i by rw [il_sh] at c_10; exact c_10) (nI_ge (by omega) (by omega))
    · refine sj_aload_n C 14 rfl dX4_sheetAt_13 rfl rfl ?_
      refine sj_getr C 17 rfl fd_X4_20 dX4_sheetAt_14 kd_t rf_t_1 ?_
      refine sj_iload_n C 18 rfl dX4_sheetAt_17 rfl rfl ?_
      refine sj_aald9 C 19 rfl dX4_sheetAt_18 kd_sh (by show vp_in _ (sj_il S (D 1)); rw [il_sh]; exact vp_in_nI hi (by omega)) ?_
      rw [nI_clamp (by omega), ha, show va_rf (some a) = .ref a from rfl]
      refine sj_goto C 26 rfl dX4_sheetAt_19 ?_
      refine sj_astore_n_2 C 27 rfl dX4_sheetAt_26 rfl rfl ?_
      refine sj_aload_n C 28 rfl dX4_sheetAt_27 rfl rfl ?_
      refine sj_ifnonnullS C 38 rfl dX4_sheetAt_28 ?_
      refine sj_aload_n C 39 rfl dX4_sheetAt_38 rfl rfl ?_
      refine sj_aret (o := some a) C hR rfl (Or.inl ⟨_, rfl⟩) rfl dX4_sheetAt_39 ?_
      exact ⟨rfl, rfl⟩
set_option maxRecDepth 100000 in
set_option maxHeartbeats 150000 in
theorem ct_X4_fadedMarks (l : Launch) {S : sj_St} {F : Nat → Prop} {D : Nat → Nat} {m : Nat → Int32} (h : sq_T S F D m) (hI : sj_inv m) (v : Int32) : sj_Ctr l mX4_fadedMarks [.ref (D 0), .int v] S (sj_eq (some (.int (sq_fd m v))) S) := by
  refine sj_start ([some (.ref (D 0)), some (.int v)]) (by decide +kernel) rfl rfl (fun X hX C hR => ?_)
  subst hX
  obtain ⟨⟨kd_t, rf_t_0, ⟨rf_t_1, kd_sh, il_sh⟩, ⟨rf_t_2, hag⟩, ⟨rf_t_4, hol⟩, ⟨rf_t_5, hse⟩, hinj⟩, ⟨h3, h6, h7⟩, hA, hE, hRo, hSh⟩ := id h
  have kd_ag := hag.1
  have kd_o := hol.1
  have kd_se := hse.1
  obtain ⟨h9, hn8⟩ := id hI.1
  have hv := sj_inv_oav hI
  refine sj_iload_n C 1 rfl dX4_fadedMarks_0 rfl rfl ?_
  refine sj_aload_n C 2 rfl dX4_fadedMarks_1 rfl rfl ?_
  refine sj_getr C 5 rfl fd_X4_40 dX4_fadedMarks_2 kd_t rf_t_5 ?_
  refine sj_bipush C (6) 7 rfl dX4_fadedMarks_5 (by decide) ?_
  refine sj_callVd C 10 rfl dX4_fadedMarks_7 cv_X4_79 rfl (ct_X2_at _ hse _) rfl rfl rfl ⟨_, _, kd_se, rfl, rfl, by decide⟩ ⟨rfl, rfl⟩ ?_
  rw [show sj_at 9 (sj_ia S (D 15)) 6 = m 6 from (sj_at_nI (j := 6) _ (by omega) (by omega)).trans (hE 6 (by omega))]
  refine sj_icmp_lt C 18 13 rfl rfl dX4_fadedMarks_10 (fun c_10 => ?_) (fun c_10 => ?_)
  · refine sj_iconstv C (0) 19 rfl dX4_fadedMarks_18 rfl ?_
    refine sj_iret C hR rfl rfl dX4_fadedMarks_19 ?_
    refine ⟨congrArg (fun z => some (Value.int z)) ?_, rfl⟩
    unfold sq_fd
    rw [if_neg (sj_nle.mpr c_10)]
  · refine sj_bipush C (12) 15 rfl dX4_fadedMarks_13 (by decide) ?_
    refine sj_goto C 19 rfl dX4_fadedMarks_15 ?_
    refine sj_iret C hR rfl rfl dX4_fadedMarks_19 ?_
    refine ⟨congrArg (fun z => some (Value.int z)) ?_, rfl⟩
    unfold sq_fd
    rw [if_pos (sj_nlt.mp c_10)]
set_option maxRecDepth 100000 in
set_option maxHeartbeats 150000 in
theorem ct_X4_allowance (l : Launch) (S : sj_St) (v w : Int32) : sj_Ctr l mX4_allowance [.int v, .int w] S (sj_eq (some (.int (sj_ab (v - w) / 10))) S) := by
  refine sj_start ([some (.int v), some (.int w)]) (by decide +kernel) rfl rfl (fun X hX C hR => ?_)
  subst hX
  refine sj_iload_n C 1 rfl dX4_allowance_0 rfl rfl ?_
  refine sj_iload_n C 2 rfl dX4_allowance_1 rfl rfl ?_
  refine sj_isub C 3 rfl dX4_allowance_2 ?_
  refine sj_mabs C 6 rfl dX4_allowance_3 cv_X4_166 rfl ?_
  refine sj_bipush C (10) 8 rfl dX4_allowance_6 (by decide) ?_
  refine sj_idiv C 9 rfl dX4_allowance_8 (by decide) ?_
  refine sj_iret C hR rfl rfl dX4_allowance_9 ?_
  exact ⟨rfl, rfl⟩
set_option maxRecDepth 100000 in
set_option maxHeartbeats 150000 in
theorem ct_X4_trembles (l : Launch) {S : sj_St} {F : Nat → Prop} {D : Nat → Nat} {m : Nat → Int32} (h : sq_T S F D m) (hI : sj_inv m) {i : Nat} (hi : i < (sj_tn (m 9))) : sj_Ctr l mX4_trembles [.ref (D 0), .int (nI i)] S (sj_eq (some (.int (sj_bi (sj_trm m i)))) S) := by
  refine sj_start ([some (.ref (D 0)), some (.int (nI i)), none]) (by decide +kernel) rfl rfl (fun X hX C hR => ?_)
  subst hX
  obtain ⟨⟨kd_t, rf_t_0, ⟨rf_t_1, kd_sh, il_sh⟩, ⟨rf_t_2, hag⟩, ⟨rf_t_4, hol⟩, ⟨rf_t_5, hse⟩, hinj⟩, ⟨h3, h6, h7⟩, hA, hE, hRo, hSh⟩ := id h
  have kd_ag := hag.1
  have kd_o := hol.1
  have kd_se := hse.1
  obtain ⟨h9, hn8⟩ := id hI.1
  have hv := sj_inv_oav hI
  obtain ⟨a, ha, hsm⟩ := hSh i hi
  obtain ⟨rn, cn, rm, cm, hs, hF, hst, hmk⟩ := id hsm
  obtain ⟨kd_a, fi_a, n8, rf_a_1, hrn, rf_a_2, hrm⟩ := id hs
  have kd_rn := hrn.1
  have kd_rm := hrm.1
  have ht : ∀ w, w < 5 → sj_tt (sj_ia S cn) (sj_ns m i) w = sj_tot m i w := fun w hw => sj_sum_cg _ (fun k hk => hst k w hk hw)
  refine sj_aload_n C 1 rfl dX4_trembles_0 rfl rfl ?_
  refine sj_iload_n C 2 rfl dX4_trembles_1 rfl rfl ?_
  refine sj_callVd C 5 rfl dX4_trembles_2 cv_X4_91 rfl (ct_X4_sheetAt _ h (i := i) (by omega) ha) rfl rfl rfl ⟨_, _, kd_t, rfl, rfl, by decide⟩ ⟨rfl, rfl⟩ ?_
  refine sj_astore_n_2 C 6 rfl dX4_trembles_5 rfl rfl ?_
  refine sj_aload_n C 7 rfl dX4_trembles_6 rfl rfl ?_
  refine sj_iconstv C (4) 8 rfl dX4_trembles_7 rfl ?_
  refine sj_callVd C 11 rfl dX4_trembles_8 cv_X4_98 rfl (ct_X3_total _ hs 4 (by omega)) rfl rfl rfl ⟨_, _, kd_a, rfl, rfl, by decide⟩ ⟨rfl, rfl⟩ ?_
  rw [ht 4 (by omega)]
  refine sj_aload_n C 12 rfl dX4_trembles_11 rfl rfl ?_
  refine sj_getI C 15 rfl fd_X4_95 dX4_trembles_12 kd_a ?_
  rw [fi_a]
  refine sj_aload_n C 16 rfl dX4_trembles_15 rfl rfl ?_
  refine sj_getr C 19 rfl fd_X4_40 dX4_trembles_16 kd_t rf_t_5 ?_
  refine sj_bipush C (7) 21 rfl dX4_trembles_19 (by decide) ?_
  refine sj_callVd C 24 rfl dX4_trembles_21 cv_X4_79 rfl (ct_X2_at _ hse _) rfl rfl rfl ⟨_, _, kd_se, rfl, rfl, by decide⟩ ⟨rfl, rfl⟩ ?_
  rw [show sj_at 9 (sj_ia S (D 15)) 7 = m 7 from (sj_at_nI (j := 7) _ (by omega) (by omega)).trans (hE 7 (by omega))]
  refine sj_imul C 25 rfl dX4_trembles_24 ?_
  refine sj_icmp_le C 32 28 rfl rfl dX4_trembles_25 (fun c_25 => ?_) (fun c_25 => ?_)
  · refine sj_iconstv C (0) 33 rfl dX4_trembles_32 rfl ?_
    refine sj_zret C hR rfl rfl rfl dX4_trembles_33 ?_
    refine ⟨congrArg (fun z => some (Value.int z)) ?_, rfl⟩
    unfold sj_trm
    rw [decide_eq_false (sj_nlt.mpr c_25)]
    rfl
  · refine sj_iconstv C (1) 29 rfl dX4_trembles_28 rfl ?_
    refine sj_goto C 33 rfl dX4_trembles_29 ?_
    refine sj_zret C hR rfl rfl rfl dX4_trembles_33 ?_
    refine ⟨congrArg (fun z => some (Value.int z)) ?_, rfl⟩
    unfold sj_trm
    rw [decide_eq_true (sj_nle.mp c_25)]
    rfl
set_option maxRecDepth 100000 in
set_option maxHeartbeats 150000 in
theorem ct_X4_areOfOneHand (l : Launch) {S : sj_St} {F : Nat → Prop} {D : Nat → Nat} {m : Nat → Int32} (h : sq_T S F D m) (hI : sj_inv m) {i e : Nat} (hi : i < 8) (he : e < 8) : sj_Ctr l mX4_areOfOneHand [.ref (D 0), .int (nI i), .int (nI e)] S (sj_eq (some (.int (sj_bi (sj_a1 m i e)))) S) := by
  refine sj_start ([some (.ref (D 0)), some (.int (nI i)), some (.int (nI e))]) (by decide +kernel) rfl rfl (fun X hX C hR => ?_)
  subst hX
  obtain ⟨⟨kd_t, rf_t_0, ⟨rf_t_1, kd_sh, il_sh⟩, ⟨rf_t_2, hag⟩, ⟨rf_t_4, hol⟩, ⟨rf_t_5, hse⟩, hinj⟩, ⟨h3, h6, h7⟩, hA, hE, hRo, hSh⟩ := id h
  have kd_ag := hag.1
  have kd_o := hol.1
  have kd_se := hse.1
  obtain ⟨h9, hn8⟩ := id hI.1
  have hv := sj_inv_oav hI
  refine sj_aload_n C 1 rfl dX4_areOfOneHand_0 rfl rfl ?_
  refine sj_getr C 4 rfl fd_X4_36 dX4_areOfOneHand_1 kd_t rf_t_4 ?_
  refine sj_iload_n C 5 rfl dX4_areOfOneHand_4 rfl rfl ?_
  refine sj_callVd C 8 rfl dX4_areOfOneHand_5 cv_X4_105 rfl (sq_c_handOf _ hol hv hRo hi) rfl rfl rfl ⟨_, _, kd_o, rfl, rfl, by decide⟩ ⟨rfl, rfl⟩ ?_
  refine sj_aload_n C 9 rfl dX4_areOfOneHand_8 rfl rfl ?_
  refine sj_getr C 12 rfl fd_X4_36 dX4_areOfOneHand_9 kd_t rf_t_4 ?_
  refine sj_iload_n C 13 rfl dX4_areOfOneHand_12 rfl rfl ?_
  refine sj_callVd C 16 rfl dX4_areOfOneHand_13 cv_X4_105 rfl (sq_c_handOf _ hol hv hRo he) rfl rfl rfl ⟨_, _, kd_o, rfl, rfl, by decide⟩ ⟨rfl, rfl⟩ ?_
  refine sj_icmp_ne C 23 19 rfl rfl dX4_areOfOneHand_16 (fun c_16 => ?_) (fun c_16 => ?_)
  · refine sj_iconstv C (0) 24 rfl dX4_areOfOneHand_23 rfl ?_
    refine sj_zret C hR rfl rfl rfl dX4_areOfOneHand_24 ?_
    refine ⟨congrArg (fun z => some (Value.int z)) ?_, rfl⟩
    unfold sj_a1
    rw [decide_eq_false c_16]
    rfl
  · refine sj_iconstv C (1) 20 rfl dX4_areOfOneHand_19 rfl ?_
    refine sj_goto C 24 rfl dX4_areOfOneHand_20 ?_
    refine sj_zret C hR rfl rfl rfl dX4_areOfOneHand_24 ?_
    refine ⟨congrArg (fun z => some (Value.int z)) ?_, rfl⟩
    unfold sj_a1
    rw [decide_eq_true c_16]
    rfl
theorem sj_pas_of (m : Nat → Int32) (y : Int32) (n : Nat) (i w : Nat) (h1 : 1 ≤ w) (h2 : w < 42) : sj_of (sj_pas m y n) i w = sj_of m i w := sj_pas_o m y n (fun i' _ => by omega)
theorem sq_mk_pas {m : Nat → Int32} (hI : sj_inv m) {y : Int32} (hy : 0 ≤ y ∧ y ≤ 99) {q j : Nat} (hq : q < sj_tn (m 9)) (hj : j < 6) : sj_mk (sj_pas m y (sj_tn (m 9))) q j = sj_mk m q j := by
  have hw := hI.2.2.2.1 q hq
  have hIM : sj_inv (sj_pas m y (sj_tn (m 9))) := sj_inv_pas hI hy _ rfl
  have hw' := hIM.2.2.2.1 q (by rw [show sj_pas m y (sj_tn (m 9)) 9 = m 9 from sj_pas_lo _ _ (by omega) _]; exact hq)
  have en : sj_ns (sj_pas m y (sj_tn (m 9))) q = sj_ns m q := by
    unfold sj_ns
    rw [sj_pas_of m y _ q 1 (by omega) (by omega)]
  have eo : ∀ k w, k < sj_ns m q → w < 5 → sj_os (sj_pas m y (sj_tn (m 9))) q k w = sj_os m q k w := fun k w hk hw2 => sj_pas_of m y _ q (2 + 5 * k + w) (by omega) (by have := hw.2.1.2.2; omega)
  have e1 := sj_mr_mk hw (f := fun p => sj_os m q (p / 5) (p % 5)) (fun k w _ hw2 => by show sj_os m q ((5 * k + w) / 5) ((5 * k + w) % 5) = _; rw [(sj_dm5 hw2).1, (sj_dm5 hw2).2]) hj
  have e2 := sj_mr_mk hw' (f := fun p => sj_os m q (p / 5) (p % 5)) (fun k w hk hw2 => by rw [en] at hk; show sj_os m q ((5 * k + w) / 5) ((5 * k + w) % 5) = _; rw [(sj_dm5 hw2).1, (sj_dm5 hw2).2, eo k w hk hw2]) hj
  rw [← e1, ← e2, en]
set_option maxRecDepth 100000 in
set_option maxHeartbeats 300000 in
theorem ct_X4_agreeing (l : Launch) {S : sj_St} {F : Nat → Prop} {D : Nat → Nat} {m : Nat → Int32} (h : sq_T S F D m) (hI : sj_inv m) {i e : Nat} (hi : i < (sj_tn (m 9))) (he : e < (sj_tn (m 9))) {y : Int32} (hy : 0 ≤ y ∧ y ≤ 99) : sj_Ctr l mX4_agreeing [.ref (D 0), .int (nI i), .int (nI e), .int y] S (sj_eq (some (.int (sj_agr (sj_pas m y (sj_tn (m 9))) i e 6))) S) := by
  refine sj_start ([some (.ref (D 0)), some (.int (nI i)), some (.int (nI e)), some (.int y), none, none, none, none, none, none, none]) (by decide +kernel) rfl rfl (fun X hX C hR => ?_)
  subst hX
  obtain ⟨⟨kd_t, rf_t_0, ⟨rf_t_1, kd_sh, il_sh⟩, ⟨rf_t_2, hag⟩, ⟨rf_t_4, hol⟩, ⟨rf_t_5, hse⟩, hinj⟩, ⟨h3, h6, h7⟩, hA, hE, hRo, hSh⟩ := id h
  have kd_ag := hag.1
  have kd_o := hol.1
  have kd_se := hse.1
  obtain ⟨h9, hn8⟩ := id hI.1
  have hv := sj_inv_oav hI
  obtain ⟨a, ha, hsm⟩ := hSh i hi
  obtain ⟨rn, cn, rm, cm, hs, hF, hst, hmk⟩ := id hsm
  obtain ⟨kd_a, fi_a, n8, rf_a_1, hrn, rf_a_2, hrm⟩ := id hs
  have kd_rn := hrn.1
  have kd_rm := hrm.1
  have ht : ∀ w, w < 5 → sj_tt (sj_ia S cn) (sj_ns m i) w = sj_tot m i w := fun w hw => sj_sum_cg _ (fun k hk => hst k w hk hw)
  obtain ⟨c, ha2, hsm2⟩ := hSh e he
  obtain ⟨rn2, cn2, rm2, cm2, hs2, hF2, hst2, hmk2⟩ := id hsm2
  obtain ⟨kd_c, fi_c, n82, rf_c_1, hrn2, rf_c_2, hrm2⟩ := id hs2
  have kd_rn2 := hrn2.1
  have kd_rm2 := hrm2.1
  have ht2 : ∀ w, w < 5 → sj_tt (sj_ia S cn2) (sj_ns m e) w = sj_tot m e w := fun w hw => sj_sum_cg _ (fun k hk => hst2 k w hk hw)
  have cut_69 : sj_G X S 0 0 [some (.ref (D 0)), some (.int (nI i)), some (.int (nI e)), some (.int y), some (.int (sj_of (sj_pas m y (sj_tn (m 9))) i 0)), some (.int (sj_of (sj_pas m y (sj_tn (m 9))) e 0)), some (.int (sj_ab (sj_of (sj_pas m y (sj_tn (m 9))) i 0 - sj_of (sj_pas m y (sj_tn (m 9))) e 0) / 10)), some (.ref rm), some (.ref rm2), some (.int ((sq_agr (sj_ia S cm) (sj_ia S cm2) (sj_ia S (D 15)) (sj_ab (sj_of (sj_pas m y (sj_tn (m 9))) i 0 - sj_of (sj_pas m y (sj_tn (m 9))) e 0) / 10)) (0))), some (.int (nI (0)))] 69 [] := by
    refine sj_down (fun k => sj_G X S 0 0 [some (.ref (D 0)), some (.int (nI i)), some (.int (nI e)), some (.int y), some (.int (sj_of (sj_pas m y (sj_tn (m 9))) i 0)), some (.int (sj_of (sj_pas m y (sj_tn (m 9))) e 0)), some (.int (sj_ab (sj_of (sj_pas m y (sj_tn (m 9))) i 0 - sj_of (sj_pas m y (sj_tn (m 9))) e 0) / 10)), some (.ref rm), some (.ref rm2), some (.int ((sq_agr (sj_ia S cm) (sj_ia S cm2) (sj_ia S (D 15)) (sj_ab (sj_of (sj_pas m y (sj_tn (m 9))) i 0 - sj_of (sj_pas m y (sj_tn (m 9))) e 0) / 10)) (k))), some (.int (nI (k)))] 69 []) 6 (fun k hk ih => ?_)
    refine sj_iload C 71 rfl dX4_agreeing_69 rfl ?_
    refine sj_bipush C (6) 73 rfl dX4_agreeing_71 (by decide) ?_
    refine sj_icmp_ge C 124 76 rfl rfl dX4_agreeing_73 (fun c_73 => ?_) (fun c_73 => ?_)
    · have hkn : k = 6 := by
        have h8 : ¬ k < 6 := fun h7 => nI_ge (b := 6) h7 (by omega) c_73
        omega
      subst hkn
      refine sj_iload C 126 rfl dX4_agreeing_124 rfl ?_
      refine sj_aload_n C 127 rfl dX4_agreeing_126 rfl rfl ?_
      refine sj_iload C 129 rfl dX4_agreeing_127 rfl ?_
      refine sj_iload C 131 rfl dX4_agreeing_129 rfl ?_
      refine sj_mmax C 134 rfl dX4_agreeing_131 cv_X4_88 rfl ?_
      refine sj_callVd C 137 rfl dX4_agreeing_134 cv_X4_111 rfl (ct_X4_fadedMarks _ h hI _) rfl rfl rfl ⟨_, _, kd_t, rfl, rfl, by decide⟩ ⟨rfl, rfl⟩ ?_
      refine sj_iconstv C (-1) 138 rfl dX4_agreeing_137 rfl ?_
      refine sj_ixor C 139 rfl dX4_agreeing_138 ?_
      refine sj_iand C 140 rfl dX4_agreeing_139 ?_
      refine sj_iret C hR rfl rfl dX4_agreeing_140 ?_
      refine ⟨congrArg (fun z => some (Value.int z)) ?_, rfl⟩
      have h6 : (sj_pas m y (sj_tn (m 9))) 6 = m 6 := sj_pas_lo _ _ (by omega) _
      have hg9 : sj_tn ((sj_pas m y (sj_tn (m 9))) 9) = sj_tn (m 9) := congrArg sj_tn (sj_pas_lo _ _ (by omega) _)
      have hIM : sj_inv (sj_pas m y (sj_tn (m 9))) := sj_inv_pas hI hy _ rfl
      have emk : ∀ q j, q < (sj_tn (m 9)) → j < 6 → sj_mk (sj_pas m y (sj_tn (m 9))) q j = sj_mk m q j := fun q j hq hj => sq_mk_pas hI hy hq hj
      have e8 := sq_ag_eq hIM (i := i) (e := e) (by rw [hg9]; exact hi) (by rw [hg9]; exact he) (g1 := sj_ia S cm) (g2 := sj_ia S cm2) (se := sj_ia S (D 15)) (fun j hj => (hmk j hj).trans (emk i j hi hj).symm) (fun j hj => (hmk2 j hj).trans (emk e j he hj).symm) (fun j hj => (hE j hj).trans (sj_pas_lo m y (by omega) _).symm)
      rw [← e8]
      unfold sq_fd sq_mxx
      rw [h6]
    · have hlt : k < 6 := Nat.not_le.mp fun h8 => c_73 (nI_le (a := 6) h8 (by omega))
      refine sj_aload C 78 rfl dX4_agreeing_76 rfl ?_
      refine sj_iload C 80 rfl dX4_agreeing_78 rfl ?_
      refine sj_callVd C 83 rfl dX4_agreeing_80 cv_X4_79 rfl (ct_X2_at _ hrm _) rfl rfl rfl ⟨_, _, kd_rm, rfl, rfl, by decide⟩ ⟨rfl, rfl⟩ ?_
      rw [sj_at_nI _ (by omega) (by omega)]
      refine sj_aload C 85 rfl dX4_agreeing_83 rfl ?_
      refine sj_iload C 87 rfl dX4_agreeing_85 rfl ?_
      refine sj_callVd C 90 rfl dX4_agreeing_87 cv_X4_79 rfl (ct_X2_at _ hrm2 _) rfl rfl rfl ⟨_, _, kd_rm2, rfl, rfl, by decide⟩ ⟨rfl, rfl⟩ ?_
      rw [sj_at_nI _ (by omega) (by omega)]
      refine sj_isub C 91 rfl dX4_agreeing_90 ?_
      refine sj_mabs C 94 rfl dX4_agreeing_91 cv_X4_166 rfl ?_
      refine sj_aload_n C 95 rfl dX4_agreeing_94 rfl rfl ?_
      refine sj_getr C 98 rfl fd_X4_40 dX4_agreeing_95 kd_t rf_t_5 ?_
      refine sj_iload C 100 rfl dX4_agreeing_98 rfl ?_
      refine sj_callVd C 103 rfl dX4_agreeing_100 cv_X4_79 rfl (ct_X2_at _ hse _) rfl rfl rfl ⟨_, _, kd_se, rfl, rfl, by decide⟩ ⟨rfl, rfl⟩ ?_
      rw [sj_at_nI _ (by omega) (by omega)]
      refine sj_iload C 105 rfl dX4_agreeing_103 rfl ?_
      refine sj_iadd C 106 rfl dX4_agreeing_105 ?_
      refine sj_icmp_gt C 118 109 rfl rfl dX4_agreeing_106 (fun c_106 => ?_) (fun c_106 => ?_)
      · refine sj_iinc_10 C 121 rfl dX4_agreeing_118 rfl rfl ?_
        refine sj_goto C 69 rfl dX4_agreeing_121 ?_
        have e9 : (sq_agr (sj_ia S cm) (sj_ia S cm2) (sj_ia S (D 15)) (sj_ab (sj_of (sj_pas m y (sj_tn (m 9))) i 0 - sj_of (sj_pas m y (sj_tn (m 9))) e 0) / 10)) (k + 1) = (sq_agr (sj_ia S cm) (sj_ia S cm2) (sj_ia S (D 15)) (sj_ab (sj_of (sj_pas m y (sj_tn (m 9))) i 0 - sj_of (sj_pas m y (sj_tn (m 9))) e 0) / 10)) k := if_neg (sj_nle.mpr c_106)
        have ih' := ih hlt
        rw [e9] at ih'
        rw [sj_n1]
        exact ih'
      · refine sj_iload C 111 rfl dX4_agreeing_109 rfl ?_
        refine sj_iconstv C (1) 112 rfl dX4_agreeing_111 rfl ?_
        refine sj_iload C 114 rfl dX4_agreeing_112 rfl ?_
        refine sj_ishl C 115 rfl dX4_agreeing_114 ?_
        refine sj_ior C 116 rfl dX4_agreeing_115 ?_
        refine sj_istore_9 C 118 rfl dX4_agreeing_116 rfl rfl ?_
        refine sj_iinc_10 C 121 rfl dX4_agreeing_118 rfl rfl ?_
        refine sj_goto C 69 rfl dX4_agreeing_121 ?_
        have e9 : (sq_agr (sj_ia S cm) (sj_ia S cm2) (sj_ia S (D 15)) (sj_ab (sj_of (sj_pas m y (sj_tn (m 9))) i 0 - sj_of (sj_pas m y (sj_tn (m 9))) e 0) / 10)) (k + 1) = (sq_agr (sj_ia S cm) (sj_ia S cm2) (sj_ia S (D 15)) (sj_ab (sj_of (sj_pas m y (sj_tn (m 9))) i 0 - sj_of (sj_pas m y (sj_tn (m 9))) e 0) / 10)) k ||| (1 <<< (nI k &&& 31)) := if_pos (sj_nlt.mp c_106)
        have ih' := ih hlt
        rw [e9] at ih'
        rw [sj_n1]
        exact ih'
  refine sj_bipush C (99) 2 rfl dX4_agreeing_0 (by decide) ?_
  refine sj_aload_n C 3 rfl dX4_agreeing_2 rfl rfl ?_
  refine sj_getr C 6 rfl fd_X4_29 dX4_agreeing_3 kd_t rf_t_2 ?_
  refine sj_iload_n C 7 rfl dX4_agreeing_6 rfl rfl ?_
  refine sj_callVd C 10 rfl dX4_agreeing_7 cv_X4_79 rfl (ct_X2_at _ hag _) rfl rfl rfl ⟨_, _, kd_ag, rfl, rfl, by decide⟩ ⟨rfl, rfl⟩ ?_
  rw [sj_at_nI (j := i) _ (by omega) (by omega), hA i hi]
  refine sj_iload_n C 11 rfl dX4_agreeing_10 rfl rfl ?_
  refine sj_iadd C 12 rfl dX4_agreeing_11 ?_
  refine sj_mmin C 15 rfl dX4_agreeing_12 cv_X4_82 rfl ?_
  rw [sq_min99, show (if 99 < sj_of m i 0 + y then 99 else sj_of m i 0 + y) = sj_of (sj_pas m y (sj_tn (m 9))) i 0 from (sj_pas_at m y _ hi).symm]
  refine sj_istore_4 C 17 rfl dX4_agreeing_15 rfl rfl ?_
  refine sj_bipush C (99) 19 rfl dX4_agreeing_17 (by decide) ?_
  refine sj_aload_n C 20 rfl dX4_agreeing_19 rfl rfl ?_
  refine sj_getr C 23 rfl fd_X4_29 dX4_agreeing_20 kd_t rf_t_2 ?_
  refine sj_iload_n C 24 rfl dX4_agreeing_23 rfl rfl ?_
  refine sj_callVd C 27 rfl dX4_agreeing_24 cv_X4_79 rfl (ct_X2_at _ hag _) rfl rfl rfl ⟨_, _, kd_ag, rfl, rfl, by decide⟩ ⟨rfl, rfl⟩ ?_
  rw [sj_at_nI (j := e) _ (by omega) (by omega), hA e he]
  refine sj_iload_n C 28 rfl dX4_agreeing_27 rfl rfl ?_
  refine sj_iadd C 29 rfl dX4_agreeing_28 ?_
  refine sj_mmin C 32 rfl dX4_agreeing_29 cv_X4_82 rfl ?_
  rw [sq_min99, show (if 99 < sj_of m e 0 + y then 99 else sj_of m e 0 + y) = sj_of (sj_pas m y (sj_tn (m 9))) e 0 from (sj_pas_at m y _ he).symm]
  refine sj_istore_5 C 34 rfl dX4_agreeing_32 rfl rfl ?_
  refine sj_iload C 36 rfl dX4_agreeing_34 rfl ?_
  refine sj_iload C 38 rfl dX4_agreeing_36 rfl ?_
  refine sj_callSd C 41 rfl dX4_agreeing_38 cv_X4_169 rfl (ct_X4_allowance _ _ _ _) rfl rfl rfl ⟨rfl, rfl⟩ ?_
  refine sj_istore_6 C 43 rfl dX4_agreeing_41 rfl rfl ?_
  refine sj_aload_n C 44 rfl dX4_agreeing_43 rfl rfl ?_
  refine sj_iload_n C 45 rfl dX4_agreeing_44 rfl rfl ?_
  refine sj_callVd C 48 rfl dX4_agreeing_45 cv_X4_91 rfl (ct_X4_sheetAt _ h (i := i) (by omega) ha) rfl rfl rfl ⟨_, _, kd_t, rfl, rfl, by decide⟩ ⟨rfl, rfl⟩ ?_
  refine sj_getr C 51 rfl fd_X4_163 dX4_agreeing_48 kd_a rf_a_2 ?_
  refine sj_astore_7 C 53 rfl dX4_agreeing_51 rfl rfl ?_
  refine sj_aload_n C 54 rfl dX4_agreeing_53 rfl rfl ?_
  refine sj_iload_n C 55 rfl dX4_agreeing_54 rfl rfl ?_
  refine sj_callVd C 58 rfl dX4_agreeing_55 cv_X4_91 rfl (ct_X4_sheetAt _ h (i := e) (by omega) ha2) rfl rfl rfl ⟨_, _, kd_t, rfl, rfl, by decide⟩ ⟨rfl, rfl⟩ ?_
  refine sj_getr C 61 rfl fd_X4_163 dX4_agreeing_58 kd_c rf_c_2 ?_
  refine sj_astore_8 C 63 rfl dX4_agreeing_61 rfl rfl ?_
  refine sj_iconstv C (0) 64 rfl dX4_agreeing_63 rfl ?_
  refine sj_istore_9 C 66 rfl dX4_agreeing_64 rfl rfl ?_
  refine sj_iconstv C (0) 67 rfl dX4_agreeing_66 rfl ?_
  refine sj_istore_10 C 69 rfl dX4_agreeing_67 rfl rfl ?_
  exact cut_69
set_option maxRecDepth 100000 in
set_option maxHeartbeats 150000 in
theorem ct_X4_likeness (l : Launch) {S : sj_St} {F : Nat → Prop} {D : Nat → Nat} {m : Nat → Int32} (h : sq_T S F D m) (hI : sj_inv m) {i e : Nat} (hi : i < (sj_tn (m 9))) (he : e < (sj_tn (m 9))) {y : Int32} (hy : 0 ≤ y ∧ y ≤ 99) : sj_Ctr l mX4_likeness [.ref (D 0), .int (nI i), .int (nI e), .int y] S (sj_eq (some (.int (sj_lik (sj_pas m y (sj_tn (m 9))) i e))) S) := by
  refine sj_start ([some (.ref (D 0)), some (.int (nI i)), some (.int (nI e)), some (.int y)]) (by decide +kernel) rfl rfl (fun X hX C hR => ?_)
  subst hX
  obtain ⟨⟨kd_t, rf_t_0, ⟨rf_t_1, kd_sh, il_sh⟩, ⟨rf_t_2, hag⟩, ⟨rf_t_4, hol⟩, ⟨rf_t_5, hse⟩, hinj⟩, ⟨h3, h6, h7⟩, hA, hE, hRo, hSh⟩ := id h
  have kd_ag := hag.1
  have kd_o := hol.1
  have kd_se := hse.1
  obtain ⟨h9, hn8⟩ := id hI.1
  have hv := sj_inv_oav hI
  refine sj_aload_n C 1 rfl dX4_likeness_0 rfl rfl ?_
  refine sj_iload_n C 2 rfl dX4_likeness_1 rfl rfl ?_
  refine sj_iload_n C 3 rfl dX4_likeness_2 rfl rfl ?_
  refine sj_iload_n C 4 rfl dX4_likeness_3 rfl rfl ?_
  refine sj_callVd C 7 rfl dX4_likeness_4 cv_X4_138 rfl (ct_X4_agreeing _ h hI hi he hy) rfl rfl rfl ⟨_, _, kd_t, rfl, rfl, by decide⟩ ⟨rfl, rfl⟩ ?_
  refine sj_callSd C 10 rfl dX4_likeness_7 cv_X4_158 rfl (ct_bitCount _ _ _) rfl rfl rfl ⟨rfl, rfl⟩ ?_
  refine sj_iret C hR rfl rfl dX4_likeness_10 ?_
  refine ⟨congrArg (fun z => some (Value.int z)) ?_, rfl⟩
  unfold sj_lik
  rw [sj_agr_m6, (sj_m6_ok _ _ _ _ _ _).2.2]
theorem sq_lik0 (l : Launch) {S : sj_St} {F : Nat → Prop} {D : Nat → Nat} {m : Nat → Int32} (h : sq_T S F D m) (hI : sj_inv m) {i e : Nat} (hi : i < sj_tn (m 9)) (he : e < sj_tn (m 9)) : sj_Ctr l mX4_likeness [.ref (D 0), .int (nI i), .int (nI e), .int 0] S (sj_eq (some (.int (sj_lik m i e))) S) := by
  have t := ct_X4_likeness l h hI hi he (y := 0) ⟨by decide, by decide⟩
  rw [sj_pas0 hI] at t
  exact t
theorem sq_agr0 (l : Launch) {S : sj_St} {F : Nat → Prop} {D : Nat → Nat} {m : Nat → Int32} (h : sq_T S F D m) (hI : sj_inv m) {i e : Nat} (hi : i < sj_tn (m 9)) (he : e < sj_tn (m 9)) : sj_Ctr l mX4_agreeing [.ref (D 0), .int (nI i), .int (nI e), .int 0] S (sj_eq (some (.int (sj_agr m i e 6))) S) := by
  have t := ct_X4_agreeing l h hI hi he (y := 0) ⟨by decide, by decide⟩
  rw [sj_pas0 hI] at t
  exact t
set_option maxRecDepth 100000 in
set_option maxHeartbeats 150000 in
theorem ct_X4_neededTolerance (l : Launch) {S : sj_St} {F : Nat → Prop} {D : Nat → Nat} {m : Nat → Int32} (h : sq_T S F D m) (hI : sj_inv m) {i e j : Nat} (hi : i < (sj_tn (m 9))) (he : e < (sj_tn (m 9))) (hj : j < 6) : sj_Ctr l mX4_neededTolerance [.ref (D 0), .int (nI i), .int (nI e), .int (nI j)] S (sj_eq (some (.int (sj_tol m i e j))) S) := by
  refine sj_start ([some (.ref (D 0)), some (.int (nI i)), some (.int (nI e)), some (.int (nI j)), none, none, none]) (by decide +kernel) rfl rfl (fun X hX C hR => ?_)
  subst hX
  obtain ⟨⟨kd_t, rf_t_0, ⟨rf_t_1, kd_sh, il_sh⟩, ⟨rf_t_2, hag⟩, ⟨rf_t_4, hol⟩, ⟨rf_t_5, hse⟩, hinj⟩, ⟨h3, h6, h7⟩, hA, hE, hRo, hSh⟩ := id h
  have kd_ag := hag.1
  have kd_o := hol.1
  have kd_se := hse.1
  obtain ⟨h9, hn8⟩ := id hI.1
  have hv := sj_inv_oav hI
  obtain ⟨a, ha, hsm⟩ := hSh i hi
  obtain ⟨rn, cn, rm, cm, hs, hF, hst, hmk⟩ := id hsm
  obtain ⟨kd_a, fi_a, n8, rf_a_1, hrn, rf_a_2, hrm⟩ := id hs
  have kd_rn := hrn.1
  have kd_rm := hrm.1
  have ht : ∀ w, w < 5 → sj_tt (sj_ia S cn) (sj_ns m i) w = sj_tot m i w := fun w hw => sj_sum_cg _ (fun k hk => hst k w hk hw)
  obtain ⟨c, ha2, hsm2⟩ := hSh e he
  obtain ⟨rn2, cn2, rm2, cm2, hs2, hF2, hst2, hmk2⟩ := id hsm2
  obtain ⟨kd_c, fi_c, n82, rf_c_1, hrn2, rf_c_2, hrm2⟩ := id hs2
  have kd_rn2 := hrn2.1
  have kd_rm2 := hrm2.1
  have ht2 : ∀ w, w < 5 → sj_tt (sj_ia S cn2) (sj_ns m e) w = sj_tot m e w := fun w hw => sj_sum_cg _ (fun k hk => hst2 k w hk hw)
  refine sj_aload_n C 1 rfl dX4_neededTolerance_0 rfl rfl ?_
  refine sj_getr C 4 rfl fd_X4_29 dX4_neededTolerance_1 kd_t rf_t_2 ?_
  refine sj_iload_n C 5 rfl dX4_neededTolerance_4 rfl rfl ?_
  refine sj_callVd C 8 rfl dX4_neededTolerance_5 cv_X4_79 rfl (ct_X2_at _ hag _) rfl rfl rfl ⟨_, _, kd_ag, rfl, rfl, by decide⟩ ⟨rfl, rfl⟩ ?_
  rw [sj_at_nI (j := i) _ (by omega) (by omega), hA i hi]
  refine sj_istore_4 C 10 rfl dX4_neededTolerance_8 rfl rfl ?_
  refine sj_aload_n C 11 rfl dX4_neededTolerance_10 rfl rfl ?_
  refine sj_getr C 14 rfl fd_X4_29 dX4_neededTolerance_11 kd_t rf_t_2 ?_
  refine sj_iload_n C 15 rfl dX4_neededTolerance_14 rfl rfl ?_
  refine sj_callVd C 18 rfl dX4_neededTolerance_15 cv_X4_79 rfl (ct_X2_at _ hag _) rfl rfl rfl ⟨_, _, kd_ag, rfl, rfl, by decide⟩ ⟨rfl, rfl⟩ ?_
  rw [sj_at_nI (j := e) _ (by omega) (by omega), hA e he]
  refine sj_istore_5 C 20 rfl dX4_neededTolerance_18 rfl rfl ?_
  refine sj_aload_n C 21 rfl dX4_neededTolerance_20 rfl rfl ?_
  refine sj_iload C 23 rfl dX4_neededTolerance_21 rfl ?_
  refine sj_iload C 25 rfl dX4_neededTolerance_23 rfl ?_
  refine sj_mmax C 28 rfl dX4_neededTolerance_25 cv_X4_88 rfl ?_
  rw [show (if sj_of m i 0 < sj_of m e 0 then sj_of m e 0 else sj_of m i 0) = sq_mxx (sj_of m i 0) (sj_of m e 0) from rfl]
  refine sj_callVd C 31 rfl dX4_neededTolerance_28 cv_X4_111 rfl (ct_X4_fadedMarks _ h hI _) rfl rfl rfl ⟨_, _, kd_t, rfl, rfl, by decide⟩ ⟨rfl, rfl⟩ ?_
  refine sj_iconstv C (1) 32 rfl dX4_neededTolerance_31 rfl ?_
  refine sj_iload_n C 33 rfl dX4_neededTolerance_32 rfl rfl ?_
  refine sj_ishl C 34 rfl dX4_neededTolerance_33 ?_
  refine sj_iand C 35 rfl dX4_neededTolerance_34 ?_
  refine sj_if_eq C 40 38 rfl rfl dX4_neededTolerance_35 (fun c_35 => ?_) (fun c_35 => ?_)
  · refine sj_aload_n C 41 rfl dX4_neededTolerance_40 rfl rfl ?_
    refine sj_iload_n C 42 rfl dX4_neededTolerance_41 rfl rfl ?_
    refine sj_callVd C 45 rfl dX4_neededTolerance_42 cv_X4_91 rfl (ct_X4_sheetAt _ h (i := i) (by omega) ha) rfl rfl rfl ⟨_, _, kd_t, rfl, rfl, by decide⟩ ⟨rfl, rfl⟩ ?_
    refine sj_getr C 48 rfl fd_X4_163 dX4_neededTolerance_45 kd_a rf_a_2 ?_
    refine sj_iload_n C 49 rfl dX4_neededTolerance_48 rfl rfl ?_
    refine sj_callVd C 52 rfl dX4_neededTolerance_49 cv_X4_79 rfl (ct_X2_at _ hrm _) rfl rfl rfl ⟨_, _, kd_rm, rfl, rfl, by decide⟩ ⟨rfl, rfl⟩ ?_
    rw [sj_at_nI (j := j) _ hj (by omega), hmk j hj]
    refine sj_aload_n C 53 rfl dX4_neededTolerance_52 rfl rfl ?_
    refine sj_iload_n C 54 rfl dX4_neededTolerance_53 rfl rfl ?_
    refine sj_callVd C 57 rfl dX4_neededTolerance_54 cv_X4_91 rfl (ct_X4_sheetAt _ h (i := e) (by omega) ha2) rfl rfl rfl ⟨_, _, kd_t, rfl, rfl, by decide⟩ ⟨rfl, rfl⟩ ?_
    refine sj_getr C 60 rfl fd_X4_163 dX4_neededTolerance_57 kd_c rf_c_2 ?_
    refine sj_iload_n C 61 rfl dX4_neededTolerance_60 rfl rfl ?_
    refine sj_callVd C 64 rfl dX4_neededTolerance_61 cv_X4_79 rfl (ct_X2_at _ hrm2 _) rfl rfl rfl ⟨_, _, kd_rm2, rfl, rfl, by decide⟩ ⟨rfl, rfl⟩ ?_
    rw [sj_at_nI (j := j) _ hj (by omega), hmk2 j hj]
    refine sj_isub C 65 rfl dX4_neededTolerance_64 ?_
    refine sj_mabs C 68 rfl dX4_neededTolerance_65 cv_X4_166 rfl ?_
    rw [show (if 0 ≤ sj_mk m i j - sj_mk m e j then sj_mk m i j - sj_mk m e j else 0 - (sj_mk m i j - sj_mk m e j)) = sj_ab (sj_mk m i j - sj_mk m e j) from rfl]
    refine sj_istore_6 C 70 rfl dX4_neededTolerance_68 rfl rfl ?_
    refine sj_iconstv C (0) 71 rfl dX4_neededTolerance_70 rfl ?_
    refine sj_iload C 73 rfl dX4_neededTolerance_71 rfl ?_
    refine sj_iload C 75 rfl dX4_neededTolerance_73 rfl ?_
    refine sj_iload C 77 rfl dX4_neededTolerance_75 rfl ?_
    refine sj_callSd C 80 rfl dX4_neededTolerance_77 cv_X4_169 rfl (ct_X4_allowance _ _ _ _) rfl rfl rfl ⟨rfl, rfl⟩ ?_
    refine sj_isub C 81 rfl dX4_neededTolerance_80 ?_
    refine sj_mmax C 84 rfl dX4_neededTolerance_81 cv_X4_88 rfl ?_
    refine sj_iret C hR rfl rfl dX4_neededTolerance_84 ?_
    refine ⟨congrArg (fun z => some (Value.int z)) ?_, rfl⟩
    have hg := (sj_gn_bit hj).mp c_35
    rw [show sj_ab (sj_mk m i j - sj_mk m e j) - sj_ab (sj_of m i 0 - sj_of m e 0) / 10 = sj_dfr m i e j from by unfold sj_dfr; rw [sj_ab_sz, sj_ab_sz], show sj_tol m i e j = (if sj_dfr m i e j < 0 then 0 else sj_dfr m i e j) from if_neg (by rw [hg]; exact Bool.false_ne_true)]
    by_cases hd : sj_dfr m i e j < 0
    · rw [if_neg (Int32.not_lt.mpr (Int32.le_of_lt hd)), if_pos hd]
    · by_cases h8 : 0 < sj_dfr m i e j
      · rw [if_pos h8, if_neg hd]
      · rw [if_neg h8, if_neg hd]
        exact Int32.le_antisymm (Int32.not_lt.mp hd) (Int32.not_lt.mp h8)
  · refine sj_iconstv C (-1) 39 rfl dX4_neededTolerance_38 rfl ?_
    refine sj_iret C hR rfl rfl dX4_neededTolerance_39 ?_
    refine ⟨congrArg (fun z => some (Value.int z)) ?_, rfl⟩
    have hg : sj_gn m i e j = true := by
      cases hg : sj_gn m i e j
      · exact absurd ((sj_gn_bit hj).mpr hg) c_35
      · rfl
    unfold sj_tol
    rw [if_pos hg]
