/-! THE LAW: what trembles, tolerances, what agrees, oaths found -/
theorem sp_age {m : Nat → Int32} {i : Nat} {y j : Int32} (h : j = if sj_of m i 0 + y ≤ 99 then sj_of m i 0 + y else 99) : j = sj_age m y i := by
  rw [h]
  unfold sj_age
  by_cases h1 : sj_of m i 0 + y ≤ 99
  · rw [if_pos h1, if_neg (Int32.not_lt.mpr h1)]
  · rw [if_neg h1, if_pos (Int32.not_le.mp h1)]
theorem sp_gn {m : Nat → Int32} {y : Int32} {i e j : Nat} (hi : i < sj_tn (m 9)) (he : e < sj_tn (m 9)) : sj_gn (sj_pas m y (sj_tn (m 9))) i e j = ((decide (j = 2) || decide (j = 3)) && (decide (m 6 ≤ sj_age m y i) || decide (m 6 ≤ sj_age m y e))) := by
  unfold sj_gn sj_hf
  rw [sj_pas_at m y _ hi, sj_pas_at m y _ he, sj_pas_lo m y (by omega)]
theorem sp_dfr {m : Nat → Int32} (hI : sj_inv m) {y : Int32} (hy : 0 ≤ y ∧ y ≤ 99) {i e j : Nat} (hi : i < sj_tn (m 9)) (he : e < sj_tn (m 9)) (hj : j < 6) : sj_dfr (sj_pas m y (sj_tn (m 9))) i e j = sj_sz (sj_mk m i j - sj_mk m e j) - sj_sz (sj_age m y i - sj_age m y e) / 10 := by
  unfold sj_dfr
  rw [sq_mk_pas hI hy hi hj, sq_mk_pas hI hy he hj, sj_pas_at m y _ hi, sj_pas_at m y _ he]
theorem sp_tol_gn {m : Nat → Int32} {y : Int32} {i e j : Nat} (hi : i < sj_tn (m 9)) (he : e < sj_tn (m 9)) (hj : j < 6) (h1 : nI j = 2 ∨ nI j = 3) (h2 : m 6 ≤ sj_age m y i ∨ m 6 ≤ sj_age m y e) : (-1 : Int32) = sj_tol (sj_pas m y (sj_tn (m 9))) i e j := by
  unfold sj_tol
  rw [if_pos]
  rw [sp_gn hi he]
  have h1' : j = 2 ∨ j = 3 := h1.imp (fun h => (nI_eq (b := 2) (by omega) (by omega)).mp h) (fun h => (nI_eq (b := 3) (by omega) (by omega)).mp h)
  rw [Bool.and_eq_true, Bool.or_eq_true, Bool.or_eq_true]
  exact ⟨h1'.imp decide_eq_true decide_eq_true, h2.imp decide_eq_true decide_eq_true⟩
theorem sp_tol_no {m : Nat → Int32} (hI : sj_inv m) {y : Int32} (hy : 0 ≤ y ∧ y ≤ 99) {i e j : Nat} (hi : i < sj_tn (m 9)) (he : e < sj_tn (m 9)) (hj : j < 6) (h : ¬ ((nI j = 2 ∨ nI j = 3) ∧ (m 6 ≤ sj_age m y i ∨ m 6 ≤ sj_age m y e))) {x : Int32} (hx : x = if 0 ≤ sj_sz (sj_mk m i j - sj_mk m e j) - sj_sz (sj_age m y i - sj_age m y e) / 10 then sj_sz (sj_mk m i j - sj_mk m e j) - sj_sz (sj_age m y i - sj_age m y e) / 10 else 0) : x = sj_tol (sj_pas m y (sj_tn (m 9))) i e j := by
  unfold sj_tol
  rw [if_neg, sp_dfr hI hy hi he hj, hx]
  · by_cases h1 : 0 ≤ sj_sz (sj_mk m i j - sj_mk m e j) - sj_sz (sj_age m y i - sj_age m y e) / 10
    · rw [if_pos h1, if_neg (Int32.not_lt.mpr h1)]
    · rw [if_neg h1, if_pos (Int32.not_le.mp h1)]
  · rw [sp_gn hi he, Bool.and_eq_true, Bool.or_eq_true, Bool.or_eq_true]
    rintro ⟨h1, h2⟩
    exact h ⟨h1.imp (fun h => by rw [of_decide_eq_true h]; rfl) (fun h => by rw [of_decide_eq_true h]; rfl), h2.imp of_decide_eq_true of_decide_eq_true⟩
theorem sp_agb {M : Nat → Int32} {i e k : Nat} (h0 : 0 ≤ M k) {v j : Int32} (h : ((sj_tol M i e k < 0) ∧ j = 0) ∨ ((¬ sj_tol M i e k < 0) ∧ (M k < sj_tol M i e k) ∧ j = 0) ∨ ((¬ sj_tol M i e k < 0) ∧ (¬ M k < sj_tol M i e k) ∧ j = v)) : j = if sj_agb M i e k then v else 0 := by
  have key : sj_agb M i e k = true ↔ ¬ sj_tol M i e k < 0 ∧ ¬ M k < sj_tol M i e k := by
    unfold sj_agb sj_tol
    cases hg : sj_gn M i e k
    · rw [if_neg (by decide), Bool.not_false, Bool.true_and, decide_eq_true_iff]
      by_cases h1 : sj_dfr M i e k < 0
      · rw [if_pos h1]
        exact ⟨fun _ => ⟨by decide, Int32.not_lt.mpr h0⟩, fun _ => Int32.le_trans (Int32.le_of_lt h1) h0⟩
      · rw [if_neg h1]
        exact ⟨fun h2 => ⟨h1, Int32.not_lt.mpr h2⟩, fun h2 => Int32.not_lt.mp h2.2⟩
    · rw [if_pos rfl]
      exact ⟨fun h2 => by simp at h2, fun h2 => absurd (by decide) h2.1⟩
  rcases h with ⟨h1, rfl⟩ | ⟨h1, h2, rfl⟩ | ⟨h1, h2, rfl⟩
  · rw [if_neg (fun h9 => (key.mp h9).1 h1)]
  · rw [if_neg (fun h9 => (key.mp h9).2 h2)]
  · rw [if_pos (key.mpr ⟨h1, h2⟩)]
/-- the last that is found, going up -/
def sp_fl (m : Nat → Int32) (i e : Nat) : Nat → Int32
  | 0 => -1
  | k + 1 => if sj_fp m i e k then nI k else sp_fl m i e k
theorem sp_fl_in {m : Nat → Int32} {i e : Nat} : ∀ n, (sp_fl m i e n = -1 ∧ ∀ j, j < n → sj_fp m i e j = false) ∨ ∃ j, j < n ∧ sj_fp m i e j = true ∧ sp_fl m i e n = nI j
  | 0 => Or.inl ⟨rfl, fun j hj => by omega⟩
  | n + 1 => by
    cases h : sj_fp m i e n
    · have e1 : sp_fl m i e (n + 1) = sp_fl m i e n := by
        show (if sj_fp m i e n then nI n else sp_fl m i e n) = _
        rw [if_neg (by rw [h]; decide)]
      rw [e1]
      rcases sp_fl_in (m := m) (i := i) (e := e) n with ⟨h1, h2⟩ | ⟨j, h1, h2, h3⟩
      · refine Or.inl ⟨h1, fun j hj => ?_⟩
        by_cases hn : j = n
        · rw [hn, h]
        · exact h2 j (by omega)
      · exact Or.inr ⟨j, by omega, h2, h3⟩
    · exact Or.inr ⟨n, by omega, h, by show (if sj_fp m i e n then nI n else sp_fl m i e n) = _; rw [if_pos h]⟩
theorem sp_fp_un {m : Nat → Int32} (hI : sj_inv m) {i e j k : Nat} (hj : j < sj_tn (m 10)) (hk : k < sj_tn (m 10)) (h1 : sj_fp m i e j = true) (h2 : sj_fp m i e k = true) : j = k := by
  have hu := hI.2.2.1.2.2
  have key : ∀ a b, a < b → b < sj_tn (m 10) → sj_fp m i e a = true → sj_fp m i e b = true → False := fun a b hab hb g1 g2 => by
    unfold sj_fp at g1 g2
    simp only [Bool.or_eq_true, Bool.and_eq_true, decide_eq_true_iff] at g1 g2
    obtain ⟨u1, u2⟩ := hu a b hab hb
    rcases g1 with ⟨a1, a2⟩ | ⟨a1, a2⟩ <;> rcases g2 with ⟨b1, b2⟩ | ⟨b1, b2⟩
    · exact u1 ⟨a1.trans b1.symm, a2.trans b2.symm⟩
    · exact u2 ⟨a1.trans b2.symm, a2.trans b1.symm⟩
    · exact u2 ⟨a1.trans b2.symm, a2.trans b1.symm⟩
    · exact u1 ⟨a1.trans b1.symm, a2.trans b2.symm⟩
  rcases Nat.lt_trichotomy j k with h | h | h
  · exact (key j k h hk h1 h2).elim
  · exact h
  · exact (key k j h hj h2 h1).elim
theorem sp_fl_fo {m : Nat → Int32} (hI : sj_inv m) (i e : Nat) : sp_fl m i e (sj_tn (m 10)) = sj_fo m i e := by
  have hN := hI.2.1.2
  unfold sj_fo
  rcases sp_fl_in (m := m) (i := i) (e := e) (sj_tn (m 10)) with ⟨h1, h2⟩ | ⟨j, h1, h2, h3⟩
  · rcases sq_fst_in (p := sj_fp m i e) (sj_tn (m 10)) 0 with g | ⟨k, g1, g2, g3, g4⟩
    · rw [h1, g]
    · rw [h2 k (by omega)] at g3
      cases g3
  · rcases sq_fst_in (p := sj_fp m i e) (sj_tn (m 10)) 0 with g | ⟨k, g1, g2, g3, g4⟩
    · have g5 := sj_fst_no _ _ g (by omega) j (by omega) (by omega)
      rw [h2] at g5
      cases g5
    · rw [h3, g4, sp_fp_un hI h1 (by omega) h2 g3]
theorem sp_oa_n {m : Nat → Int32} (hI : sj_inv m) {k : Nat} (hk : k < sj_tn (m 10)) : (sj_oa m k 0 = nI (sj_tn (sj_oa m k 0)) ∧ sj_tn (sj_oa m k 0) < 8) ∧ (sj_oa m k 1 = nI (sj_tn (sj_oa m k 1)) ∧ sj_tn (sj_oa m k 1) < 8) ∧ (sj_oa m k 2 = nI (sj_tn (sj_oa m k 2)) ∧ sj_tn (sj_oa m k 2) < 2) := by
  obtain ⟨⟨a1, a2⟩, ⟨b1, b2⟩, c⟩ := hI.2.2.1.1 k hk
  have h8 := hI.1.2
  refine ⟨⟨a1, by omega⟩, ⟨b1, by omega⟩, ?_⟩
  rcases c with c | c
  · rw [c]
    exact ⟨by decide, by decide⟩
  · rw [c]
    exact ⟨by decide, by decide⟩
theorem sp_pn_lo {m : Nat → Int32} (hI : sj_inv m) {k : Nat} (hk : k < sj_tn (m 10)) : nI (sp_pn m k) &&& 255 = nI (sj_tn (sj_oa m k 0) + 16 * sj_tn (sj_oa m k 1)) := by
  obtain ⟨⟨-, a⟩, ⟨-, b⟩, ⟨-, c⟩⟩ := sp_oa_n hI hk
  unfold sp_pn
  rw [pk_andN (by omega) 8 (by decide), show (sj_tn (sj_oa m k 0) + 16 * sj_tn (sj_oa m k 1) + 256 * sj_tn (sj_oa m k 2)) % 2 ^ 8 = sj_tn (sj_oa m k 0) + 16 * sj_tn (sj_oa m k 1) by omega]
theorem sp_pn_0 {m : Nat → Int32} (hI : sj_inv m) {k : Nat} (hk : k < sj_tn (m 10)) : nI (sp_pn m k) &&& 15 = nI (sj_tn (sj_oa m k 0)) := by
  obtain ⟨⟨-, a⟩, ⟨-, b⟩, ⟨-, c⟩⟩ := sp_oa_n hI hk
  unfold sp_pn
  rw [pk_andN (by omega) 4 (by decide), show (sj_tn (sj_oa m k 0) + 16 * sj_tn (sj_oa m k 1) + 256 * sj_tn (sj_oa m k 2)) % 2 ^ 4 = sj_tn (sj_oa m k 0) by omega]
theorem sp_pn_1 {m : Nat → Int32} (hI : sj_inv m) {k : Nat} (hk : k < sj_tn (m 10)) : (nI (sp_pn m k) >>> (4 &&& 31)) &&& 15 = nI (sj_tn (sj_oa m k 1)) := by
  obtain ⟨⟨-, a⟩, ⟨-, b⟩, ⟨-, c⟩⟩ := sp_oa_n hI hk
  unfold sp_pn
  rw [pk_shrN (by omega) _ 4 (by decide), pk_andN (by omega) 4 (by decide), show (sj_tn (sj_oa m k 0) + 16 * sj_tn (sj_oa m k 1) + 256 * sj_tn (sj_oa m k 2)) / 2 ^ 4 % 2 ^ 4 = sj_tn (sj_oa m k 1) by omega]
theorem sp_pn_2 {m : Nat → Int32} (hI : sj_inv m) {k : Nat} (hk : k < sj_tn (m 10)) : nI (sp_pn m k) >>> (8 &&& 31) = sj_oa m k 2 := by
  obtain ⟨⟨-, a⟩, ⟨-, b⟩, ⟨c1, c⟩⟩ := sp_oa_n hI hk
  unfold sp_pn
  rw [pk_shrN (by omega) _ 8 (by decide), show (sj_tn (sj_oa m k 0) + 16 * sj_tn (sj_oa m k 1) + 256 * sj_tn (sj_oa m k 2)) / 2 ^ 8 = sj_tn (sj_oa m k 2) by omega]
  exact c1.symm
theorem sp_fp_j {m : Nat → Int32} (hI : sj_inv m) {k i e : Nat} (hk : k < sj_tn (m 10)) (hi : i < 8) (he : e < 8) {j x : Int32} (h : ((nI (sj_tn (sj_oa m k 0) + 16 * sj_tn (sj_oa m k 1)) = nI (i + 16 * e)) ∧ j = nI k) ∨ ((¬ nI (sj_tn (sj_oa m k 0) + 16 * sj_tn (sj_oa m k 1)) = nI (i + 16 * e)) ∧ (¬ nI (sj_tn (sj_oa m k 0) + 16 * sj_tn (sj_oa m k 1)) = nI (e + 16 * i)) ∧ j = x) ∨ ((¬ nI (sj_tn (sj_oa m k 0) + 16 * sj_tn (sj_oa m k 1)) = nI (i + 16 * e)) ∧ (nI (sj_tn (sj_oa m k 0) + 16 * sj_tn (sj_oa m k 1)) = nI (e + 16 * i)) ∧ j = nI k)) : j = if sj_fp m i e k then nI k else x := by
  obtain ⟨⟨a1, a⟩, ⟨b1, b⟩, -⟩ := sp_oa_n hI hk
  rw [nI_eq (by omega) (by omega), nI_eq (by omega) (by omega)] at h
  have key : sj_fp m i e k = true ↔ (sj_tn (sj_oa m k 0) + 16 * sj_tn (sj_oa m k 1) = i + 16 * e ∨ sj_tn (sj_oa m k 0) + 16 * sj_tn (sj_oa m k 1) = e + 16 * i) := by
    unfold sj_fp
    simp only [Bool.or_eq_true, Bool.and_eq_true, decide_eq_true_iff]
    rw [a1, b1, nI_eq (by omega) (by omega), nI_eq (by omega) (by omega), nI_eq (by omega) (by omega), nI_eq (by omega) (by omega)]
    rw [← a1, ← b1]
    omega
  rcases h with ⟨h1, rfl⟩ | ⟨h1, h2, rfl⟩ | ⟨h1, h2, rfl⟩
  · rw [if_pos (key.mpr (Or.inl h1))]
  · rw [if_neg (fun h9 => (key.mp h9).elim h1 h2)]
  · rw [if_pos (key.mpr (Or.inr h2))]
set_option maxRecDepth 100000 in
set_option maxHeartbeats 400000 in
theorem ct_L_trembles (l : Launch) {S : sj_St} {rq ra rn rt rp : Nat} {m : Nat → Int32} (h : sp_B S rq ra rn rt rp m) (hI : sj_inv m) {i : Nat} (hi : i < sj_tn (m 9)) : sj_Ctr l mL_trembles [.int (nI (i)), .ref rq, .ref rn, .ref rt] S (sj_eq (some (.int (sj_bi (sj_trm m i)))) S) := by
  refine sj_start ([some (.int (nI (i))), some (.ref rq), some (.ref rn), some (.ref rt), none, none]) (by decide +kernel) rfl rfl (fun X hX C hR => ?_)
  subst hX
  obtain ⟨⟨kd_rq, il_rq⟩, ⟨kd_ra, il_ra⟩, ⟨kd_rn, il_rn⟩, ⟨kd_rt, il_rt⟩, ⟨kd_rp, il_rp⟩, hq, hs, hp⟩ := id h
  obtain ⟨h9, hn8⟩ := id hI.1
  obtain ⟨h10, hN28⟩ := id hI.2.1
  obtain ⟨hai, hni, hti⟩ := hs i hi
  obtain ⟨ens, n1, n8⟩ := sp_ns hI hi
  rw [ens] at hni
  have cut_9 : ∀ x4 : Int32, (x4 = sj_sum (fun e => sj_os m i e 4) 0) → sj_G X S 0 0 [some (.int (nI (i))), some (.ref rq), some (.ref rn), some (.ref rt), some (.int (x4)), some (.int (nI (8 * i + 0)))] 9 [] := by
    refine sj_down (fun k => ∀ x4 : Int32, (x4 = sj_sum (fun e => sj_os m i e 4) k) → sj_G X S 0 0 [some (.int (nI (i))), some (.ref rq), some (.ref rn), some (.ref rt), some (.int (x4)), some (.int (nI (8 * i + k)))] 9 []) (sj_ns m i) (fun k hk ih_9 => ?_)
    intro x4 e_x4
    refine sj_iload C 11 rfl dL_trembles_9 rfl ?_
    refine sj_bipush C (8) 13 rfl dL_trembles_11 (by decide) ?_
    refine sj_iload_n C 14 rfl dL_trembles_13 rfl rfl ?_
    refine sj_imul C 15 rfl dL_trembles_14 ?_
    rw [show 8 * nI (i) = nI (8 * i) from sj_nmul 8 i]
    refine sj_aload_n C 16 rfl dL_trembles_15 rfl rfl ?_
    refine sj_iload_n C 17 rfl dL_trembles_16 rfl rfl ?_
    refine sj_iald C 18 rfl dL_trembles_17 kd_rn (sp_vp il_rn (by omega) (by omega)) ?_
    rw [nI_clamp (by omega)]
    rw [hni]
    refine sj_iadd C 19 rfl dL_trembles_18 ?_
    rw [show nI (8 * i) + nI (sj_ns m i) = nI ((8 * i) + (sj_ns m i)) from nI_add (8 * i) (sj_ns m i)]
    refine sj_icmp_ge C 40 22 rfl rfl dL_trembles_19 (fun c_19 => ?_) (fun c_19 => ?_)
    · have hkn : k = sj_ns m i := by
        have h99 : ¬ k < sj_ns m i := fun h9 => nI_ge (show 8 * i + k < 8 * i + sj_ns m i by omega) (by omega) c_19
        omega
      subst hkn
      refine sj_iload C 42 rfl dL_trembles_40 rfl ?_
      refine sj_aload_n C 43 rfl dL_trembles_42 rfl rfl ?_
      refine sj_iload_n C 44 rfl dL_trembles_43 rfl rfl ?_
      refine sj_iald C 45 rfl dL_trembles_44 kd_rn (sp_vp il_rn (by omega) (by omega)) ?_
      rw [nI_clamp (by omega)]
      rw [hni]
      refine sj_aload_n C 46 rfl dL_trembles_45 rfl rfl ?_
      refine sj_bipush C (7) 48 rfl dL_trembles_46 (by decide) ?_
      refine sj_iald C 49 rfl dL_trembles_48 kd_rq (sp_vp (i := 7) il_rq (by omega) (by omega)) ?_
      rw [show Int32.toNatClampNeg 7 = 7 from rfl]
      rw [hq 7 (by omega)]
      refine sj_imul C 50 rfl dL_trembles_49 ?_
      refine sj_icmp_le C 57 53 rfl rfl dL_trembles_50 (fun c_50 => ?_) (fun c_50 => ?_)
      · refine sj_iconstv C (0) 58 rfl dL_trembles_57 rfl ?_
        refine sj_zret C hR rfl rfl rfl dL_trembles_58 ?_
        refine ⟨congrArg (fun z => some (Value.int z)) ?_, rfl⟩
        rw [show sj_trm m i = false from decide_eq_false (by rw [← show x4 = sj_tot m i 4 from e_x4]; exact Int32.not_lt.mpr c_50)]
        rfl
      · refine sj_iconstv C (1) 54 rfl dL_trembles_53 rfl ?_
        refine sj_goto C 58 rfl dL_trembles_54 ?_
        refine sj_zret C hR rfl rfl rfl dL_trembles_58 ?_
        refine ⟨congrArg (fun z => some (Value.int z)) ?_, rfl⟩
        rw [show sj_trm m i = true from decide_eq_true (by rw [← show x4 = sj_tot m i 4 from e_x4]; exact Int32.not_le.mp c_50)]
        rfl
    · have hlt : k < sj_ns m i := Nat.not_le.mp fun h9 => c_19 (nI_le (show 8 * i + sj_ns m i ≤ 8 * i + k by omega) (by omega))
      refine sj_iload C 24 rfl dL_trembles_22 rfl ?_
      refine sj_aload_n C 25 rfl dL_trembles_24 rfl rfl ?_
      refine sj_iload C 27 rfl dL_trembles_25 rfl ?_
      refine sj_iald C 28 rfl dL_trembles_27 kd_rt (sp_vp il_rt (by omega) (by omega)) ?_
      rw [nI_clamp (by omega)]
      refine sj_bipush C (18) 30 rfl dL_trembles_28 (by decide) ?_
      refine sj_ishr C 31 rfl dL_trembles_30 ?_
      rw [sp_tk_4 (hti k hlt)]
      refine sj_iadd C 32 rfl dL_trembles_31 ?_
      refine sj_istore_4 C 34 rfl dL_trembles_32 rfl rfl ?_
      refine sj_iinc_5 C 37 rfl dL_trembles_34 rfl rfl ?_
      rw [show nI (8 * i + k) + Int32.ofInt 1 = nI ((8 * i + k) + 1) from nI_add _ _]
      refine sj_goto C 9 rfl dL_trembles_37 ?_
      exact ih_9 (hlt) _ (by rw [e_x4]; rfl)
  refine sj_iconstv C (0) 1 rfl dL_trembles_0 rfl ?_
  refine sj_istore_4 C 3 rfl dL_trembles_1 rfl rfl ?_
  refine sj_bipush C (8) 5 rfl dL_trembles_3 (by decide) ?_
  refine sj_iload_n C 6 rfl dL_trembles_5 rfl rfl ?_
  refine sj_imul C 7 rfl dL_trembles_6 ?_
  rw [show 8 * nI (i) = nI (8 * i) from sj_nmul 8 i]
  refine sj_istore_5 C 9 rfl dL_trembles_7 rfl rfl ?_
  exact cut_9 _ (rfl)
set_option maxRecDepth 100000 in
set_option maxHeartbeats 400000 in
theorem ct_L_tolerance (l : Launch) {S : sj_St} {rq ra rn rt rp : Nat} {m : Nat → Int32} (h : sp_B S rq ra rn rt rp m) (hI : sj_inv m) {i e j : Nat} (hi : i < sj_tn (m 9)) (he : e < sj_tn (m 9)) (hj : j < 6) {y : Int32} (hy : 0 ≤ y ∧ y ≤ 99) : sj_Ctr l mL_tolerance [.int (nI (i)), .int (nI (e)), .int (nI (j)), .int (y), .ref rq, .ref ra, .ref rn, .ref rt] S (sj_eq (some (.int (sj_tol (sj_pas m y (sj_tn (m 9))) i e j))) S) := by
  refine sj_start ([some (.int (nI (i))), some (.int (nI (e))), some (.int (nI (j))), some (.int (y)), some (.ref rq), some (.ref ra), some (.ref rn), some (.ref rt), none, none, none]) (by decide +kernel) rfl rfl (fun X hX C hR => ?_)
  subst hX
  obtain ⟨⟨kd_rq, il_rq⟩, ⟨kd_ra, il_ra⟩, ⟨kd_rn, il_rn⟩, ⟨kd_rt, il_rt⟩, ⟨kd_rp, il_rp⟩, hq, hs, hp⟩ := id h
  obtain ⟨h9, hn8⟩ := id hI.1
  obtain ⟨h10, hN28⟩ := id hI.2.1
  obtain ⟨hai, hni, hti⟩ := hs i hi
  obtain ⟨hae, hne, hte⟩ := hs e he
  refine sj_aload C 2 rfl dL_tolerance_0 rfl ?_
  refine sj_iload_n C 3 rfl dL_tolerance_2 rfl rfl ?_
  refine sj_iald C 4 rfl dL_tolerance_3 kd_ra (sp_vp il_ra (by omega) (by omega)) ?_
  rw [nI_clamp (by omega)]
  rw [hai]
  refine sj_iload_n C 5 rfl dL_tolerance_4 rfl rfl ?_
  refine sj_iadd C 6 rfl dL_tolerance_5 ?_
  refine sj_bipush C (99) 8 rfl dL_tolerance_6 (by decide) ?_
  have cut_22 : ∀ j22 : Int32, (j22 = if ((sj_of m i 0) + y) ≤ 99 then (sj_of m i 0) + y else 99) → sj_G X S 0 0 [some (.int (nI (i))), some (.int (nI (e))), some (.int (nI (j))), some (.int (y)), some (.ref rq), some (.ref ra), some (.ref rn), some (.ref rt), none, none, none] 22 [.int (j22)] := by
    intro j22 h22
    have e22 : j22 = sj_age m y i := sp_age h22
    refine sj_istore_8 C 24 rfl dL_tolerance_22 rfl rfl ?_
    refine sj_aload C 26 rfl dL_tolerance_24 rfl ?_
    refine sj_iload_n C 27 rfl dL_tolerance_26 rfl rfl ?_
    refine sj_iald C 28 rfl dL_tolerance_27 kd_ra (sp_vp il_ra (by omega) (by omega)) ?_
    rw [nI_clamp (by omega)]
    rw [hae]
    refine sj_iload_n C 29 rfl dL_tolerance_28 rfl rfl ?_
    refine sj_iadd C 30 rfl dL_tolerance_29 ?_
    refine sj_bipush C (99) 32 rfl dL_tolerance_30 (by decide) ?_
    have cut_46 : ∀ j46 : Int32, (j46 = if ((sj_of m e 0) + y) ≤ 99 then (sj_of m e 0) + y else 99) → sj_G X S 0 0 [some (.int (nI (i))), some (.int (nI (e))), some (.int (nI (j))), some (.int (y)), some (.ref rq), some (.ref ra), some (.ref rn), some (.ref rt), some (.int (j22)), none, none] 46 [.int (j46)] := by
      intro j46 h46
      have e46 : j46 = sj_age m y e := sp_age h46
      refine sj_istore_9 C 48 rfl dL_tolerance_46 rfl rfl ?_
      refine sj_iload_n C 49 rfl dL_tolerance_48 rfl rfl ?_
      refine sj_iconstv C (2) 50 rfl dL_tolerance_49 rfl ?_
      refine sj_icmp_eq C 58 53 rfl rfl dL_tolerance_50 (fun c_50 => ?_) (fun c_50 => ?_)
      · refine sj_iload C 60 rfl dL_tolerance_58 rfl ?_
        refine sj_aload C 62 rfl dL_tolerance_60 rfl ?_
        refine sj_bipush C (6) 64 rfl dL_tolerance_62 (by decide) ?_
        refine sj_iald C 65 rfl dL_tolerance_64 kd_rq (sp_vp (i := 6) il_rq (by omega) (by omega)) ?_
        rw [show Int32.toNatClampNeg 6 = 6 from rfl]
        rw [hq 6 (by omega)]
        refine sj_icmp_ge C 78 68 rfl rfl dL_tolerance_65 (fun c_65 => ?_) (fun c_65 => ?_)
        · refine sj_iconstv C (-1) 79 rfl dL_tolerance_78 rfl ?_
          refine sj_iret C hR rfl rfl dL_tolerance_79 ?_
          refine ⟨congrArg (fun z => some (Value.int z)) ?_, rfl⟩
          exact sp_tol_gn hi he hj (Or.inl c_50) (Or.inl (by rw [← e22]; exact c_65))
        · refine sj_iload C 70 rfl dL_tolerance_68 rfl ?_
          refine sj_aload C 72 rfl dL_tolerance_70 rfl ?_
          refine sj_bipush C (6) 74 rfl dL_tolerance_72 (by decide) ?_
          refine sj_iald C 75 rfl dL_tolerance_74 kd_rq (sp_vp (i := 6) il_rq (by omega) (by omega)) ?_
          rw [show Int32.toNatClampNeg 6 = 6 from rfl]
          rw [hq 6 (by omega)]
          refine sj_icmp_lt C 80 78 rfl rfl dL_tolerance_75 (fun c_75 => ?_) (fun c_75 => ?_)
          · refine sj_iload_n C 81 rfl dL_tolerance_80 rfl rfl ?_
            refine sj_iload_n C 82 rfl dL_tolerance_81 rfl rfl ?_
            refine sj_aload C 84 rfl dL_tolerance_82 rfl ?_
            refine sj_aload C 86 rfl dL_tolerance_84 rfl ?_
            refine sj_callSd C 89 rfl dL_tolerance_86 cv_L_105 rfl (ct_L_markOf _ h hI hi hj) rfl rfl rfl ⟨rfl, rfl⟩ ?_
            refine sj_iload_n C 90 rfl dL_tolerance_89 rfl rfl ?_
            refine sj_iload_n C 91 rfl dL_tolerance_90 rfl rfl ?_
            refine sj_aload C 93 rfl dL_tolerance_91 rfl ?_
            refine sj_aload C 95 rfl dL_tolerance_93 rfl ?_
            refine sj_callSd C 98 rfl dL_tolerance_95 cv_L_105 rfl (ct_L_markOf _ h hI he hj) rfl rfl rfl ⟨rfl, rfl⟩ ?_
            refine sj_isub C 99 rfl dL_tolerance_98 ?_
            refine sj_callSd C 102 rfl dL_tolerance_99 cv_L_109 rfl (ct_L_size _ _ _) rfl rfl rfl ⟨rfl, rfl⟩ ?_
            refine sj_iload C 104 rfl dL_tolerance_102 rfl ?_
            refine sj_iload C 106 rfl dL_tolerance_104 rfl ?_
            refine sj_isub C 107 rfl dL_tolerance_106 ?_
            refine sj_callSd C 110 rfl dL_tolerance_107 cv_L_109 rfl (ct_L_size _ _ _) rfl rfl rfl ⟨rfl, rfl⟩ ?_
            refine sj_bipush C (10) 112 rfl dL_tolerance_110 (by decide) ?_
            refine sj_idiv C 113 rfl dL_tolerance_112 (by decide) ?_
            refine sj_isub C 114 rfl dL_tolerance_113 ?_
            refine sj_istore_10 C 116 rfl dL_tolerance_114 rfl rfl ?_
            refine sj_iload C 118 rfl dL_tolerance_116 rfl ?_
            refine sj_if_ge C 125 121 rfl rfl dL_tolerance_118 (fun c_118 => ?_) (fun c_118 => ?_)
            · refine sj_iload C 127 rfl dL_tolerance_125 rfl ?_
              refine sj_iret C hR rfl rfl dL_tolerance_127 ?_
              refine ⟨congrArg (fun z => some (Value.int z)) ?_, rfl⟩
              rw [e22, e46]
              exact sp_tol_no hI hy hi he hj (fun h9 => h9.2.elim (fun h8 => c_65 (by rw [e22]; exact h8)) (fun h8 => absurd h8 (Int32.not_le.mpr (by rw [← e46]; exact c_75)))) ((if_pos (by rw [← e22, ← e46]; exact c_118)).symm)
            · refine sj_iconstv C (0) 122 rfl dL_tolerance_121 rfl ?_
              refine sj_goto C 127 rfl dL_tolerance_122 ?_
              refine sj_iret C hR rfl rfl dL_tolerance_127 ?_
              refine ⟨congrArg (fun z => some (Value.int z)) ?_, rfl⟩
              exact sp_tol_no hI hy hi he hj (fun h9 => h9.2.elim (fun h8 => c_65 (by rw [e22]; exact h8)) (fun h8 => absurd h8 (Int32.not_le.mpr (by rw [← e46]; exact c_75)))) ((if_neg (by rw [← e22, ← e46]; exact c_118)).symm)
          · refine sj_iconstv C (-1) 79 rfl dL_tolerance_78 rfl ?_
            refine sj_iret C hR rfl rfl dL_tolerance_79 ?_
            refine ⟨congrArg (fun z => some (Value.int z)) ?_, rfl⟩
            exact sp_tol_gn hi he hj (Or.inl c_50) (Or.inr (by rw [← e46]; exact Int32.not_lt.mp c_75))
      · refine sj_iload_n C 54 rfl dL_tolerance_53 rfl rfl ?_
        refine sj_iconstv C (3) 55 rfl dL_tolerance_54 rfl ?_
        refine sj_icmp_ne C 80 58 rfl rfl dL_tolerance_55 (fun c_55 => ?_) (fun c_55 => ?_)
        · refine sj_iload_n C 81 rfl dL_tolerance_80 rfl rfl ?_
          refine sj_iload_n C 82 rfl dL_tolerance_81 rfl rfl ?_
          refine sj_aload C 84 rfl dL_tolerance_82 rfl ?_
          refine sj_aload C 86 rfl dL_tolerance_84 rfl ?_
          refine sj_callSd C 89 rfl dL_tolerance_86 cv_L_105 rfl (ct_L_markOf _ h hI hi hj) rfl rfl rfl ⟨rfl, rfl⟩ ?_
          refine sj_iload_n C 90 rfl dL_tolerance_89 rfl rfl ?_
          refine sj_iload_n C 91 rfl dL_tolerance_90 rfl rfl ?_
          refine sj_aload C 93 rfl dL_tolerance_91 rfl ?_
          refine sj_aload C 95 rfl dL_tolerance_93 rfl ?_
          refine sj_callSd C 98 rfl dL_tolerance_95 cv_L_105 rfl (ct_L_markOf _ h hI he hj) rfl rfl rfl ⟨rfl, rfl⟩ ?_
          refine sj_isub C 99 rfl dL_tolerance_98 ?_
          refine sj_callSd C 102 rfl dL_tolerance_99 cv_L_109 rfl (ct_L_size _ _ _) rfl rfl rfl ⟨rfl, rfl⟩ ?_
          refine sj_iload C 104 rfl dL_tolerance_102 rfl ?_
          refine sj_iload C 106 rfl dL_tolerance_104 rfl ?_
          refine sj_isub C 107 rfl dL_tolerance_106 ?_
          refine sj_callSd C 110 rfl dL_tolerance_107 cv_L_109 rfl (ct_L_size _ _ _) rfl rfl rfl ⟨rfl, rfl⟩ ?_
          refine sj_bipush C (10) 112 rfl dL_tolerance_110 (by decide) ?_
          refine sj_idiv C 113 rfl dL_tolerance_112 (by decide) ?_
          refine sj_isub C 114 rfl dL_tolerance_113 ?_
          refine sj_istore_10 C 116 rfl dL_tolerance_114 rfl rfl ?_
          refine sj_iload C 118 rfl dL_tolerance_116 rfl ?_
          refine sj_if_ge C 125 121 rfl rfl dL_tolerance_118 (fun c_118 => ?_) (fun c_118 => ?_)
          · refine sj_iload C 127 rfl dL_tolerance_125 rfl ?_
            refine sj_iret C hR rfl rfl dL_tolerance_127 ?_
            refine ⟨congrArg (fun z => some (Value.int z)) ?_, rfl⟩
            rw [e22, e46]
            exact sp_tol_no hI hy hi he hj (fun h9 => h9.1.elim c_50 c_55) ((if_pos (by rw [← e22, ← e46]; exact c_118)).symm)
          · refine sj_iconstv C (0) 122 rfl dL_tolerance_121 rfl ?_
            refine sj_goto C 127 rfl dL_tolerance_122 ?_
            refine sj_iret C hR rfl rfl dL_tolerance_127 ?_
            refine ⟨congrArg (fun z => some (Value.int z)) ?_, rfl⟩
            exact sp_tol_no hI hy hi he hj (fun h9 => h9.1.elim c_50 c_55) ((if_neg (by rw [← e22, ← e46]; exact c_118)).symm)
        · refine sj_iload C 60 rfl dL_tolerance_58 rfl ?_
          refine sj_aload C 62 rfl dL_tolerance_60 rfl ?_
          refine sj_bipush C (6) 64 rfl dL_tolerance_62 (by decide) ?_
          refine sj_iald C 65 rfl dL_tolerance_64 kd_rq (sp_vp (i := 6) il_rq (by omega) (by omega)) ?_
          rw [show Int32.toNatClampNeg 6 = 6 from rfl]
          rw [hq 6 (by omega)]
          refine sj_icmp_ge C 78 68 rfl rfl dL_tolerance_65 (fun c_65 => ?_) (fun c_65 => ?_)
          · refine sj_iconstv C (-1) 79 rfl dL_tolerance_78 rfl ?_
            refine sj_iret C hR rfl rfl dL_tolerance_79 ?_
            refine ⟨congrArg (fun z => some (Value.int z)) ?_, rfl⟩
            exact sp_tol_gn hi he hj (Or.inr c_55) (Or.inl (by rw [← e22]; exact c_65))
          · refine sj_iload C 70 rfl dL_tolerance_68 rfl ?_
            refine sj_aload C 72 rfl dL_tolerance_70 rfl ?_
            refine sj_bipush C (6) 74 rfl dL_tolerance_72 (by decide) ?_
            refine sj_iald C 75 rfl dL_tolerance_74 kd_rq (sp_vp (i := 6) il_rq (by omega) (by omega)) ?_
            rw [show Int32.toNatClampNeg 6 = 6 from rfl]
            rw [hq 6 (by omega)]
            refine sj_icmp_lt C 80 78 rfl rfl dL_tolerance_75 (fun c_75 => ?_) (fun c_75 => ?_)
            · refine sj_iload_n C 81 rfl dL_tolerance_80 rfl rfl ?_
              refine sj_iload_n C 82 rfl dL_tolerance_81 rfl rfl ?_
              refine sj_aload C 84 rfl dL_tolerance_82 rfl ?_
              refine sj_aload C 86 rfl dL_tolerance_84 rfl ?_
              refine sj_callSd C 89 rfl dL_tolerance_86 cv_L_105 rfl (ct_L_markOf _ h hI hi hj) rfl rfl rfl ⟨rfl, rfl⟩ ?_
              refine sj_iload_n C 90 rfl dL_tolerance_89 rfl rfl ?_
              refine sj_iload_n C 91 rfl dL_tolerance_90 rfl rfl ?_
              refine sj_aload C 93 rfl dL_tolerance_91 rfl ?_
              refine sj_aload C 95 rfl dL_tolerance_93 rfl ?_
              refine sj_callSd C 98 rfl dL_tolerance_95 cv_L_105 rfl (ct_L_markOf _ h hI he hj) rfl rfl rfl ⟨rfl, rfl⟩ ?_
              refine sj_isub C 99 rfl dL_tolerance_98 ?_
              refine sj_callSd C 102 rfl dL_tolerance_99 cv_L_109 rfl (ct_L_size _ _ _) rfl rfl rfl ⟨rfl, rfl⟩ ?_
              refine sj_iload C 104 rfl dL_tolerance_102 rfl ?_
              refine sj_iload C 106 rfl dL_tolerance_104 rfl ?_
              refine sj_isub C 107 rfl dL_tolerance_106 ?_
              refine sj_callSd C 110 rfl dL_tolerance_107 cv_L_109 rfl (ct_L_size _ _ _) rfl rfl rfl ⟨rfl, rfl⟩ ?_
              refine sj_bipush C (10) 112 rfl dL_tolerance_110 (by decide) ?_
              refine sj_idiv C 113 rfl dL_tolerance_112 (by decide) ?_
              refine sj_isub C 114 rfl dL_tolerance_113 ?_
              refine sj_istore_10 C 116 rfl dL_tolerance_114 rfl rfl ?_
              refine sj_iload C 118 rfl dL_tolerance_116 rfl ?_
              refine sj_if_ge C 125 121 rfl rfl dL_tolerance_118 (fun c_118 => ?_) (fun c_118 => ?_)
              · refine sj_iload C 127 rfl dL_tolerance_125 rfl ?_
                refine sj_iret C hR rfl rfl dL_tolerance_127 ?_
                refine ⟨congrArg (fun z => some (Value.int z)) ?_, rfl⟩
                rw [e22, e46]
                exact sp_tol_no hI hy hi he hj (fun h9 => h9.2.elim (fun h8 => c_65 (by rw [e22]; exact h8)) (fun h8 => absurd h8 (Int32.not_le.mpr (by rw [← e46]; exact c_75)))) ((if_pos (by rw [← e22, ← e46]; exact c_118)).symm)
              · refine sj_iconstv C (0) 122 rfl dL_tolerance_121 rfl ?_
                refine sj_goto C 127 rfl dL_tolerance_122 ?_
                refine sj_iret C hR rfl rfl dL_tolerance_127 ?_
                refine ⟨congrArg (fun z => some (Value.int z)) ?_, rfl⟩
                exact sp_tol_no hI hy hi he hj (fun h9 => h9.2.elim (fun h8 => c_65 (by rw [e22]; exact h8)) (fun h8 => absurd h8 (Int32.not_le.mpr (by rw [← e46]; exact c_75)))) ((if_neg (by rw [← e22, ← e46]; exact c_118)).symm)
            · refine sj_iconstv C (-1) 79 rfl dL_tolerance_78 rfl ?_
              refine sj_iret C hR rfl rfl dL_tolerance_79 ?_
              refine ⟨congrArg (fun z => some (Value.int z)) ?_, rfl⟩
              exact sp_tol_gn hi he hj (Or.inr c_55) (Or.inr (by rw [← e46]; exact Int32.not_lt.mp c_75))
    refine sj_icmp_le C 40 35 rfl rfl dL_tolerance_32 (fun c_32 => ?_) (fun c_32 => ?_)
    · refine sj_aload C 42 rfl dL_tolerance_40 rfl ?_
      refine sj_iload_n C 43 rfl dL_tolerance_42 rfl rfl ?_
      refine sj_iald C 44 rfl dL_tolerance_43 kd_ra (sp_vp il_ra (by omega) (by omega)) ?_
      rw [nI_clamp (by omega)]
      rw [hae]
      refine sj_iload_n C 45 rfl dL_tolerance_44 rfl rfl ?_
      refine sj_iadd C 46 rfl dL_tolerance_45 ?_
      exact cut_46 _  ((if_pos c_32).symm)
    · refine sj_bipush C (99) 37 rfl dL_tolerance_35 (by decide) ?_
      refine sj_goto C 46 rfl dL_tolerance_37 ?_
      exact cut_46 _  ((if_neg c_32).symm)
  refine sj_icmp_le C 16 11 rfl rfl dL_tolerance_8 (fun c_8 => ?_) (fun c_8 => ?_)
  · refine sj_aload C 18 rfl dL_tolerance_16 rfl ?_
    refine sj_iload_n C 19 rfl dL_tolerance_18 rfl rfl ?_
    refine sj_iald C 20 rfl dL_tolerance_19 kd_ra (sp_vp il_ra (by omega) (by omega)) ?_
    rw [nI_clamp (by omega)]
    rw [hai]
    refine sj_iload_n C 21 rfl dL_tolerance_20 rfl rfl ?_
    refine sj_iadd C 22 rfl dL_tolerance_21 ?_
    exact cut_22 _  ((if_pos c_8).symm)
  · refine sj_bipush C (99) 13 rfl dL_tolerance_11 (by decide) ?_
    refine sj_goto C 22 rfl dL_tolerance_13 ?_
    exact cut_22 _  ((if_neg c_8).symm)
set_option maxRecDepth 100000 in
set_option maxHeartbeats 400000 in
theorem ct_L_agreeing (l : Launch) {S : sj_St} {rq ra rn rt rp : Nat} {m : Nat → Int32} (h : sp_B S rq ra rn rt rp m) (hI : sj_inv m) {i e : Nat} (hi : i < sj_tn (m 9)) (he : e < sj_tn (m 9)) {y : Int32} (hy : 0 ≤ y ∧ y ≤ 99) : sj_Ctr l mL_agreeing [.int (nI (i)), .int (nI (e)), .int (y), .ref rq, .ref ra, .ref rn, .ref rt] S (sj_eq (some (.int (sj_agr (sj_pas m y (sj_tn (m 9))) i e 6))) S) := by
  refine sj_start ([some (.int (nI (i))), some (.int (nI (e))), some (.int (y)), some (.ref rq), some (.ref ra), some (.ref rn), some (.ref rt), none, none, none]) (by decide +kernel) rfl rfl (fun X hX C hR => ?_)
  subst hX
  obtain ⟨⟨kd_rq, il_rq⟩, ⟨kd_ra, il_ra⟩, ⟨kd_rn, il_rn⟩, ⟨kd_rt, il_rt⟩, ⟨kd_rp, il_rp⟩, hq, hs, hp⟩ := id h
  obtain ⟨h9, hn8⟩ := id hI.1
  obtain ⟨h10, hN28⟩ := id hI.2.1
  have cut_6 : ∀ x7 : Int32, (x7 = sj_agr (sj_pas m y (sj_tn (m 9))) i e 0) → sj_G X S 0 0 [some (.int (nI (i))), some (.int (nI (e))), some (.int (y)), some (.ref rq), some (.ref ra), some (.ref rn), some (.ref rt), some (.int (x7)), some (.int (nI (0))), none] 6 [] := by
    refine sj_down (fun k => ∀ x7 : Int32, (x7 = sj_agr (sj_pas m y (sj_tn (m 9))) i e k) → sj_G X S 0 0 [some (.int (nI (i))), some (.int (nI (e))), some (.int (y)), some (.ref rq), some (.ref ra), some (.ref rn), some (.ref rt), some (.int (x7)), some (.int (nI (k))), none] 6 []) 6 (fun k hk ih_6 => ?_)
    intro x7 e_x7
    refine sj_iload C 8 rfl dL_agreeing_6 rfl ?_
    refine sj_bipush C (6) 10 rfl dL_agreeing_8 (by decide) ?_
    refine sj_icmp_ge C 63 13 rfl rfl dL_agreeing_10 (fun c_10 => ?_) (fun c_10 => ?_)
    · have hkn : k = 6 := by
        have h99 : ¬ k < 6 := fun h9 => nI_ge h9 (by omega) c_10
        omega
      subst hkn
      refine sj_iload C 65 rfl dL_agreeing_63 rfl ?_
      refine sj_iret C hR rfl rfl dL_agreeing_65 ?_
      refine ⟨congrArg (fun z => some (Value.int z)) ?_, rfl⟩
      exact e_x7
    · have hlt : k < 6 := Nat.not_le.mp fun h9 => c_10 (nI_le (a := 6) h9 (by omega))
      refine sj_iload_n C 14 rfl dL_agreeing_13 rfl rfl ?_
      refine sj_iload_n C 15 rfl dL_agreeing_14 rfl rfl ?_
      refine sj_iload C 17 rfl dL_agreeing_15 rfl ?_
      refine sj_iload_n C 18 rfl dL_agreeing_17 rfl rfl ?_
      refine sj_aload_n C 19 rfl dL_agreeing_18 rfl rfl ?_
      refine sj_aload C 21 rfl dL_agreeing_19 rfl ?_
      refine sj_aload C 23 rfl dL_agreeing_21 rfl ?_
      refine sj_aload C 25 rfl dL_agreeing_23 rfl ?_
      refine sj_callSd C 28 rfl dL_agreeing_25 cv_L_112 rfl (ct_L_tolerance _ h hI hi he (show k < 6 from hlt) hy) rfl rfl rfl ⟨rfl, rfl⟩ ?_
      refine sj_istore_9 C 30 rfl dL_agreeing_28 rfl rfl ?_
      refine sj_iload C 32 rfl dL_agreeing_30 rfl ?_
      refine sj_iload C 34 rfl dL_agreeing_32 rfl ?_
      have cut_54 : ∀ j54 : Int32, ((((sj_tol (sj_pas m y (sj_tn (m 9))) i e k) < 0) ∧ j54 = 0) ∨ ((¬ (sj_tol (sj_pas m y (sj_tn (m 9))) i e k) < 0) ∧ ((sj_pas m y (sj_tn (m 9)) k) < (sj_tol (sj_pas m y (sj_tn (m 9))) i e k)) ∧ j54 = 0) ∨ ((¬ (sj_tol (sj_pas m y (sj_tn (m 9))) i e k) < 0) ∧ (¬ (sj_pas m y (sj_tn (m 9)) k) < (sj_tol (sj_pas m y (sj_tn (m 9))) i e k)) ∧ j54 = 1 <<< (nI (k) &&& 31))) → sj_G X S 0 0 [some (.int (nI (i))), some (.int (nI (e))), some (.int (y)), some (.ref rq), some (.ref ra), some (.ref rn), some (.ref rt), some (.int (x7)), some (.int (nI (k))), some (.int (sj_tol (sj_pas m y (sj_tn (m 9))) i e k))] 54 [.int (j54), .int (x7)] := by
        intro j54 h54
        have e54 : j54 = if sj_agb (sj_pas m y (sj_tn (m 9))) i e k then 1 <<< (nI k &&& 31) else 0 := sp_agb (by rw [sj_pas_lo m y (by omega)]; exact (hI.2.2.2.2 k (by omega)).1) h54
        refine sj_ior C 55 rfl dL_agreeing_54 ?_
        refine sj_istore_7 C 57 rfl dL_agreeing_55 rfl rfl ?_
        refine sj_iinc_8 C 60 rfl dL_agreeing_57 rfl rfl ?_
        rw [show nI (k) + Int32.ofInt 1 = nI (k + 1) from nI_add _ _]
        refine sj_goto C 6 rfl dL_agreeing_60 ?_
        refine sj_for [some (.int (nI (i))), some (.int (nI (e))), some (.int (y)), some (.ref rq), some (.ref ra), some (.ref rn), some (.ref rt), some (.int (x7 ||| j54)), some (.int (nI (k + 1))), none] (show _ ∧ _ ∧ _ ∧ _ ∧ _ ∧ _ ∧ _ ∧ _ ∧ _ ∧ True from ⟨rfl, rfl, rfl, rfl, rfl, rfl, rfl, rfl, rfl, trivial⟩) ?_
        exact ih_6 (hlt) _ (by rw [e_x7, e54]; rfl)
      refine sj_if_lt C 53 37 rfl rfl dL_agreeing_34 (fun c_34 => ?_) (fun c_34 => ?_)
      · refine sj_iconstv C (0) 54 rfl dL_agreeing_53 rfl ?_
        exact cut_54 _  (Or.inl ⟨c_34, rfl⟩)
      · refine sj_iload C 39 rfl dL_agreeing_37 rfl ?_
        refine sj_aload_n C 40 rfl dL_agreeing_39 rfl rfl ?_
        refine sj_iload C 42 rfl dL_agreeing_40 rfl ?_
        refine sj_iald C 43 rfl dL_agreeing_42 kd_rq (sp_vp il_rq (by omega) (by omega)) ?_
        rw [nI_clamp (by omega)]
        rw [hq k (by omega), show m k = sj_pas m y (sj_tn (m 9)) k from (sj_pas_lo m y (by omega) _).symm]
        refine sj_icmp_gt C 53 46 rfl rfl dL_agreeing_43 (fun c_43 => ?_) (fun c_43 => ?_)
        · refine sj_iconstv C (0) 54 rfl dL_agreeing_53 rfl ?_
          exact cut_54 _  (Or.inr (Or.inl ⟨c_34, c_43, rfl⟩))
        · refine sj_iconstv C (1) 47 rfl dL_agreeing_46 rfl ?_
          refine sj_iload C 49 rfl dL_agreeing_47 rfl ?_
          refine sj_ishl C 50 rfl dL_agreeing_49 ?_
          refine sj_goto C 54 rfl dL_agreeing_50 ?_
          exact cut_54 _  (Or.inr (Or.inr (⟨c_34, c_43, rfl⟩)))
  refine sj_iconstv C (0) 1 rfl dL_agreeing_0 rfl ?_
  refine sj_istore_7 C 3 rfl dL_agreeing_1 rfl rfl ?_
  refine sj_iconstv C (0) 4 rfl dL_agreeing_3 rfl ?_
  refine sj_istore_8 C 6 rfl dL_agreeing_4 rfl rfl ?_
  exact cut_6 _ (rfl)
set_option maxRecDepth 100000 in
set_option maxHeartbeats 400000 in
theorem ct_L_oathOf (l : Launch) {S : sj_St} {rq ra rn rt rp : Nat} {m : Nat → Int32} (h : sp_B S rq ra rn rt rp m) (hI : sj_inv m) {i e : Nat} (hi : i < 8) (he : e < 8) : sj_Ctr l mL_oathOf [.int (nI (i)), .int (nI (e)), .ref rq, .ref rp] S (sj_eq (some (.int (sj_fo m i e))) S) := by
  refine sj_start ([some (.int (nI (i))), some (.int (nI (e))), some (.ref rq), some (.ref rp), none, none]) (by decide +kernel) rfl rfl (fun X hX C hR => ?_)
  subst hX
  obtain ⟨⟨kd_rq, il_rq⟩, ⟨kd_ra, il_ra⟩, ⟨kd_rn, il_rn⟩, ⟨kd_rt, il_rt⟩, ⟨kd_rp, il_rp⟩, hq, hs, hp⟩ := id h
  obtain ⟨h9, hn8⟩ := id hI.1
  obtain ⟨h10, hN28⟩ := id hI.2.1
  have cut_6 : ∀ x4 : Int32, (x4 = sp_fl m i e 0) → sj_G X S 0 0 [some (.int (nI (i))), some (.int (nI (e))), some (.ref rq), some (.ref rp), some (.int (x4)), some (.int (nI (0)))] 6 [] := by
    refine sj_down (fun k => ∀ x4 : Int32, (x4 = sp_fl m i e k) → sj_G X S 0 0 [some (.int (nI (i))), some (.int (nI (e))), some (.ref rq), some (.ref rp), some (.int (x4)), some (.int (nI (k)))] 6 []) (sj_tn (m 10)) (fun k hk ih_6 => ?_)
    intro x4 e_x4
    refine sj_iload C 8 rfl dL_oathOf_6 rfl ?_
    refine sj_aload_n C 9 rfl dL_oathOf_8 rfl rfl ?_
    refine sj_bipush C (10) 11 rfl dL_oathOf_9 (by decide) ?_
    refine sj_iald C 12 rfl dL_oathOf_11 kd_rq (sp_vp (i := 10) il_rq (by omega) (by omega)) ?_
    rw [show Int32.toNatClampNeg 10 = 10 from rfl]
    rw [hq 10 (by omega)]
    rw [h10]
    refine sj_icmp_ge C 64 15 rfl rfl dL_oathOf_12 (fun c_12 => ?_) (fun c_12 => ?_)
    · have hkn : k = sj_tn (m 10) := by
        have h99 : ¬ k < sj_tn (m 10) := fun h9 => nI_ge h9 (by omega) c_12
        omega
      subst hkn
      refine sj_iload C 66 rfl dL_oathOf_64 rfl ?_
      refine sj_iret C hR rfl rfl dL_oathOf_66 ?_
      refine ⟨congrArg (fun z => some (Value.int z)) ?_, rfl⟩
      rw [e_x4]
      exact sp_fl_fo hI i e
    · have hlt : k < sj_tn (m 10) := Nat.not_le.mp fun h9 => c_12 (nI_le h9 (by omega))
      refine sj_aload_n C 16 rfl dL_oathOf_15 rfl rfl ?_
      refine sj_iload C 18 rfl dL_oathOf_16 rfl ?_
      refine sj_iald C 19 rfl dL_oathOf_18 kd_rp (sp_vp il_rp (by omega) (by omega)) ?_
      rw [nI_clamp (by omega)]
      rw [hp k hlt]
      refine sj_sipush C (255) 22 rfl dL_oathOf_19 (by decide) ?_
      refine sj_iand C 23 rfl dL_oathOf_22 ?_
      rw [sp_pn_lo hI hlt]
      refine sj_iload_n C 24 rfl dL_oathOf_23 rfl rfl ?_
      refine sj_bipush C (16) 26 rfl dL_oathOf_24 (by decide) ?_
      refine sj_iload_n C 27 rfl dL_oathOf_26 rfl rfl ?_
      refine sj_imul C 28 rfl dL_oathOf_27 ?_
      rw [show 16 * nI (e) = nI (16 * e) from sj_nmul 16 e]
      refine sj_iadd C 29 rfl dL_oathOf_28 ?_
      rw [show nI (i) + nI (16 * e) = nI (i + (16 * e)) from nI_add i (16 * e)]
      have cut_56 : ∀ j56 : Int32, (((nI (sj_tn (sj_oa m k 0) + 16 * sj_tn (sj_oa m k 1)) = nI (i + (16 * e))) ∧ j56 = nI (k)) ∨ ((¬ nI (sj_tn (sj_oa m k 0) + 16 * sj_tn (sj_oa m k 1)) = nI (i + (16 * e))) ∧ (¬ nI (sj_tn (sj_oa m k 0) + 16 * sj_tn (sj_oa m k 1)) = nI (e + (16 * i))) ∧ j56 = x4) ∨ ((¬ nI (sj_tn (sj_oa m k 0) + 16 * sj_tn (sj_oa m k 1)) = nI (i + (16 * e))) ∧ (nI (sj_tn (sj_oa m k 0) + 16 * sj_tn (sj_oa m k 1)) = nI (e + (16 * i))) ∧ j56 = nI (k))) → sj_G X S 0 0 [some (.int (nI (i))), some (.int (nI (e))), some (.ref rq), some (.ref rp), some (.int (x4)), some (.int (nI (k)))] 56 [.int (j56)] := by
        intro j56 h56
        have e56 : j56 = if sj_fp m i e k then nI k else x4 := sp_fp_j hI hlt hi he h56
        refine sj_istore_4 C 58 rfl dL_oathOf_56 rfl rfl ?_
        refine sj_iinc_5 C 61 rfl dL_oathOf_58 rfl rfl ?_
        rw [show nI (k) + Int32.ofInt 1 = nI (k + 1) from nI_add _ _]
        refine sj_goto C 6 rfl dL_oathOf_61 ?_
        exact ih_6 (hlt) _ (by rw [e56, e_x4]; rfl)
      refine sj_icmp_eq C 49 32 rfl rfl dL_oathOf_29 (fun c_29 => ?_) (fun c_29 => ?_)
      · refine sj_iload C 51 rfl dL_oathOf_49 rfl ?_
        refine sj_goto C 56 rfl dL_oathOf_51 ?_
        exact cut_56 _  (Or.inl ⟨c_29, rfl⟩)
      · refine sj_aload_n C 33 rfl dL_oathOf_32 rfl rfl ?_
        refine sj_iload C 35 rfl dL_oathOf_33 rfl ?_
        refine sj_iald C 36 rfl dL_oathOf_35 kd_rp (sp_vp il_rp (by omega) (by omega)) ?_
        rw [nI_clamp (by omega)]
        rw [hp k hlt]
        refine sj_sipush C (255) 39 rfl dL_oathOf_36 (by decide) ?_
        refine sj_iand C 40 rfl dL_oathOf_39 ?_
        rw [sp_pn_lo hI hlt]
        refine sj_iload_n C 41 rfl dL_oathOf_40 rfl rfl ?_
        refine sj_bipush C (16) 43 rfl dL_oathOf_41 (by decide) ?_
        refine sj_iload_n C 44 rfl dL_oathOf_43 rfl rfl ?_
        refine sj_imul C 45 rfl dL_oathOf_44 ?_
        rw [show 16 * nI (i) = nI (16 * i) from sj_nmul 16 i]
        refine sj_iadd C 46 rfl dL_oathOf_45 ?_
        rw [show nI (e) + nI (16 * i) = nI (e + (16 * i)) from nI_add e (16 * i)]
        refine sj_icmp_ne C 54 49 rfl rfl dL_oathOf_46 (fun c_46 => ?_) (fun c_46 => ?_)
        · refine sj_iload C 56 rfl dL_oathOf_54 rfl ?_
          exact cut_56 _  (Or.inr (Or.inl ⟨c_29, c_46, rfl⟩))
        · refine sj_iload C 51 rfl dL_oathOf_49 rfl ?_
          refine sj_goto C 56 rfl dL_oathOf_51 ?_
          exact cut_56 _  (Or.inr (Or.inr (⟨c_29, c_46, rfl⟩)))
  refine sj_iconstv C (-1) 1 rfl dL_oathOf_0 rfl ?_
  refine sj_istore_4 C 3 rfl dL_oathOf_1 rfl rfl ?_
  refine sj_iconstv C (0) 4 rfl dL_oathOf_3 rfl ?_
  refine sj_istore_5 C 6 rfl dL_oathOf_4 rfl rfl ?_
  exact cut_6 _ (rfl)
