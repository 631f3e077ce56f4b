/-! THE CLASS ITSELF: its digest -/
theorem sj_mxl_cg {f h : Nat → Int32} (v : Int64) : ∀ n, (∀ k, k < n → f k = h k) → sj_mxl v f n = sj_mxl v h n
  | 0, _ => rfl
  | n + 1, hh => by
    unfold sj_mxl
    rw [hh n (by omega), sj_mxl_cg v n (fun k hk => hh k (by omega))]
theorem sj_mxl_4 (v : Int64) (f : Nat → Int32) (k e : Nat) : sj_mxl v f (4 * k + (e + 1)) = sj_x1 (sj_mxl v f (4 * k + e)) (f (4 * k + e)) := rfl
theorem sj_dm4 {i e : Nat} (he : e < 4) : (4 * i + e) / 4 = i ∧ (4 * i + e) % 4 = e := ⟨by omega, by omega⟩
theorem sq_lcmp_le {e : Int64} (h : lg_cmp e 1 ≤ 0) (h2 : 1 < e) : False := by
  unfold lg_cmp at h
  rw [if_pos h2] at h
  exact absurd h (by decide)
theorem sq_lcmp_gt {e : Int64} (h : ¬ lg_cmp e 1 ≤ 0) : 1 < e := by
  unfold lg_cmp at h
  by_cases h1 : e > 1
  · exact h1
  · rw [if_neg h1] at h
    by_cases h2 : e = 1
    · rw [if_pos h2] at h
      exact absurd (by decide) h
    · rw [if_neg h2] at h
      exact absurd (by decide) h
/-- the end of the doubling -/
theorem sq_bol_e {k : Nat} {x : UInt64} {e r : Int64} (h : sj_bol (k + 1) x e = some r) (hc : 0 ≤ Op.cmpValue (FP.dcmp x FP.dconst1) .g ∨ ¬ 1 < e) : FP.dsub x FP.dconst1 &&& 0x7fffffffffffffff ≤ 0x7ff0000000000000 ∧ FP.dmul (FP.dsub x FP.dconst1) 0x4330000000000000 &&& 0x7fffffffffffffff ≤ 0x7ff0000000000000 ∧ (e <<< (52 &&& 63)) + FP.d2l (FP.dmul (FP.dsub x FP.dconst1) 0x4330000000000000) = r := by
  unfold sj_bol at h
  rw [if_pos hc] at h
  by_cases h2 : FP.dsub x FP.dconst1 &&& 0x7fffffffffffffff ≤ 0x7ff0000000000000 ∧ FP.dmul (FP.dsub x FP.dconst1) 0x4330000000000000 &&& 0x7fffffffffffffff ≤ 0x7ff0000000000000
  · rw [if_pos h2] at h
    exact ⟨h2.1, h2.2, Option.some.inj h⟩
  · rw [if_neg h2] at h
    cases h
/-- one doubling -/
theorem sq_bol_s {k : Nat} {x : UInt64} {e r : Int64} (h : sj_bol (k + 1) x e = some r) (hc : ¬ (0 ≤ Op.cmpValue (FP.dcmp x FP.dconst1) .g ∨ ¬ 1 < e)) : FP.dmul x 0x4000000000000000 &&& 0x7fffffffffffffff ≤ 0x7ff0000000000000 ∧ sj_bol k (FP.dmul x 0x4000000000000000) (e - 1) = some r := by
  unfold sj_bol at h
  rw [if_neg hc] at h
  by_cases h2 : FP.dmul x 0x4000000000000000 &&& 0x7fffffffffffffff ≤ 0x7ff0000000000000
  · rw [if_pos h2] at h
    exact ⟨h2, h⟩
  · rw [if_neg h2] at h
    cases h
theorem sq_n64 {x : UInt64} (h : x &&& 0x7fffffffffffffff ≤ 0x7ff0000000000000) : vf_n64 x := h
theorem sq_shok_0 {x : UInt64} (h : sj_shok x = true) (hc : Op.cmpValue (FP.dcmp x FP.dconst0) .g ≤ 0) : x.toInt64 = 0 := by
  unfold sj_shok at h
  rw [if_pos hc, Bool.and_eq_true, Bool.and_eq_true, Bool.and_eq_true] at h
  exact of_decide_eq_true h.2.2.2
theorem sq_shok_b {x : UInt64} (h : sj_shok x = true) (hc : 0 < Op.cmpValue (FP.dcmp x FP.dconst0) .g) : sj_bol 12 x 1023 = some x.toInt64 := by
  unfold sj_shok at h
  rw [if_neg (Int32.not_le.mpr hc), Bool.and_eq_true, Bool.and_eq_true, Bool.and_eq_true] at h
  exact of_decide_eq_true h.2.2.2
set_option maxRecDepth 100000 in
set_option maxHeartbeats 150000 in
theorem ct_X6_bitsOf (l : Launch) (S : sj_St) {x0 : UInt64} (hok : sj_shok x0 = true) : sj_Ctr l mX6_bitsOf [.double x0] S (sj_eq (some (.long x0.toInt64)) S) := by
  refine sj_start ([some (.double x0), none, none, none, none, none]) (by decide +kernel) rfl rfl (fun X hX C hR => ?_)
  subst hX
  have cut_43 : ∀ (x : UInt64) (e : Int64), (∃ k, sj_bol (k + 1) x e = some x0.toInt64) → (0 ≤ Op.cmpValue (FP.dcmp x FP.dconst1) .g ∨ ¬ 1 < e) → sj_G X S 0 0 [some (.double x0), none, some (.double x), none, some (.long e), none] 43 [] := by
    intro x e hr hc
    obtain ⟨k, hr⟩ := hr
    obtain ⟨b1, b2, b3⟩ := sq_bol_e hr hc
    refine sj_lload C 45 rfl dX6_bitsOf_43 rfl ?_
    refine sj_bipush C (52) 47 rfl dX6_bitsOf_45 (by decide) ?_
    refine sj_lshl C 48 rfl dX6_bitsOf_47 ?_
    refine sj_dload_n C 49 rfl dX6_bitsOf_48 rfl rfl ?_
    refine sj_dconst1 C 50 rfl dX6_bitsOf_49 ?_
    refine sj_dsub C 51 rfl dX6_bitsOf_50 (sq_n64 b1) ?_
    refine sj_ldc2d C 0x4330000000000000 54 rfl (wr_43 _ (List.mem_of_getElem? (i := 6) (by decide +kernel))) dX6_bitsOf_51 ?_
    refine sj_dmul C 55 rfl dX6_bitsOf_54 (sq_n64 b2) ?_
    refine sj_d2l C 56 rfl dX6_bitsOf_55 ?_
    refine sj_ladd C 57 rfl dX6_bitsOf_56 ?_
    refine sj_lret C hR rfl rfl dX6_bitsOf_57 ?_
    refine ⟨congrArg (fun z => some (Value.long z)) ?_, rfl⟩
    exact b3
  have cut_15 : ∀ (k : Nat) (x : UInt64) (e : Int64), sj_bol k x e = some x0.toInt64 → sj_G X S 0 0 [some (.double x0), none, some (.double x), none, some (.long e), none] 15 [] := by
    refine sj_ind (fun k => ∀ (x : UInt64) (e : Int64), sj_bol k x e = some x0.toInt64 → sj_G X S 0 0 [some (.double x0), none, some (.double x), none, some (.long e), none] 15 []) (fun x e hr => by cases hr) (fun k ih => ?_)
    intro x e hr
    refine sj_dload_n C 16 rfl dX6_bitsOf_15 rfl rfl ?_
    refine sj_dconst1 C 17 rfl dX6_bitsOf_16 ?_
    refine sj_dcmp C 18 rfl dX6_bitsOf_17 ?_
    refine sj_if_ge C 43 21 rfl rfl dX6_bitsOf_18 (fun c_18 => ?_) (fun c_18 => ?_)
    · exact cut_43 _ _ ⟨k, hr⟩ (Or.inl c_18)
    · refine sj_lload C 23 rfl dX6_bitsOf_21 rfl ?_
      refine sj_lconst C (1) 24 rfl dX6_bitsOf_23 rfl ?_
      refine sj_lcmp C 25 rfl dX6_bitsOf_24 ?_
      refine sj_if_le C 43 28 rfl rfl dX6_bitsOf_25 (fun c_25 => ?_) (fun c_25 => ?_)
      · exact cut_43 _ _ ⟨k, hr⟩ (Or.inr (fun h8 => sq_lcmp_le c_25 h8))
      · refine sj_dload_n C 29 rfl dX6_bitsOf_28 rfl rfl ?_
        refine sj_ldc2d C 0x4000000000000000 32 rfl (wr_43 _ (List.mem_of_getElem? (i := 5) (by decide +kernel))) dX6_bitsOf_29 ?_
        refine sj_dmul C 33 rfl dX6_bitsOf_32 (sq_n64 (sq_bol_s hr (fun h8 => h8.elim c_18 (fun h9 => h9 (sq_lcmp_gt c_25)))).1) ?_
        refine sj_dstore_n_2 C 34 rfl dX6_bitsOf_33 rfl rfl ?_
        refine sj_lload C 36 rfl dX6_bitsOf_34 rfl ?_
        refine sj_lconst C (1) 37 rfl dX6_bitsOf_36 rfl ?_
        refine sj_lsub C 38 rfl dX6_bitsOf_37 ?_
        refine sj_lstore_4 C 40 rfl dX6_bitsOf_38 rfl rfl ?_
        refine sj_goto C 15 rfl dX6_bitsOf_40 ?_
        exact ih _ _ (sq_bol_s hr (fun h8 => h8.elim c_18 (fun h9 => h9 (sq_lcmp_gt c_25)))).2
  refine sj_dload_n C 1 rfl dX6_bitsOf_0 rfl rfl ?_
  refine sj_dconst0 C 2 rfl dX6_bitsOf_1 ?_
  refine sj_dcmp C 3 rfl dX6_bitsOf_2 ?_
  refine sj_if_gt C 8 6 rfl rfl dX6_bitsOf_3 (fun c_3 => ?_) (fun c_3 => ?_)
  · have hbol := sq_shok_b hok c_3
    refine sj_dload_n C 9 rfl dX6_bitsOf_8 rfl rfl ?_
    refine sj_dstore_n_2 C 10 rfl dX6_bitsOf_9 rfl rfl ?_
    refine sj_ldc2 C 1023 13 rfl (wr_43 _ (List.mem_of_getElem? (i := 4) (by decide +kernel))) dX6_bitsOf_10 ?_
    refine sj_lstore_4 C 15 rfl dX6_bitsOf_13 rfl rfl ?_
    exact cut_15 12 x0 1023 hbol
  · refine sj_lconst C (0) 7 rfl dX6_bitsOf_6 rfl ?_
    refine sj_lret C hR rfl rfl dX6_bitsOf_7 ?_
    refine ⟨congrArg (fun z => some (Value.long z)) ?_, rfl⟩
    exact (sq_shok_0 hok (sj_nlt.mp c_3)).symm
set_option maxRecDepth 100000 in
set_option maxHeartbeats 150000 in
theorem ct_X6_mixPair (l : Launch) {S : sj_St} {g : Nat → Nat} {m : Nat → Int32} {hs : Bool} {ms : Nat → Int32} {p q : Nat} {Q : Nat → Nat → Int32} {n : Nat} {B : Nat → Int32} (hW : sq_W S g m hs ms p q Q n B) (hI : sj_inv m) (hu : sj_uc m) (v : Int64) {i o : Nat} (hi : i < (sj_tn (m 9))) (ho : o < (sj_tn (m 9))) : sj_Ctr l mX6_mixPair [.ref (g 141), .long v, .int (nI i), .int (nI o)] S (sj_eq (some (.long (sj_mpr m i v o))) S) := by
  refine sj_start ([some (.ref (g 141)), some (.long v), none, some (.int (nI i)), some (.int (nI o)), none, none, none]) (by decide +kernel) rfl rfl (fun X hX C hR => ?_)
  subst hX
  obtain ⟨⟨⟨kd_x, rf_x_0, rf_x_1, rf_x_2, rf_x_3⟩, hTl, hHl, hinj⟩, ⟨hT, h4, hT1⟩, hK3, ⟨hH1, hp6, hH2, hq6, hQ⟩, hX, hB⟩ := id hW
  have kd_t := hT.1.1
  have rf_t_4 := hT.1.2.2.2.2.1.1
  have rf_t_5 := hT.1.2.2.2.2.2.1.1
  have hol := hT.1.2.2.2.2.1.2
  have kd_o := hol.1
  have hset := hT.1.2.2.2.2.2.1.2
  have kd_se := hset.1
  have kd_tx := hX.1
  have kd_hi := hHl.1
  have h3 : sj_fi S (g 0) 3 = m 9 := hT.2.1.1
  have h6 : sj_fi S (g 0) 6 = m 12 := hT.2.1.2.1
  have h7 : sj_fi S (g 0) 7 = m 13 := hT.2.1.2.2
  have hRo := hT.2.2.2.2.1
  obtain ⟨h9, hn8⟩ := id hI.1
  have hN28 := hI.2.1.2
  have hv := sj_inv_oav hI
  have cut_6 : sj_G X S 0 0 [some (.ref (g 141)), some (.long v), none, some (.int (nI i)), some (.int (nI o)), some (.long (sj_mxl v (sj_cps m i o) 0)), none, some (.int (nI 0))] 6 [] := by
    refine sj_down (fun k => sj_G X S 0 0 [some (.ref (g 141)), some (.long v), none, some (.int (nI i)), some (.int (nI o)), some (.long (sj_mxl v (sj_cps m i o) k)), none, some (.int (nI k))] 6 []) 5 (fun k hk ih => ?_)
    refine sj_iload C 8 rfl dX6_mixPair_6 rfl ?_
    refine sj_iconstv C (5) 9 rfl dX6_mixPair_8 rfl ?_
    refine sj_icmp_ge C 38 12 rfl rfl dX6_mixPair_9 (fun c_9 => ?_) (fun c_9 => ?_)
    · have hkn : k = 5 := by
        have h8 : ¬ k < 5 := fun h7 => nI_ge (b := 5) h7 (by omega) c_9
        omega
      subst hkn
      refine sj_lload C 40 rfl dX6_mixPair_38 rfl ?_
      refine sj_aload_n C 41 rfl dX6_mixPair_40 rfl rfl ?_
      refine sj_getr C 44 rfl fd_X6_19 dX6_mixPair_41 kd_x rf_x_1 ?_
      refine sj_iload_n C 45 rfl dX6_mixPair_44 rfl rfl ?_
      refine sj_iload C 47 rfl dX6_mixPair_45 rfl ?_
      refine sj_iconstv C (1) 48 rfl dX6_mixPair_47 rfl ?_
      rw [show (1 : Int32) = sj_bi true from rfl]
      refine sj_callVd C 51 rfl dX6_mixPair_48 cv_X6_125 rfl (ct_X4_reasonAgainst _ hT hI hu hi ho true) rfl rfl rfl ⟨_, _, kd_t, rfl, rfl, by decide⟩ ⟨rfl, rfl⟩ ?_
      refine sj_i2l C 52 rfl dX6_mixPair_51 ?_
      refine sj_callSd C 55 rfl dX6_mixPair_52 cv_X6_249 rfl (ct_X6_mix _ _ _ _) rfl rfl rfl ⟨rfl, rfl⟩ ?_
      refine sj_lstore_5 C 57 rfl dX6_mixPair_55 rfl rfl ?_
      refine sj_lload C 59 rfl dX6_mixPair_57 rfl ?_
      refine sj_aload_n C 60 rfl dX6_mixPair_59 rfl rfl ?_
      refine sj_getr C 63 rfl fd_X6_19 dX6_mixPair_60 kd_x rf_x_1 ?_
      refine sj_iload_n C 64 rfl dX6_mixPair_63 rfl rfl ?_
      refine sj_iload C 66 rfl dX6_mixPair_64 rfl ?_
      refine sj_iconstv C (0) 67 rfl dX6_mixPair_66 rfl ?_
      rw [show (0 : Int32) = sj_bi false from rfl]
      refine sj_callVd C 70 rfl dX6_mixPair_67 cv_X6_125 rfl (ct_X4_reasonAgainst _ hT hI hu hi ho false) rfl rfl rfl ⟨_, _, kd_t, rfl, rfl, by decide⟩ ⟨rfl, rfl⟩ ?_
      refine sj_i2l C 71 rfl dX6_mixPair_70 ?_
      refine sj_callSd C 74 rfl dX6_mixPair_71 cv_X6_249 rfl (ct_X6_mix _ _ _ _) rfl rfl rfl ⟨rfl, rfl⟩ ?_
      refine sj_lret C hR rfl rfl dX6_mixPair_74 ?_
      exact ⟨rfl, rfl⟩
    · have hlt : k < 5 := Nat.not_le.mp fun h8 => c_9 (nI_le (a := 5) h8 (by omega))
      refine sj_lload C 14 rfl dX6_mixPair_12 rfl ?_
      refine sj_aload_n C 15 rfl dX6_mixPair_14 rfl rfl ?_
      refine sj_getr C 18 rfl fd_X6_19 dX6_mixPair_15 kd_x rf_x_1 ?_
      refine sj_iload_n C 19 rfl dX6_mixPair_18 rfl rfl ?_
      refine sj_iload C 21 rfl dX6_mixPair_19 rfl ?_
      refine sj_iload C 23 rfl dX6_mixPair_21 rfl ?_
      refine sj_callVd C 26 rfl dX6_mixPair_23 cv_X6_219 rfl (ct_X4_comparison _ hT hI hi ho (w := k) hlt) rfl rfl rfl ⟨_, _, kd_t, rfl, rfl, by decide⟩ ⟨rfl, rfl⟩ ?_
      refine sj_i2l C 27 rfl dX6_mixPair_26 ?_
      refine sj_callSd C 30 rfl dX6_mixPair_27 cv_X6_249 rfl (ct_X6_mix _ _ _ _) rfl rfl rfl ⟨rfl, rfl⟩ ?_
      rw [show 31 * (sj_mxl v (sj_cps m i o) k) + (sj_cps m i o k).toInt64 = (sj_mxl v (sj_cps m i o) (k + 1)) from rfl]
      refine sj_lstore_5 C 32 rfl dX6_mixPair_30 rfl rfl ?_
      refine sj_iinc_7 C 35 rfl dX6_mixPair_32 rfl rfl ?_
      refine sj_goto C 6 rfl dX6_mixPair_35 ?_
      rw [sj_n1]
      exact ih hlt
  refine sj_lload_n C 1 rfl dX6_mixPair_0 rfl rfl ?_
  refine sj_lstore_5 C 3 rfl dX6_mixPair_1 rfl rfl ?_
  refine sj_iconstv C (0) 4 rfl dX6_mixPair_3 rfl ?_
  refine sj_istore_7 C 6 rfl dX6_mixPair_4 rfl rfl ?_
  exact cut_6
def sq_mxs (m : Nat → Int32) (i : Nat) (v : Int64) : Int64 := sj_x1 (sj_mxc m i (sj_mxb m i (sj_mxa m i v))) (sj_on (sj_mal m i (sj_tn (m 9))))
theorem sj_mxs_q (m : Nat → Int32) (i : Nat) (v : Int64) : sj_mxs m i v = sj_mps m i (sq_mxs m i v) (sj_tn (m 9)) := rfl
theorem sq_mxi {S : sj_St} {m : Nat → Int32} {i cn cm : Nat} (hn1 : sj_ns m i ≤ 8) (hst : ∀ k w, k < sj_ns m i → w < 5 → sj_ia S cn (5 * k + w) = sj_os m i k w) (hmk : ∀ j, j < 6 → sj_ia S cm j = sj_mk m i j) (v : Int64) : sj_mxl (sj_mxl v (sj_tn5 (sj_ia S cn) (sj_ns m i)) (5 * sj_ns m i)) (fun j => sj_ia S cm j + 1000) 6 = sj_mxc m i (sj_mxb m i v) := by
  unfold sj_mxc sj_mxb
  rw [sj_mxl_cg (f := sj_tn5 (sj_ia S cn) (sj_ns m i)) (h := fun k => sj_tst m i (k / 5) (k % 5)) v (5 * sj_ns m i) (fun k hk => ?_), sj_mxl_cg (f := fun j => sj_ia S cm j + 1000) (h := fun j => sj_mk m i j + 1000) _ 6 (fun j hj => by rw [hmk j hj])]
  have h1 : k / 5 < sj_ns m i := by omega
  unfold sj_tn5 sj_tst
  rw [if_neg (nI_ge h1 (by omega)), if_neg (nI_ge h1 (by omega)), show sj_ss (sj_ia S cn) (k / 5) (k % 5) = sj_os m i (k / 5) (k % 5) from hst _ _ h1 (by omega)]
set_option maxRecDepth 100000 in
set_option maxHeartbeats 150000 in
theorem ct_X6_mixSheet (l : Launch) {S : sj_St} {g : Nat → Nat} {m : Nat → Int32} {hs : Bool} {ms : Nat → Int32} {p q : Nat} {Q : Nat → Nat → Int32} {n : Nat} {B : Nat → Int32} (hW : sq_W S g m hs ms p q Q n B) (hI : sj_inv m) (v : Int64) {i : Nat} (hi : i < (sj_tn (m 9))) : sj_Ctr l mX6_mixSheet [.ref (g 141), .long v, .int (nI i)] S (sj_eq (some (.long (sq_mxs m i v))) S) := by
  refine sj_start ([some (.ref (g 141)), some (.long v), none, some (.int (nI i)), none, none, none]) (by decide +kernel) rfl rfl (fun X hX C hR => ?_)
  subst hX
  obtain ⟨⟨⟨kd_x, rf_x_0, rf_x_1, rf_x_2, rf_x_3⟩, hTl, hHl, hinj⟩, ⟨hT, h4, hT1⟩, hK3, ⟨hH1, hp6, hH2, hq6, hQ⟩, hX, hB⟩ := id hW
  have kd_t := hT.1.1
  have rf_t_4 := hT.1.2.2.2.2.1.1
  have rf_t_5 := hT.1.2.2.2.2.2.1.1
  have hol := hT.1.2.2.2.2.1.2
  have kd_o := hol.1
  have hset := hT.1.2.2.2.2.2.1.2
  have kd_se := hset.1
  have kd_tx := hX.1
  have kd_hi := hHl.1
  have h3 : sj_fi S (g 0) 3 = m 9 := hT.2.1.1
  have h6 : sj_fi S (g 0) 6 = m 12 := hT.2.1.2.1
  have h7 : sj_fi S (g 0) 7 = m 13 := hT.2.1.2.2
  have hRo := hT.2.2.2.2.1
  obtain ⟨h9, hn8⟩ := id hI.1
  have hN28 := hI.2.1.2
  have hv := sj_inv_oav hI
  obtain ⟨a, ha, hsm⟩ := hT.2.2.2.2.2 i hi
  obtain ⟨rn, cn, rm, cm, hsh, hF, hst, hmk⟩ := id hsm
  obtain ⟨kd_a, fi_a, nn8, rf_a_1, hrn, rf_a_2, hrm⟩ := id hsh
  have cut_6 : sj_G X S 0 0 [some (.ref (g 141)), some (.long v), none, some (.int (nI i)), some (.long (sj_mxl v (sj_ts m i) 0)), none, some (.int (nI 0))] 6 [] := by
    refine sj_down (fun k => sj_G X S 0 0 [some (.ref (g 141)), some (.long v), none, some (.int (nI i)), some (.long (sj_mxl v (sj_ts m i) k)), none, some (.int (nI k))] 6 []) 7 (fun k hk ih => ?_)
    refine sj_iload C 8 rfl dX6_mixSheet_6 rfl ?_
    refine sj_bipush C (7) 10 rfl dX6_mixSheet_8 (by decide) ?_
    refine sj_icmp_ge C 37 13 rfl rfl dX6_mixSheet_10 (fun c_10 => ?_) (fun c_10 => ?_)
    · have hkn : k = 7 := by
        have h8 : ¬ k < 7 := fun h7 => nI_ge (b := 7) h7 (by omega) c_10
        omega
      subst hkn
      refine sj_aload_n C 38 rfl dX6_mixSheet_37 rfl rfl ?_
      refine sj_getr C 41 rfl fd_X6_19 dX6_mixSheet_38 kd_x rf_x_1 ?_
      refine sj_iload_n C 42 rfl dX6_mixSheet_41 rfl rfl ?_
      refine sj_callVd C 45 rfl dX6_mixSheet_42 cv_X6_205 rfl (ct_X4_sheetAt _ hT (i := i) (by omega) ha) rfl rfl rfl ⟨_, _, kd_t, rfl, rfl, by decide⟩ ⟨rfl, rfl⟩ ?_
      refine sj_lload C 47 rfl dX6_mixSheet_45 rfl ?_
      refine sj_callVd C 50 rfl dX6_mixSheet_47 cv_X6_284 rfl (ct_X3_mixInto _ hsh _) rfl rfl rfl ⟨_, _, kd_a, rfl, rfl, by decide⟩ ⟨rfl, rfl⟩ ?_
      rw [sq_mxi nn8 hst hmk, show sj_mxl v (sj_ts m i) 7 = sj_mxa m i v from rfl]
      refine sj_lstore_4 C 52 rfl dX6_mixSheet_50 rfl rfl ?_
      refine sj_lload C 54 rfl dX6_mixSheet_52 rfl ?_
      refine sj_aload_n C 55 rfl dX6_mixSheet_54 rfl rfl ?_
      refine sj_getr C 58 rfl fd_X6_19 dX6_mixSheet_55 kd_x rf_x_1 ?_
      refine sj_iload_n C 59 rfl dX6_mixSheet_58 rfl rfl ?_
      refine sj_callVd C 62 rfl dX6_mixSheet_59 cv_X6_234 rfl (ct_X4_mostAlike _ hT hI hi) rfl rfl rfl ⟨_, _, kd_t, rfl, rfl, by decide⟩ ⟨rfl, rfl⟩ ?_
      refine sj_i2l C 63 rfl dX6_mixSheet_62 ?_
      refine sj_callSd C 66 rfl dX6_mixSheet_63 cv_X6_249 rfl (ct_X6_mix _ _ _ _) rfl rfl rfl ⟨rfl, rfl⟩ ?_
      refine sj_lret C hR rfl rfl dX6_mixSheet_66 ?_
      exact ⟨rfl, rfl⟩
    · have hlt : k < 7 := Nat.not_le.mp fun h8 => c_10 (nI_le (a := 7) h8 (by omega))
      refine sj_lload C 15 rfl dX6_mixSheet_13 rfl ?_
      refine sj_aload_n C 16 rfl dX6_mixSheet_15 rfl rfl ?_
      refine sj_getr C 19 rfl fd_X6_19 dX6_mixSheet_16 kd_x rf_x_1 ?_
      refine sj_iload_n C 20 rfl dX6_mixSheet_19 rfl rfl ?_
      refine sj_iload C 22 rfl dX6_mixSheet_20 rfl ?_
      refine sj_callVd C 25 rfl dX6_mixSheet_22 cv_X6_200 rfl (ct_X4_numberOfSheet _ hT hI hi (w := k) hlt) rfl rfl rfl ⟨_, _, kd_t, rfl, rfl, by decide⟩ ⟨rfl, rfl⟩ ?_
      refine sj_i2l C 26 rfl dX6_mixSheet_25 ?_
      refine sj_callSd C 29 rfl dX6_mixSheet_26 cv_X6_249 rfl (ct_X6_mix _ _ _ _) rfl rfl rfl ⟨rfl, rfl⟩ ?_
      rw [show 31 * (sj_mxl v (sj_ts m i) k) + (sj_ts m i k).toInt64 = (sj_mxl v (sj_ts m i) (k + 1)) from rfl]
      refine sj_lstore_4 C 31 rfl dX6_mixSheet_29 rfl rfl ?_
      refine sj_iinc_6 C 34 rfl dX6_mixSheet_31 rfl rfl ?_
      refine sj_goto C 6 rfl dX6_mixSheet_34 ?_
      rw [sj_n1]
      exact ih hlt
  refine sj_lload_n C 1 rfl dX6_mixSheet_0 rfl rfl ?_
  refine sj_lstore_4 C 3 rfl dX6_mixSheet_1 rfl rfl ?_
  refine sj_iconstv C (0) 4 rfl dX6_mixSheet_3 rfl ?_
  refine sj_istore_6 C 6 rfl dX6_mixSheet_4 rfl rfl ?_
  exact cut_6
set_option maxRecDepth 100000 in
set_option maxHeartbeats 250000 in
theorem ct_X6_digest (l : Launch) {S : sj_St} {g : Nat → Nat} {m : Nat → Int32} {hs : Bool} {ms : Nat → Int32} {p q : Nat} {Q : Nat → Nat → Int32} {n : Nat} {B : Nat → Int32} (hW : sq_W S g m hs ms p q Q n B) (hI : sj_inv m) (hu : sj_uc m) : sj_Ctr l mX6_digest [.ref (g 141)] S (sj_eq (some (.long (sj_dig m (nI q) B n))) S) := by
  refine sj_start ([some (.ref (g 141)), none, none, none, none]) (by decide +kernel) rfl rfl (fun X hX C hR => ?_)
  subst hX
  obtain ⟨⟨⟨kd_x, rf_x_0, rf_x_1, rf_x_2, rf_x_3⟩, hTl, hHl, hinj⟩, ⟨hT, h4, hT1⟩, hK3, ⟨hH1, hp6, hH2, hq6, hQ⟩, hX, hB⟩ := id hW
  have kd_t := hT.1.1
  have rf_t_4 := hT.1.2.2.2.2.1.1
  have rf_t_5 := hT.1.2.2.2.2.2.1.1
  have hol := hT.1.2.2.2.2.1.2
  have kd_o := hol.1
  have hset := hT.1.2.2.2.2.2.1.2
  have kd_se := hset.1
  have kd_tx := hX.1
  have kd_hi := hHl.1
  have h3 : sj_fi S (g 0) 3 = m 9 := hT.2.1.1
  have h6 : sj_fi S (g 0) 6 = m 12 := hT.2.1.2.1
  have h7 : sj_fi S (g 0) 7 = m 13 := hT.2.1.2.2
  have hRo := hT.2.2.2.2.1
  obtain ⟨h9, hn8⟩ := id hI.1
  have hN28 := hI.2.1.2
  have hv := sj_inv_oav hI
  have hN : sj_fi S (sq_D g 0 5) 0 = nI (sj_tn (m 10)) := hRo.1.trans hI.2.1.1
  have cut_160 : ∀ o3 o4, sj_G X S 0 0 [some (.ref (g 141)), some (.long (sj_dg2 m (nI q))), none, o3, o4] 160 [] := by
    intro o3 o4
    refine sj_lload_n C 161 rfl dX6_digest_160 rfl rfl ?_
    refine sj_aload_n C 162 rfl dX6_digest_161 rfl rfl ?_
    refine sj_getr C 165 rfl fd_X6_19 dX6_digest_162 kd_x rf_x_1 ?_
    refine sj_getI C 168 rfl fd_X6_181 dX6_digest_165 kd_t ?_
    rw [h6]
    refine sj_i2l C 169 rfl dX6_digest_168 ?_
    refine sj_callSd C 172 rfl dX6_digest_169 cv_X6_249 rfl (ct_X6_mix _ _ _ _) rfl rfl rfl ⟨rfl, rfl⟩ ?_
    refine sj_lstore_n_1 C 173 rfl dX6_digest_172 rfl rfl ?_
    refine sj_lload_n C 174 rfl dX6_digest_173 rfl rfl ?_
    refine sj_aload_n C 175 rfl dX6_digest_174 rfl rfl ?_
    refine sj_getr C 178 rfl fd_X6_19 dX6_digest_175 kd_x rf_x_1 ?_
    refine sj_getI C 181 rfl fd_X6_184 dX6_digest_178 kd_t ?_
    rw [h7]
    refine sj_i2l C 182 rfl dX6_digest_181 ?_
    refine sj_callSd C 185 rfl dX6_digest_182 cv_X6_249 rfl (ct_X6_mix _ _ _ _) rfl rfl rfl ⟨rfl, rfl⟩ ?_
    refine sj_lstore_n_1 C 186 rfl dX6_digest_185 rfl rfl ?_
    refine sj_lload_n C 187 rfl dX6_digest_186 rfl rfl ?_
    refine sj_aload_n C 188 rfl dX6_digest_187 rfl rfl ?_
    refine sj_getr C 191 rfl fd_X6_19 dX6_digest_188 kd_x rf_x_1 ?_
    refine sj_callVd C 194 rfl dX6_digest_191 cv_X6_243 rfl (ct_X4_shareOfHands _ hT hI) rfl rfl rfl ⟨_, _, kd_t, rfl, rfl, by decide⟩ ⟨rfl, rfl⟩ ?_
    refine sj_callSd C 197 rfl dX6_digest_194 cv_X6_261 rfl (ct_X6_bitsOf _ _ (sj_shr_ok hn8)) rfl rfl rfl ⟨rfl, rfl⟩ ?_
    refine sj_callSd C 200 rfl dX6_digest_197 cv_X6_249 rfl (ct_X6_mix _ _ _ _) rfl rfl rfl ⟨rfl, rfl⟩ ?_
    refine sj_lstore_n_1 C 201 rfl dX6_digest_200 rfl rfl ?_
    refine sj_aload_n C 202 rfl dX6_digest_201 rfl rfl ?_
    refine sj_getr C 205 rfl fd_X6_10 dX6_digest_202 kd_x rf_x_0 ?_
    refine sj_lload_n C 206 rfl dX6_digest_205 rfl rfl ?_
    refine sj_callVd C 209 rfl dX6_digest_206 cv_X6_265 rfl (ct_X5_mixInto _ hX _) rfl rfl rfl ⟨_, _, kd_tx, rfl, rfl, by decide⟩ ⟨rfl, rfl⟩ ?_
    refine sj_lret C hR rfl rfl dX6_digest_209 ?_
    exact ⟨rfl, rfl⟩
  have cut_123 : ∀ k, k < sj_tn (m 10) → (∀ o4, sj_G X S 0 0 [some (.ref (g 141)), some (.long (sj_mxl (sj_dg1 m (nI q)) (fun k => sj_tlo m (k / 4) (k % 4)) (4 * (k + 1)))), none, some (.int (nI (k + 1))), o4] 100 []) → sj_G X S 0 0 [some (.ref (g 141)), some (.long (sj_mxl (sj_dg1 m (nI q)) (fun k => sj_tlo m (k / 4) (k % 4)) (4 * k + 0))), none, some (.int (nI (k))), some (.int (nI (0)))] 123 [] := by
    intro k hlk hnext
    refine sj_down (fun e => sj_G X S 0 0 [some (.ref (g 141)), some (.long (sj_mxl (sj_dg1 m (nI q)) (fun k => sj_tlo m (k / 4) (k % 4)) (4 * k + e))), none, some (.int (nI (k))), some (.int (nI (e)))] 123 []) 4 (fun e hk ih => ?_)
    refine sj_iload C 125 rfl dX6_digest_123 rfl ?_
    refine sj_iconstv C (4) 126 rfl dX6_digest_125 rfl ?_
    refine sj_icmp_ge C 154 129 rfl rfl dX6_digest_126 (fun c_126 => ?_) (fun c_126 => ?_)
    · have hee : e = 4 := by
        have h8 : ¬ e < 4 := fun h7 => nI_ge (b := 4) h7 (by omega) c_126
        omega
      subst hee
      refine sj_iinc_3 C 157 rfl dX6_digest_154 rfl rfl ?_
      refine sj_goto C 100 rfl dX6_digest_157 ?_
      rw [sj_n1]
      exact hnext _
    · have hle : e < 4 := Nat.not_le.mp fun h8 => c_126 (nI_le (a := 4) h8 (by omega))
      refine sj_lload_n C 130 rfl dX6_digest_129 rfl rfl ?_
      refine sj_aload_n C 131 rfl dX6_digest_130 rfl rfl ?_
      refine sj_getr C 134 rfl fd_X6_19 dX6_digest_131 kd_x rf_x_1 ?_
      refine sj_getr C 137 rfl fd_X6_131 dX6_digest_134 kd_t rf_t_4 ?_
      refine sj_iload_n C 138 rfl dX6_digest_137 rfl rfl ?_
      refine sj_iload C 140 rfl dX6_digest_138 rfl ?_
      refine sj_callVd C 143 rfl dX6_digest_140 cv_X6_226 rfl (sq_c_numberOf _ hol hv hRo (k := k) (q := e) hlk hle) rfl rfl rfl ⟨_, _, kd_o, rfl, rfl, by decide⟩ ⟨rfl, rfl⟩ ?_
      refine sj_i2l C 144 rfl dX6_digest_143 ?_
      refine sj_callSd C 147 rfl dX6_digest_144 cv_X6_249 rfl (ct_X6_mix _ _ _ _) rfl rfl rfl ⟨rfl, rfl⟩ ?_
      rw [show 31 * (sj_mxl (sj_dg1 m (nI q)) (fun k => sj_tlo m (k / 4) (k % 4)) (4 * k + e)) + (sj_tlo m k e).toInt64 = (sj_mxl (sj_dg1 m (nI q)) (fun k => sj_tlo m (k / 4) (k % 4)) (4 * k + (e + 1))) from (congrArg (sj_x1 (sj_mxl (sj_dg1 m (nI q)) (fun k => sj_tlo m (k / 4) (k % 4)) (4 * k + e))) (by show sj_tlo m k e = sj_tlo m ((4 * k + e) / 4) ((4 * k + e) % 4); rw [(sj_dm4 hle).1, (sj_dm4 hle).2])).trans (sj_mxl_4 (sj_dg1 m (nI q)) (fun k => sj_tlo m (k / 4) (k % 4)) k e).symm]
      refine sj_lstore_n_1 C 148 rfl dX6_digest_147 rfl rfl ?_
      refine sj_iinc_4 C 151 rfl dX6_digest_148 rfl rfl ?_
      refine sj_goto C 123 rfl dX6_digest_151 ?_
      rw [sj_n1]
      exact ih hle
  have cut_100 : ∀ o4, sj_G X S 0 0 [some (.ref (g 141)), some (.long (sj_mxl (sj_dg1 m (nI q)) (fun k => sj_tlo m (k / 4) (k % 4)) (4 * 0))), none, some (.int (nI (0))), o4] 100 [] := by
    refine sj_down (fun k => ∀ o4, sj_G X S 0 0 [some (.ref (g 141)), some (.long (sj_mxl (sj_dg1 m (nI q)) (fun k => sj_tlo m (k / 4) (k % 4)) (4 * k))), none, some (.int (nI (k))), o4] 100 []) (sj_tn (m 10)) (fun k hk ih => ?_)
    intro o4
    refine sj_iload_n C 101 rfl dX6_digest_100 rfl rfl ?_
    refine sj_aload_n C 102 rfl dX6_digest_101 rfl rfl ?_
    refine sj_getr C 105 rfl fd_X6_19 dX6_digest_102 kd_x rf_x_1 ?_
    refine sj_getr C 108 rfl fd_X6_131 dX6_digest_105 kd_t rf_t_4 ?_
    refine sj_getI C 111 rfl fd_X6_225 dX6_digest_108 kd_o ?_
    rw [hN]
    refine sj_icmp_ge C 160 114 rfl rfl dX6_digest_111 (fun c_111 => ?_) (fun c_111 => ?_)
    · have hkn : k = sj_tn (m 10) := by
        have h8 : ¬ k < sj_tn (m 10) := fun h7 => nI_ge h7 (by omega) c_111
        omega
      rw [hkn]
      exact cut_160 _ _
    · have hlk : k < sj_tn (m 10) := Nat.not_le.mp fun h8 => c_111 (nI_le h8 (by omega))
      refine sj_iload_n C 115 rfl dX6_digest_114 rfl rfl ?_
      refine sj_bipush C (28) 117 rfl dX6_digest_115 (by decide) ?_
      refine sj_icmp_ge C 160 120 rfl rfl dX6_digest_117 (fun c_117 => ?_) (fun c_117 => ?_)
      · exact absurd c_117 (nI_ge (b := 28) (by omega) (by omega))
      · refine sj_iconstv C (0) 121 rfl dX6_digest_120 rfl ?_
        refine sj_istore_4 C 123 rfl dX6_digest_121 rfl rfl ?_
        exact cut_123 k hlk (fun o4 => ih hlk o4)
  have cut_58 : ∀ i, i < (sj_tn (m 9)) → (∀ o4, sj_G X S 0 0 [some (.ref (g 141)), some (.long (sj_mxn m (sj_mxl 3919 (sj_tc m (nI q)) 18) (i + 1))), none, some (.int (nI (i + 1))), o4] 31 []) → sj_G X S 0 0 [some (.ref (g 141)), some (.long (sj_mps m i (sq_mxs m i (sj_mxn m (sj_mxl 3919 (sj_tc m (nI q)) 18) (i))) (0))), none, some (.int (nI (i))), some (.int (nI (0)))] 58 [] := by
    intro i hi hnext
    refine sj_down (fun k => sj_G X S 0 0 [some (.ref (g 141)), some (.long (sj_mps m i (sq_mxs m i (sj_mxn m (sj_mxl 3919 (sj_tc m (nI q)) 18) (i))) (k))), none, some (.int (nI (i))), some (.int (nI (k)))] 58 []) (sj_tn (m 9)) (fun k hk ih => ?_)
    refine sj_iload C 60 rfl dX6_digest_58 rfl ?_
    refine sj_aload_n C 61 rfl dX6_digest_60 rfl rfl ?_
    refine sj_getr C 64 rfl fd_X6_19 dX6_digest_61 kd_x rf_x_1 ?_
    refine sj_getI C 67 rfl fd_X6_48 dX6_digest_64 kd_t ?_
    rw [h3]
    refine sj_icmp_ge C 92 70 rfl rfl dX6_digest_67 (fun c_67 => ?_) (fun c_67 => ?_)
    · have hkn : k = (sj_tn (m 9)) := by
        have h8 : ¬ k < (sj_tn (m 9)) := fun h7 => nI_ge h7 (by omega) (by rw [← h9]; exact c_67)
        omega
      refine sj_iinc_3 C 95 rfl dX6_digest_92 rfl rfl ?_
      refine sj_goto C 31 rfl dX6_digest_95 ?_
      rw [sj_n1, hkn, show (sj_mps m i (sq_mxs m i (sj_mxn m (sj_mxl 3919 (sj_tc m (nI q)) 18) (i))) ((sj_tn (m 9)))) = (sj_mxn m (sj_mxl 3919 (sj_tc m (nI q)) 18) (i + 1)) from (sj_mxs_q m i _).symm]
      exact hnext _
    · have hlt : k < (sj_tn (m 9)) := Nat.not_le.mp fun h8 => c_67 (by rw [h9]; exact nI_le h8 (by omega))
      refine sj_iload C 72 rfl dX6_digest_70 rfl ?_
      refine sj_bipush C (8) 74 rfl dX6_digest_72 (by decide) ?_
      refine sj_icmp_ge C 92 77 rfl rfl dX6_digest_74 (fun c_74 => ?_) (fun c_74 => ?_)
      · exact absurd c_74 (nI_ge (b := 8) (by omega) (by omega))
      · refine sj_aload_n C 78 rfl dX6_digest_77 rfl rfl ?_
        refine sj_lload_n C 79 rfl dX6_digest_78 rfl rfl ?_
        refine sj_iload_n C 80 rfl dX6_digest_79 rfl rfl ?_
        refine sj_iload C 82 rfl dX6_digest_80 rfl ?_
        refine sj_callVd C 85 rfl dX6_digest_82 cv_X6_257 rfl (ct_X6_mixPair _ hW hI hu _ hi hlt) rfl rfl rfl ⟨_, _, kd_x, rfl, rfl, by decide⟩ ⟨rfl, rfl⟩ ?_
        rw [show sj_mpr m i (sj_mps m i (sq_mxs m i (sj_mxn m (sj_mxl 3919 (sj_tc m (nI q)) 18) (i))) (k)) k = (sj_mps m i (sq_mxs m i (sj_mxn m (sj_mxl 3919 (sj_tc m (nI q)) 18) (i))) (k + 1)) from rfl]
        refine sj_lstore_n_1 C 86 rfl dX6_digest_85 rfl rfl ?_
        refine sj_iinc_4 C 89 rfl dX6_digest_86 rfl rfl ?_
        refine sj_goto C 58 rfl dX6_digest_89 ?_
        rw [sj_n1]
        exact ih hlt
  have cut_31 : ∀ o4, sj_G X S 0 0 [some (.ref (g 141)), some (.long (sj_mxn m (sj_mxl 3919 (sj_tc m (nI q)) 18) (0))), none, some (.int (nI (0))), o4] 31 [] := by
    refine sj_down (fun i => ∀ o4, sj_G X S 0 0 [some (.ref (g 141)), some (.long (sj_mxn m (sj_mxl 3919 (sj_tc m (nI q)) 18) (i))), none, some (.int (nI (i))), o4] 31 []) (sj_tn (m 9)) (fun i hk ih => ?_)
    intro o4
    refine sj_iload_n C 32 rfl dX6_digest_31 rfl rfl ?_
    refine sj_aload_n C 33 rfl dX6_digest_32 rfl rfl ?_
    refine sj_getr C 36 rfl fd_X6_19 dX6_digest_33 kd_x rf_x_1 ?_
    refine sj_getI C 39 rfl fd_X6_48 dX6_digest_36 kd_t ?_
    rw [h3]
    refine sj_icmp_ge C 98 42 rfl rfl dX6_digest_39 (fun c_39 => ?_) (fun c_39 => ?_)
    · have hin : i = (sj_tn (m 9)) := by
        have h8 : ¬ i < (sj_tn (m 9)) := fun h7 => nI_ge h7 (by omega) (by rw [← h9]; exact c_39)
        omega
      refine sj_iconstv C (0) 99 rfl dX6_digest_98 rfl ?_
      refine sj_istore_n_3 C 100 rfl dX6_digest_99 rfl rfl ?_
      rw [hin]
      exact cut_100 _
    · have hli : i < (sj_tn (m 9)) := Nat.not_le.mp fun h8 => c_39 (by rw [h9]; exact nI_le h8 (by omega))
      refine sj_iload_n C 43 rfl dX6_digest_42 rfl rfl ?_
      refine sj_bipush C (8) 45 rfl dX6_digest_43 (by decide) ?_
      refine sj_icmp_ge C 98 48 rfl rfl dX6_digest_45 (fun c_45 => ?_) (fun c_45 => ?_)
      · exact absurd c_45 (nI_ge (b := 8) (by omega) (by omega))
      · refine sj_aload_n C 49 rfl dX6_digest_48 rfl rfl ?_
        refine sj_lload_n C 50 rfl dX6_digest_49 rfl rfl ?_
        refine sj_iload_n C 51 rfl dX6_digest_50 rfl rfl ?_
        refine sj_callVd C 54 rfl dX6_digest_51 cv_X6_253 rfl (ct_X6_mixSheet _ hW hI _ hli) rfl rfl rfl ⟨_, _, kd_x, rfl, rfl, by decide⟩ ⟨rfl, rfl⟩ ?_
        rw [show sq_mxs m i (sj_mxn m (sj_mxl 3919 (sj_tc m (nI q)) 18) (i)) = (sj_mps m i (sq_mxs m i (sj_mxn m (sj_mxl 3919 (sj_tc m (nI q)) 18) (i))) (0)) from rfl]
        refine sj_lstore_n_1 C 55 rfl dX6_digest_54 rfl rfl ?_
        refine sj_iconstv C (0) 56 rfl dX6_digest_55 rfl ?_
        refine sj_istore_4 C 58 rfl dX6_digest_56 rfl rfl ?_
        exact cut_58 i hli (fun o4 => ih hli o4)
  have cut_6 : ∀ o4, sj_G X S 0 0 [some (.ref (g 141)), some (.long (sj_mxl 3919 (sj_tc m (nI q)) 0)), none, some (.int (nI (0))), o4] 6 [] := by
    intro o4
    refine sj_down (fun k => sj_G X S 0 0 [some (.ref (g 141)), some (.long (sj_mxl 3919 (sj_tc m (nI q)) k)), none, some (.int (nI (k))), o4] 6 []) 18 (fun k hk ih => ?_)
    refine sj_iload_n C 7 rfl dX6_digest_6 rfl rfl ?_
    refine sj_bipush C (18) 9 rfl dX6_digest_7 (by decide) ?_
    refine sj_icmp_ge C 29 12 rfl rfl dX6_digest_9 (fun c_9 => ?_) (fun c_9 => ?_)
    · have hkn : k = 18 := by
        have h8 : ¬ k < 18 := fun h7 => nI_ge (b := 18) h7 (by omega) c_9
        omega
      subst hkn
      refine sj_iconstv C (0) 30 rfl dX6_digest_29 rfl ?_
      refine sj_istore_n_3 C 31 rfl dX6_digest_30 rfl rfl ?_
      exact cut_31 _
    · have hlt : k < 18 := Nat.not_le.mp fun h8 => c_9 (nI_le (a := 18) h8 (by omega))
      refine sj_lload_n C 13 rfl dX6_digest_12 rfl rfl ?_
      refine sj_aload_n C 14 rfl dX6_digest_13 rfl rfl ?_
      refine sj_iload_n C 15 rfl dX6_digest_14 rfl rfl ?_
      refine sj_callVd C 18 rfl dX6_digest_15 cv_X6_231 rfl (ct_X6_toldCount _ hW hI (w := k) hlt) rfl rfl rfl ⟨_, _, kd_x, rfl, rfl, by decide⟩ ⟨rfl, rfl⟩ ?_
      refine sj_i2l C 19 rfl dX6_digest_18 ?_
      refine sj_callSd C 22 rfl dX6_digest_19 cv_X6_249 rfl (ct_X6_mix _ _ _ _) rfl rfl rfl ⟨rfl, rfl⟩ ?_
      rw [show 31 * (sj_mxl 3919 (sj_tc m (nI q)) k) + (sj_tc m (nI q) k).toInt64 = (sj_mxl 3919 (sj_tc m (nI q)) (k + 1)) from rfl]
      refine sj_lstore_n_1 C 23 rfl dX6_digest_22 rfl rfl ?_
      refine sj_iinc_3 C 26 rfl dX6_digest_23 rfl rfl ?_
      refine sj_goto C 6 rfl dX6_digest_26 ?_
      rw [sj_n1]
      exact ih hlt
  refine sj_ldc2 C 3919 3 rfl (wr_42 _ (List.mem_of_getElem? (i := 6) (by decide +kernel))) dX6_digest_0 ?_
  refine sj_lstore_n_1 C 4 rfl dX6_digest_3 rfl rfl ?_
  refine sj_iconstv C (0) 5 rfl dX6_digest_4 rfl ?_
  refine sj_istore_n_3 C 6 rfl dX6_digest_5 rfl rfl ?_
  exact cut_6 _
