/-! THE LAW: hands, going from sheet to sheet -/
def sp_it (f : Nat → Nat) : Nat → Nat → Nat
  | 0, M => M
  | j + 1, M => f (sp_it f j M)
theorem sp_it_s (f : Nat → Nat) : ∀ j M, sp_it f (j + 1) M = sp_it f j (f M)
  | 0, _ => rfl
  | j + 1, M => congrArg f (sp_it_s f j M)
theorem sp_it_fix {f : Nat → Nat} {M : Nat} (h : f M = M) : ∀ j, sp_it f j M = M
  | 0 => rfl
  | j + 1 => (congrArg f (sp_it_fix h j)).trans h
theorem sp_it_lN (m : Nat → Int32) (w : Int32) : ∀ j M, sp_it (fun M => sq_sN m w M (sj_tn (m 10))) j M = sq_lN m w j M
  | 0, _ => rfl
  | j + 1, M => by
    unfold sq_lN
    by_cases h : sq_sN m w M (sj_tn (m 10)) = M
    · rw [if_pos h]
      exact sp_it_fix (f := fun M => sq_sN m w M (sj_tn (m 10))) h (j + 1)
    · rw [if_neg h, sp_it_s]
      exact sp_it_lN m w j _
theorem sp_it_lt {f : Nat → Nat} (hf : ∀ M, M < 256 → f M < 256) {M : Nat} (hM : M < 256) : ∀ j, sp_it f j M < 256
  | 0 => hM
  | j + 1 => hf _ (sp_it_lt hf hM j)
/-- the hand of a sheet, as bits -/
def sp_hd (m : Nat → Int32) (w : Int32) (i : Nat) : Nat := sq_lN m w 8 (2 ^ i)
theorem sp_hd_lt {m : Nat → Int32} (hv : sj_oav m) (w : Int32) {i : Nat} (hi : i < sj_tn (m 9)) : sp_hd m w i < 256 := by
  have h8 := hv.1.2
  exact (sq_ldr_lN hv (f1 := fun k => sj_oa m k 0) (f2 := fun k => sj_oa m k 1) (f3 := fun k => sj_oa m k 2) (fun k hk => ⟨rfl, rfl, rfl⟩) w 8 (2 ^ i) (Nat.pow_lt_pow_right (n := 8) (by omega) (by omega))).2
theorem sp_hd_in {m : Nat → Int32} (hv : sj_oav m) (w : Int32) {a b : Nat} (ha : a < sj_tn (m 9)) (hb : b < sj_tn (m 9)) : (sp_hd m w a).testBit b = decide (sj_hH m w a = sj_hH m w b) := by
  have hn8 := hv.1.2
  have h2a : 2 ^ a < 256 := Nat.pow_lt_pow_right (n := 8) (by omega) (by omega)
  unfold sp_hd
  have hstart : ∀ i, (2 ^ a).testBit i = true → i = a := fun i hi => by
    rw [Nat.testBit_two_pow] at hi
    exact (of_decide_eq_true hi).symm
  have hcl := sq_lN_cl hv w 8 (2 ^ a) h2a (by have := sq_cn_one a (by omega); omega)
  have ha1 : (sq_lN m w 8 (2 ^ a)).testBit a = true := sq_lN_mono 8 (2 ^ a) (by rw [Nat.testBit_two_pow]; exact decide_eq_true rfl)
  cases hbb : (sq_lN m w 8 (2 ^ a)).testBit b
  · refine (decide_eq_false (fun e => ?_)).symm
    have h5 := (sj_hnd_T hv w (fun i => (sq_lN m w 8 (2 ^ a)).testBit i = true) (sj_tn (m 10)) (Nat.le_refl _) (fun k hk h1 h2 => by rw [hcl k hk h1 h2]) a b ha hb e).mp ha1
    rw [hbb] at h5
    exact absurd h5 (by decide)
  · refine (decide_eq_true ?_).symm
    have h6 := sq_lN_T (m := m) (w := w) (fun i => sj_hH m w a = sj_hH m w i) (fun k hk h1 h2 => by
      have h7 := sj_hnd_1 hv w h1 h2 (sj_tn (m 10)) hk (Nat.le_refl _)
      show sj_hH m w a = sj_hH m w _ ↔ sj_hH m w a = sj_hH m w _
      unfold sj_hH
      rw [h7]) 8 (2 ^ a) (fun i hi => by rw [hstart i hi]) b hbb
    exact h6
theorem sp_hd_out {m : Nat → Int32} (hv : sj_oav m) (w : Int32) {a b : Nat} (ha : a < sj_tn (m 9)) (hb : sj_tn (m 9) ≤ b) : (sp_hd m w a).testBit b = false := by
  unfold sp_hd
  cases hbb : (sq_lN m w 8 (2 ^ a)).testBit b
  · rfl
  · have h6 := sq_lN_T (m := m) (w := w) (fun i => i < sj_tn (m 9)) (fun k hk h1 h2 => ⟨fun _ => (hv.2.2 k hk).2.1.2, fun _ => (hv.2.2 k hk).1.2⟩) 8 (2 ^ a) (fun i hi => by
      rw [Nat.testBit_two_pow] at hi
      rw [← of_decide_eq_true hi]
      exact ha) b hbb
    exact absurd h6 (by omega)
theorem sp_sN_j {m : Nat → Int32} (hI : sj_inv m) {w : Int32} {M k : Nat} (hM : M < 256) (hk : k < sj_tn (m 10)) {x j : Int32} (e6 : x = nI (sq_sN m w M k)) (h : ((nI k = w) ∧ j = 0) ∨ ((¬ nI k = w) ∧ (¬ sj_oa m k 2 = 1) ∧ j = 0) ∨ ((¬ nI k = w) ∧ (sj_oa m k 2 = 1) ∧ (x &&& (((1 : Int32) <<< (nI (sj_tn (sj_oa m k 0)) &&& 31)) ||| ((1 : Int32) <<< (nI (sj_tn (sj_oa m k 1)) &&& 31))) = 0) ∧ j = 0) ∨ ((¬ nI k = w) ∧ (sj_oa m k 2 = 1) ∧ (¬ x &&& (((1 : Int32) <<< (nI (sj_tn (sj_oa m k 0)) &&& 31)) ||| ((1 : Int32) <<< (nI (sj_tn (sj_oa m k 1)) &&& 31))) = 0) ∧ j = (((1 : Int32) <<< (nI (sj_tn (sj_oa m k 0)) &&& 31)) ||| ((1 : Int32) <<< (nI (sj_tn (sj_oa m k 1)) &&& 31))))) : x ||| j = nI (sq_sN m w M (k + 1)) := by
  have hv := sj_inv_oav hI
  obtain ⟨⟨-, a8⟩, ⟨-, b8⟩, -⟩ := sp_oa_n hI hk
  have hlt := sq_sN_lt hv w hM k (by omega)
  obtain ⟨g1, g2⟩ := sj_mk_and _ hlt _ a8 _ b8
  have or0 : ∀ v : Int32, v ||| 0 = v := fun v => by
    apply Int32.toBitVec_inj.mp
    rw [Int32.toBitVec_or]
    exact BitVec.or_zero
  have no : ¬ ((¬ nI k = w ∧ sj_oa m k 2 = 1) ∧ ((sq_sN m w M k).testBit (sj_tn (sj_oa m k 0)) || (sq_sN m w M k).testBit (sj_tn (sj_oa m k 1))) = true) → x ||| 0 = nI (sq_sN m w M (k + 1)) := fun hn => by
    rw [or0, e6, show sq_sN m w M (k + 1) = sq_sN m w M k from if_neg hn]
  rcases h with ⟨h1, rfl⟩ | ⟨h1, h2, rfl⟩ | ⟨h1, h2, h3, rfl⟩ | ⟨h1, h2, h3, rfl⟩
  · exact no (fun h9 => h9.1.1 h1)
  · exact no (fun h9 => h2 h9.1.2)
  · refine no (fun h9 => ?_)
    rw [e6] at h3
    rw [decide_eq_true h3, h9.2] at g1
    exact absurd g1 (by decide)
  · rw [e6, g2]
    refine congrArg nI (if_pos ⟨⟨h1, h2⟩, ?_⟩).symm
    rw [e6] at h3
    rw [decide_eq_false h3] at g1
    revert g1
    cases ((sq_sN m w M k).testBit (sj_tn (sj_oa m k 0)) || (sq_sN m w M k).testBit (sj_tn (sj_oa m k 1)))
    · intro h; exact absurd h (by decide)
    · intro _; rfl
theorem sp_or0 (v : Int32) : v ||| 0 = v := by
  apply Int32.toBitVec_inj.mp
  rw [Int32.toBitVec_or]
  exact BitVec.or_zero
/-- a round with one oath more -/
def sp_rx (m : Nat → Int32) (a b : Nat) (M : Nat) : Nat := if ((sq_sN m (-1) M (sj_tn (m 10))).testBit a || (sq_sN m (-1) M (sj_tn (m 10))).testBit b) = true then sq_sN m (-1) M (sj_tn (m 10)) ||| (2 ^ a ||| 2 ^ b) else sq_sN m (-1) M (sj_tn (m 10))
theorem sp_rx_lt {m : Nat → Int32} (hv : sj_oav m) {a b : Nat} (ha : a < 8) (hb : b < 8) {M : Nat} (hM : M < 256) : sp_rx m a b M < 256 := by
  have h := sq_sN_lt hv (-1) hM _ (Nat.le_refl (sj_tn (m 10)))
  unfold sp_rx
  split
  · exact sj_lt2 h ha hb
  · exact h
theorem sp_rx_j {m : Nat → Int32} (hv : sj_oav m) {a b : Nat} (ha : a < 8) (hb : b < 8) {M : Nat} (hM : M < 256) {x j : Int32} (e6 : x = nI (sq_sN m (-1) M (sj_tn (m 10)))) (h : j = if (x &&& (((1 : Int32) <<< (nI a &&& 31)) ||| ((1 : Int32) <<< (nI b &&& 31)))) = 0 then 0 else (((1 : Int32) <<< (nI a &&& 31)) ||| ((1 : Int32) <<< (nI b &&& 31)))) : x ||| j = nI (sp_rx m a b M) := by
  have hlt := sq_sN_lt hv (-1) hM _ (Nat.le_refl (sj_tn (m 10)))
  obtain ⟨g1, g2⟩ := sj_mk_and _ hlt a ha b hb
  rw [h, e6]
  unfold sp_rx
  by_cases h3 : (nI (sq_sN m (-1) M (sj_tn (m 10))) &&& (((1 : Int32) <<< (nI a &&& 31)) ||| ((1 : Int32) <<< (nI b &&& 31)))) = 0
  · rw [if_pos h3, sp_or0, if_neg]
    intro h9
    rw [decide_eq_true h3, h9] at g1
    exact absurd g1 (by decide)
  · rw [if_neg h3, g2, if_pos]
    rw [decide_eq_false h3] at g1
    revert g1
    cases ((sq_sN m (-1) M (sj_tn (m 10))).testBit a || (sq_sN m (-1) M (sj_tn (m 10))).testBit b)
    · intro h; exact absurd h (by decide)
    · intro _; rfl
/-- the oath more, laid last -/
theorem sp_sN_sw (m : Nat → Int32) (a b : Nat) (M : Nat) : ∀ k, k ≤ sj_tn (m 10) → sq_sN (sj_sw m a b true) (-1) M k = sq_sN m (-1) M k
  | 0, _ => rfl
  | k + 1, hk => by
    have ih := sp_sN_sw m a b M k (by omega)
    unfold sq_sN
    rw [ih, sj_sw_oa m a b true (by omega) (by omega), sj_sw_oa m a b true (by omega) (by omega), sj_sw_oa m a b true (by omega) (by omega)]
theorem sp_sw_n {m : Nat → Int32} (hI : sj_inv m) (a b : Nat) (like : Bool) : sj_tn (sj_sw m a b like 10) = sj_tn (m 10) + 1 ∧ sj_sw m a b like 9 = m 9 := by
  obtain ⟨h10, h28⟩ := hI.2.1
  refine ⟨?_, sj_sw_o m a b like (by omega) (by omega) (Or.inl (by omega))⟩
  rw [sj_sw_10, h10, nI_1]
  unfold sj_tn
  rw [nI_clamp (by have : (m 10).toNatClampNeg ≤ 28 := h28; omega), nI_clamp (by have : (m 10).toNatClampNeg ≤ 28 := h28; omega)]
theorem sp_rx_sw {m : Nat → Int32} (hI : sj_inv m) {a b : Nat} (ha : a < 8) (hb : b < 8) (M : Nat) : sp_rx m a b M = sq_sN (sj_sw m a b true) (-1) M (sj_tn (sj_sw m a b true 10)) := by
  have h28 := hI.2.1.2
  rw [(sp_sw_n hI a b true).1]
  show _ = (if (¬ nI (sj_tn (m 10)) = -1 ∧ sj_oa (sj_sw m a b true) (sj_tn (m 10)) 2 = 1) ∧ ((sq_sN (sj_sw m a b true) (-1) M (sj_tn (m 10))).testBit (sj_tn (sj_oa (sj_sw m a b true) (sj_tn (m 10)) 0)) || (sq_sN (sj_sw m a b true) (-1) M (sj_tn (m 10))).testBit (sj_tn (sj_oa (sj_sw m a b true) (sj_tn (m 10)) 1))) = true then sq_sN (sj_sw m a b true) (-1) M (sj_tn (m 10)) ||| (2 ^ sj_tn (sj_oa (sj_sw m a b true) (sj_tn (m 10)) 0) ||| 2 ^ sj_tn (sj_oa (sj_sw m a b true) (sj_tn (m 10)) 1)) else sq_sN (sj_sw m a b true) (-1) M (sj_tn (m 10)))
  rw [sj_sw_0, sj_sw_1, sj_sw_2, sp_sN_sw m a b M _ (Nat.le_refl _), show sj_tn (nI a) = a from nI_clamp (by omega), show sj_tn (nI b) = b from nI_clamp (by omega)]
  unfold sp_rx
  have hm1 : ¬ nI (sj_tn (m 10)) = -1 := sj_nIm1 (by omega)
  by_cases h : ((sq_sN m (-1) M (sj_tn (m 10))).testBit a || (sq_sN m (-1) M (sj_tn (m 10))).testBit b) = true
  · rw [if_pos h, if_pos ⟨⟨hm1, rfl⟩, h⟩]
  · rw [if_neg h, if_neg (fun h9 => h h9.2)]
set_option maxRecDepth 100000 in
set_option maxHeartbeats 600000 in
theorem ct_L_handOf (l : Launch) {S : sj_St} {rq ra rn rt rp : Nat} {m : Nat → Int32} (h : sp_B S rq ra rn rt rp m) (hI : sj_inv m) {i : Nat} (hi : i < sj_tn (m 9)) (w : Int32) : sj_Ctr l mL_handOf [.int (nI (i)), .int (w), .int ((-1)), .int ((-1)), .ref rq, .ref rp] S (sj_eq (some (.int (nI (sp_hd m w i)))) S) := by
  refine sj_start ([some (.int (nI (i))), some (.int (w)), some (.int ((-1))), some (.int ((-1))), some (.ref rq), some (.ref rp), none, none, none, none]) (by decide +kernel) rfl rfl (fun X hX C hR => ?_)
  subst hX
  obtain ⟨⟨kd_rq, il_rq⟩, ⟨kd_ra, il_ra⟩, ⟨kd_rn, il_rn⟩, ⟨kd_rt, il_rt⟩, ⟨kd_rp, il_rp⟩, hq, hs, hp⟩ := id h
  obtain ⟨h9, hn8⟩ := id hI.1
  obtain ⟨h10, hN28⟩ := id hI.2.1
  have hv := sj_inv_oav hI
  have h2i : 2 ^ i < 256 := Nat.pow_lt_pow_right (n := 8) (by omega) (by omega)
  have cut_8 : ∀ y6 : Int32, (y6 = nI (sp_it (fun M => sq_sN m w M (sj_tn (m 10))) 0 (2 ^ i))) → sj_G X S 0 0 [some (.int (nI (i))), some (.int (w)), some (.int ((-1))), some (.int ((-1))), some (.ref rq), some (.ref rp), some (.int (y6)), some (.int (nI (0))), none, none] 8 [] := by
    refine sj_down (fun t => ∀ y6 : Int32, (y6 = nI (sp_it (fun M => sq_sN m w M (sj_tn (m 10))) t (2 ^ i))) → sj_G X S 0 0 [some (.int (nI (i))), some (.int (w)), some (.int ((-1))), some (.int ((-1))), some (.ref rq), some (.ref rp), some (.int (y6)), some (.int (nI (t))), none, none] 8 []) 8 (fun t ht ih_8 => ?_)
    intro y6 e_y6
    have cut_18 : ∀ x6 : Int32, (x6 = nI (sq_sN m w (sp_it (fun M => sq_sN m w M (sj_tn (m 10))) t (2 ^ i)) 0)) → (t < 8) → sj_G X S 0 0 [some (.int (nI (i))), some (.int (w)), some (.int ((-1))), some (.int ((-1))), some (.ref rq), some (.ref rp), some (.int (x6)), some (.int (nI (t))), some (.int (nI (0))), none] 18 [] := by
      refine sj_down (fun k => ∀ x6 : Int32, (x6 = nI (sq_sN m w (sp_it (fun M => sq_sN m w M (sj_tn (m 10))) t (2 ^ i)) k)) → (t < 8) → sj_G X S 0 0 [some (.int (nI (i))), some (.int (w)), some (.int ((-1))), some (.int ((-1))), some (.ref rq), some (.ref rp), some (.int (x6)), some (.int (nI (t))), some (.int (nI (k))), none] 18 []) (sj_tn (m 10)) (fun k hk ih_18 => ?_)
      intro x6 e_x6 hy18_0
      refine sj_iload C 20 rfl dL_handOf_18 rfl ?_
      refine sj_aload C 22 rfl dL_handOf_20 rfl ?_
      refine sj_bipush C (10) 24 rfl dL_handOf_22 (by decide) ?_
      refine sj_iald C 25 rfl dL_handOf_24 kd_rq (sp_vp (i := 10) il_rq (by omega) (by omega)) ?_
      rw [show Int32.toNatClampNeg 10 = 10 from rfl]
      rw [hq 10 (by omega)]
      rw [h10]
      refine sj_icmp_ge C 96 28 rfl rfl dL_handOf_25 (fun c_25 => ?_) (fun c_25 => ?_)
      · have hkn : k = sj_tn (m 10) := by
          have h99 : ¬ k < sj_tn (m 10) := fun h9 => nI_ge h9 (by omega) c_25
          omega
        subst hkn
        refine sj_iload_n C 97 rfl dL_handOf_96 rfl rfl ?_
        refine sj_if_ge C 104 100 rfl rfl dL_handOf_97 (fun c_97 => absurd c_97 (by decide)) (fun c_97 => ?_)
        refine sj_iconstv C (0) 101 rfl dL_handOf_100 rfl ?_
        refine sj_goto C 111 rfl dL_handOf_101 ?_
        refine sj_istore_8 C 113 rfl dL_handOf_111 rfl rfl ?_
        refine sj_iload C 115 rfl dL_handOf_113 rfl ?_
        refine sj_iload C 117 rfl dL_handOf_115 rfl ?_
        refine sj_iload C 119 rfl dL_handOf_117 rfl ?_
        refine sj_iand C 120 rfl dL_handOf_119 ?_
        have cut_129 : (((x6 &&& 0) = 0)) ∨ ((¬ (x6 &&& 0) = 0)) → sj_G X S 0 0 [some (.int (nI (i))), some (.int (w)), some (.int ((-1))), some (.int ((-1))), some (.ref rq), some (.ref rp), some (.int (x6)), some (.int (nI (t))), some (.int (0)), none] 129 [.int (0), .int (x6)] := by
          intro  h129
          refine sj_ior C 130 rfl dL_handOf_129 ?_
          refine sj_istore_6 C 132 rfl dL_handOf_130 rfl rfl ?_
          refine sj_iinc_7 C 135 rfl dL_handOf_132 rfl rfl ?_
          rw [show nI (t) + Int32.ofInt 1 = nI (t + 1) from nI_add _ _]
          refine sj_goto C 8 rfl dL_handOf_135 ?_
          refine sj_for [some (.int (nI (i))), some (.int (w)), some (.int ((-1))), some (.int ((-1))), some (.ref rq), some (.ref rp), some (.int (x6 ||| 0)), some (.int (nI (t + 1))), none, none] (show _ ∧ _ ∧ _ ∧ _ ∧ _ ∧ _ ∧ _ ∧ _ ∧ True from ⟨rfl, rfl, rfl, rfl, rfl, rfl, rfl, rfl, trivial⟩) ?_
          exact ih_8 (hy18_0) _ (by rw [sp_or0, e_x6]; rfl)
        refine sj_if_eq C 128 123 rfl rfl dL_handOf_120 (fun c_120 => ?_) (fun c_120 => ?_)
        · refine sj_iconstv C (0) 129 rfl dL_handOf_128 rfl ?_
          exact cut_129  (Or.inl c_120)
        · refine sj_iload C 125 rfl dL_handOf_123 rfl ?_
          refine sj_goto C 129 rfl dL_handOf_125 ?_
          exact cut_129  (Or.inr (c_120))
      · have hlt : k < sj_tn (m 10) := Nat.not_le.mp fun h9 => c_25 (nI_le h9 (by omega))
        refine sj_iconstv C (1) 29 rfl dL_handOf_28 rfl ?_
        refine sj_aload C 31 rfl dL_handOf_29 rfl ?_
        refine sj_iload C 33 rfl dL_handOf_31 rfl ?_
        refine sj_iald C 34 rfl dL_handOf_33 kd_rp (sp_vp il_rp (by omega) (by omega)) ?_
        rw [nI_clamp (by omega)]
        rw [hp k hlt]
        refine sj_bipush C (15) 36 rfl dL_handOf_34 (by decide) ?_
        refine sj_iand C 37 rfl dL_handOf_36 ?_
        rw [sp_pn_0 hI hlt]
        refine sj_ishl C 38 rfl dL_handOf_37 ?_
        refine sj_iconstv C (1) 39 rfl dL_handOf_38 rfl ?_
        refine sj_aload C 41 rfl dL_handOf_39 rfl ?_
        refine sj_iload C 43 rfl dL_handOf_41 rfl ?_
        refine sj_iald C 44 rfl dL_handOf_43 kd_rp (sp_vp il_rp (by omega) (by omega)) ?_
        rw [nI_clamp (by omega)]
        rw [hp k hlt]
        refine sj_iconstv C (4) 45 rfl dL_handOf_44 rfl ?_
        refine sj_ishr C 46 rfl dL_handOf_45 ?_
        refine sj_bipush C (15) 48 rfl dL_handOf_46 (by decide) ?_
        refine sj_iand C 49 rfl dL_handOf_48 ?_
        rw [sp_pn_1 hI hlt]
        refine sj_ishl C 50 rfl dL_handOf_49 ?_
        refine sj_ior C 51 rfl dL_handOf_50 ?_
        refine sj_istore_9 C 53 rfl dL_handOf_51 rfl rfl ?_
        refine sj_iload C 55 rfl dL_handOf_53 rfl ?_
        refine sj_iload C 57 rfl dL_handOf_55 rfl ?_
        refine sj_iload_n C 58 rfl dL_handOf_57 rfl rfl ?_
        have cut_87 : ∀ j87 : Int32, (((nI (k) = w) ∧ j87 = 0) ∨ ((¬ nI (k) = w) ∧ (¬ (sj_oa m k 2) = 1) ∧ j87 = 0) ∨ ((¬ nI (k) = w) ∧ ((sj_oa m k 2) = 1) ∧ ((x6 &&& (((1 : Int32) <<< (nI (sj_tn (sj_oa m k 0)) &&& 31)) ||| ((1 : Int32) <<< (nI (sj_tn (sj_oa m k 1)) &&& 31)))) = 0) ∧ j87 = 0) ∨ ((¬ nI (k) = w) ∧ ((sj_oa m k 2) = 1) ∧ (¬ (x6 &&& (((1 : Int32) <<< (nI (sj_tn (sj_oa m k 0)) &&& 31)) ||| ((1 : Int32) <<< (nI (sj_tn (sj_oa m k 1)) &&& 31)))) = 0) ∧ j87 = ((1 : Int32) <<< (nI (sj_tn (sj_oa m k 0)) &&& 31)) ||| ((1 : Int32) <<< (nI (sj_tn (sj_oa m k 1)) &&& 31)))) → sj_G X S 0 0 [some (.int (nI (i))), some (.int (w)), some (.int ((-1))), some (.int ((-1))), some (.ref rq), some (.ref rp), some (.int (x6)), some (.int (nI (t))), some (.int (nI (k))), some (.int (((1 : Int32) <<< (nI (sj_tn (sj_oa m k 0)) &&& 31)) ||| ((1 : Int32) <<< (nI (sj_tn (sj_oa m k 1)) &&& 31))))] 87 [.int (j87), .int (x6)] := by
          intro j87 h87
          refine sj_ior C 88 rfl dL_handOf_87 ?_
          refine sj_istore_6 C 90 rfl dL_handOf_88 rfl rfl ?_
          refine sj_iinc_8 C 93 rfl dL_handOf_90 rfl rfl ?_
          rw [show nI (k) + Int32.ofInt 1 = nI (k + 1) from nI_add _ _]
          refine sj_goto C 18 rfl dL_handOf_93 ?_
          refine sj_for [some (.int (nI (i))), some (.int (w)), some (.int ((-1))), some (.int ((-1))), some (.ref rq), some (.ref rp), some (.int (x6 ||| j87)), some (.int (nI (t))), some (.int (nI (k + 1))), none] (show _ ∧ _ ∧ _ ∧ _ ∧ _ ∧ _ ∧ _ ∧ _ ∧ _ ∧ True from ⟨rfl, rfl, rfl, rfl, rfl, rfl, rfl, rfl, rfl, trivial⟩) ?_
          exact ih_18 (hlt) _ (sp_sN_j hI (sp_it_lt (fun M hM => sq_sN_lt hv w hM _ (Nat.le_refl _)) h2i t) hlt e_x6 h87) (hy18_0)
        refine sj_icmp_eq C 86 61 rfl rfl dL_handOf_58 (fun c_58 => ?_) (fun c_58 => ?_)
        · refine sj_iconstv C (0) 87 rfl dL_handOf_86 rfl ?_
          exact cut_87 _  (Or.inl ⟨c_58, rfl⟩)
        · refine sj_aload C 63 rfl dL_handOf_61 rfl ?_
          refine sj_iload C 65 rfl dL_handOf_63 rfl ?_
          refine sj_iald C 66 rfl dL_handOf_65 kd_rp (sp_vp il_rp (by omega) (by omega)) ?_
          rw [nI_clamp (by omega)]
          rw [hp k hlt]
          refine sj_bipush C (8) 68 rfl dL_handOf_66 (by decide) ?_
          refine sj_ishr C 69 rfl dL_handOf_68 ?_
          rw [sp_pn_2 hI hlt]
          refine sj_iconstv C (1) 70 rfl dL_handOf_69 rfl ?_
          refine sj_icmp_ne C 86 73 rfl rfl dL_handOf_70 (fun c_70 => ?_) (fun c_70 => ?_)
          · refine sj_iconstv C (0) 87 rfl dL_handOf_86 rfl ?_
            exact cut_87 _  (Or.inr (Or.inl ⟨c_58, c_70, rfl⟩))
          · refine sj_iload C 75 rfl dL_handOf_73 rfl ?_
            refine sj_iload C 77 rfl dL_handOf_75 rfl ?_
            refine sj_iand C 78 rfl dL_handOf_77 ?_
            refine sj_if_eq C 86 81 rfl rfl dL_handOf_78 (fun c_78 => ?_) (fun c_78 => ?_)
            · refine sj_iconstv C (0) 87 rfl dL_handOf_86 rfl ?_
              exact cut_87 _  (Or.inr (Or.inr (Or.inl ⟨c_58, c_70, c_78, rfl⟩)))
            · refine sj_iload C 83 rfl dL_handOf_81 rfl ?_
              refine sj_goto C 87 rfl dL_handOf_83 ?_
              exact cut_87 _  (Or.inr (Or.inr (Or.inr (⟨c_58, c_70, c_78, rfl⟩))))
    refine sj_iload C 10 rfl dL_handOf_8 rfl ?_
    refine sj_bipush C (8) 12 rfl dL_handOf_10 (by decide) ?_
    refine sj_icmp_ge C 138 15 rfl rfl dL_handOf_12 (fun c_12 => ?_) (fun c_12 => ?_)
    · have htn : t = 8 := by
        have h99 : ¬ t < 8 := fun h9 => nI_ge h9 (by omega) c_12
        omega
      subst htn
      refine sj_iload C 140 rfl dL_handOf_138 rfl ?_
      refine sj_iret C hR rfl rfl dL_handOf_140 ?_
      refine ⟨congrArg (fun z => some (Value.int z)) ?_, rfl⟩
      rw [e_y6, sp_it_lN]
      rfl
    · have hltt : t < 8 := Nat.not_le.mp fun h9 => c_12 (nI_le (a := 8) h9 (by omega))
      refine sj_iconstv C (0) 16 rfl dL_handOf_15 rfl ?_
      refine sj_istore_8 C 18 rfl dL_handOf_16 rfl rfl ?_
      exact cut_18 _ (e_y6) (hltt)
  refine sj_iconstv C (1) 1 rfl dL_handOf_0 rfl ?_
  refine sj_iload_n C 2 rfl dL_handOf_1 rfl rfl ?_
  refine sj_ishl C 3 rfl dL_handOf_2 ?_
  refine sj_istore_6 C 5 rfl dL_handOf_3 rfl rfl ?_
  refine sj_iconstv C (0) 6 rfl dL_handOf_5 rfl ?_
  refine sj_istore_7 C 8 rfl dL_handOf_6 rfl rfl ?_
  exact cut_8 _ (sj_mk_bit i (by omega))
set_option maxRecDepth 100000 in
set_option maxHeartbeats 600000 in
theorem ct_L_handOfX (l : Launch) {S : sj_St} {rq ra rn rt rp : Nat} {m : Nat → Int32} (h : sp_B S rq ra rn rt rp m) (hI : sj_inv m) {i a b : Nat} (hi : i < sj_tn (m 9)) (ha : a < 8) (hb : b < 8) : sj_Ctr l mL_handOf [.int (nI (i)), .int ((-1)), .int (nI (a)), .int (nI (b)), .ref rq, .ref rp] S (sj_eq (some (.int (nI (sp_hd (sj_sw m a b true) (-1) i)))) S) := by
  refine sj_start ([some (.int (nI (i))), some (.int ((-1))), some (.int (nI (a))), some (.int (nI (b))), some (.ref rq), some (.ref rp), none, none, none, none]) (by decide +kernel) rfl rfl (fun X hX C hR => ?_)
  subst hX
  obtain ⟨⟨kd_rq, il_rq⟩, ⟨kd_ra, il_ra⟩, ⟨kd_rn, il_rn⟩, ⟨kd_rt, il_rt⟩, ⟨kd_rp, il_rp⟩, hq, hs, hp⟩ := id h
  obtain ⟨h9, hn8⟩ := id hI.1
  obtain ⟨h10, hN28⟩ := id hI.2.1
  have hv := sj_inv_oav hI
  have h2i : 2 ^ i < 256 := Nat.pow_lt_pow_right (n := 8) (by omega) (by omega)
  have cut_8 : ∀ y6 : Int32, (y6 = nI (sp_it (sp_rx m a b) 0 (2 ^ i))) → sj_G X S 0 0 [some (.int (nI (i))), some (.int ((-1))), some (.int (nI (a))), some (.int (nI (b))), some (.ref rq), some (.ref rp), some (.int (y6)), some (.int (nI (0))), none, none] 8 [] := by
    refine sj_down (fun t => ∀ y6 : Int32, (y6 = nI (sp_it (sp_rx m a b) t (2 ^ i))) → sj_G X S 0 0 [some (.int (nI (i))), some (.int ((-1))), some (.int (nI (a))), some (.int (nI (b))), some (.ref rq), some (.ref rp), some (.int (y6)), some (.int (nI (t))), none, none] 8 []) 8 (fun t ht ih_8 => ?_)
    intro y6 e_y6
    have cut_18 : ∀ x6 : Int32, (x6 = nI (sq_sN m (-1) (sp_it (sp_rx m a b) t (2 ^ i)) 0)) → (t < 8) → sj_G X S 0 0 [some (.int (nI (i))), some (.int ((-1))), some (.int (nI (a))), some (.int (nI (b))), some (.ref rq), some (.ref rp), some (.int (x6)), some (.int (nI (t))), some (.int (nI (0))), none] 18 [] := by
      refine sj_down (fun k => ∀ x6 : Int32, (x6 = nI (sq_sN m (-1) (sp_it (sp_rx m a b) t (2 ^ i)) k)) → (t < 8) → sj_G X S 0 0 [some (.int (nI (i))), some (.int ((-1))), some (.int (nI (a))), some (.int (nI (b))), some (.ref rq), some (.ref rp), some (.int (x6)), some (.int (nI (t))), some (.int (nI (k))), none] 18 []) (sj_tn (m 10)) (fun k hk ih_18 => ?_)
      intro x6 e_x6 hy18_0
      refine sj_iload C 20 rfl dL_handOf_18 rfl ?_
      refine sj_aload C 22 rfl dL_handOf_20 rfl ?_
      refine sj_bipush C (10) 24 rfl dL_handOf_22 (by decide) ?_
      refine sj_iald C 25 rfl dL_handOf_24 kd_rq (sp_vp (i := 10) il_rq (by omega) (by omega)) ?_
      rw [show Int32.toNatClampNeg 10 = 10 from rfl]
      rw [hq 10 (by omega)]
      rw [h10]
      refine sj_icmp_ge C 96 28 rfl rfl dL_handOf_25 (fun c_25 => ?_) (fun c_25 => ?_)
      · have hkn : k = sj_tn (m 10) := by
          have h99 : ¬ k < sj_tn (m 10) := fun h9 => nI_ge h9 (by omega) c_25
          omega
        subst hkn
        refine sj_iload_n C 97 rfl dL_handOf_96 rfl rfl ?_
        refine sj_if_ge C 104 100 rfl rfl dL_handOf_97 (fun c_97 => ?_) (fun c_97 => absurd (nI_pos' (by omega)) c_97)
        refine sj_iconstv C (1) 105 rfl dL_handOf_104 rfl ?_
        refine sj_iload_n C 106 rfl dL_handOf_105 rfl rfl ?_
        refine sj_ishl C 107 rfl dL_handOf_106 ?_
        refine sj_iconstv C (1) 108 rfl dL_handOf_107 rfl ?_
        refine sj_iload_n C 109 rfl dL_handOf_108 rfl rfl ?_
        refine sj_ishl C 110 rfl dL_handOf_109 ?_
        refine sj_ior C 111 rfl dL_handOf_110 ?_
        refine sj_istore_8 C 113 rfl dL_handOf_111 rfl rfl ?_
        refine sj_iload C 115 rfl dL_handOf_113 rfl ?_
        refine sj_iload C 117 rfl dL_handOf_115 rfl ?_
        refine sj_iload C 119 rfl dL_handOf_117 rfl ?_
        refine sj_iand C 120 rfl dL_handOf_119 ?_
        have cut_129 : ∀ j129 : Int32, (j129 = if (x6 &&& (((1 : Int32) <<< (nI (a) &&& 31)) ||| ((1 : Int32) <<< (nI (b) &&& 31)))) = 0 then 0 else ((1 : Int32) <<< (nI (a) &&& 31)) ||| ((1 : Int32) <<< (nI (b) &&& 31))) → sj_G X S 0 0 [some (.int (nI (i))), some (.int ((-1))), some (.int (nI (a))), some (.int (nI (b))), some (.ref rq), some (.ref rp), some (.int (x6)), some (.int (nI (t))), some (.int (((1 : Int32) <<< (nI (a) &&& 31)) ||| ((1 : Int32) <<< (nI (b) &&& 31)))), none] 129 [.int (j129), .int (x6)] := by
          intro j129 h129
          refine sj_ior C 130 rfl dL_handOf_129 ?_
          refine sj_istore_6 C 132 rfl dL_handOf_130 rfl rfl ?_
          refine sj_iinc_7 C 135 rfl dL_handOf_132 rfl rfl ?_
          rw [show nI (t) + Int32.ofInt 1 = nI (t + 1) from nI_add _ _]
          refine sj_goto C 8 rfl dL_handOf_135 ?_
          refine sj_for [some (.int (nI (i))), some (.int ((-1))), some (.int (nI (a))), some (.int (nI (b))), some (.ref rq), some (.ref rp), some (.int (x6 ||| j129)), some (.int (nI (t + 1))), none, none] (show _ ∧ _ ∧ _ ∧ _ ∧ _ ∧ _ ∧ _ ∧ _ ∧ True from ⟨rfl, rfl, rfl, rfl, rfl, rfl, rfl, rfl, trivial⟩) ?_
          exact ih_8 (hy18_0) _ (sp_rx_j hv ha hb (sp_it_lt (fun M hM => sp_rx_lt hv ha hb hM) h2i t) e_x6 h129)
        refine sj_if_eq C 128 123 rfl rfl dL_handOf_120 (fun c_120 => ?_) (fun c_120 => ?_)
        · refine sj_iconstv C (0) 129 rfl dL_handOf_128 rfl ?_
          exact cut_129 _  ((if_pos c_120).symm)
        · refine sj_iload C 125 rfl dL_handOf_123 rfl ?_
          refine sj_goto C 129 rfl dL_handOf_125 ?_
          exact cut_129 _  ((if_neg c_120).symm)
      · have hlt : k < sj_tn (m 10) := Nat.not_le.mp fun h9 => c_25 (nI_le h9 (by omega))
        refine sj_iconstv C (1) 29 rfl dL_handOf_28 rfl ?_
        refine sj_aload C 31 rfl dL_handOf_29 rfl ?_
        refine sj_iload C 33 rfl dL_handOf_31 rfl ?_
        refine sj_iald C 34 rfl dL_handOf_33 kd_rp (sp_vp il_rp (by omega) (by omega)) ?_
        rw [nI_clamp (by omega)]
        rw [hp k hlt]
        refine sj_bipush C (15) 36 rfl dL_handOf_34 (by decide) ?_
        refine sj_iand C 37 rfl dL_handOf_36 ?_
        rw [sp_pn_0 hI hlt]
        refine sj_ishl C 38 rfl dL_handOf_37 ?_
        refine sj_iconstv C (1) 39 rfl dL_handOf_38 rfl ?_
        refine sj_aload C 41 rfl dL_handOf_39 rfl ?_
        refine sj_iload C 43 rfl dL_handOf_41 rfl ?_
        refine sj_iald C 44 rfl dL_handOf_43 kd_rp (sp_vp il_rp (by omega) (by omega)) ?_
        rw [nI_clamp (by omega)]
        rw [hp k hlt]
        refine sj_iconstv C (4) 45 rfl dL_handOf_44 rfl ?_
        refine sj_ishr C 46 rfl dL_handOf_45 ?_
        refine sj_bipush C (15) 48 rfl dL_handOf_46 (by decide) ?_
        refine sj_iand C 49 rfl dL_handOf_48 ?_
        rw [sp_pn_1 hI hlt]
        refine sj_ishl C 50 rfl dL_handOf_49 ?_
        refine sj_ior C 51 rfl dL_handOf_50 ?_
        refine sj_istore_9 C 53 rfl dL_handOf_51 rfl rfl ?_
        refine sj_iload C 55 rfl dL_handOf_53 rfl ?_
        refine sj_iload C 57 rfl dL_handOf_55 rfl ?_
        refine sj_iload_n C 58 rfl dL_handOf_57 rfl rfl ?_
        have cut_87 : ∀ j87 : Int32, (((nI (k) = (-1)) ∧ j87 = 0) ∨ ((¬ nI (k) = (-1)) ∧ (¬ (sj_oa m k 2) = 1) ∧ j87 = 0) ∨ ((¬ nI (k) = (-1)) ∧ ((sj_oa m k 2) = 1) ∧ ((x6 &&& (((1 : Int32) <<< (nI (sj_tn (sj_oa m k 0)) &&& 31)) ||| ((1 : Int32) <<< (nI (sj_tn (sj_oa m k 1)) &&& 31)))) = 0) ∧ j87 = 0) ∨ ((¬ nI (k) = (-1)) ∧ ((sj_oa m k 2) = 1) ∧ (¬ (x6 &&& (((1 : Int32) <<< (nI (sj_tn (sj_oa m k 0)) &&& 31)) ||| ((1 : Int32) <<< (nI (sj_tn (sj_oa m k 1)) &&& 31)))) = 0) ∧ j87 = ((1 : Int32) <<< (nI (sj_tn (sj_oa m k 0)) &&& 31)) ||| ((1 : Int32) <<< (nI (sj_tn (sj_oa m k 1)) &&& 31)))) → sj_G X S 0 0 [some (.int (nI (i))), some (.int ((-1))), some (.int (nI (a))), some (.int (nI (b))), some (.ref rq), some (.ref rp), some (.int (x6)), some (.int (nI (t))), some (.int (nI (k))), some (.int (((1 : Int32) <<< (nI (sj_tn (sj_oa m k 0)) &&& 31)) ||| ((1 : Int32) <<< (nI (sj_tn (sj_oa m k 1)) &&& 31))))] 87 [.int (j87), .int (x6)] := by
          intro j87 h87
          refine sj_ior C 88 rfl dL_handOf_87 ?_
          refine sj_istore_6 C 90 rfl dL_handOf_88 rfl rfl ?_
          refine sj_iinc_8 C 93 rfl dL_handOf_90 rfl rfl ?_
          rw [show nI (k) + Int32.ofInt 1 = nI (k + 1) from nI_add _ _]
          refine sj_goto C 18 rfl dL_handOf_93 ?_
          refine sj_for [some (.int (nI (i))), some (.int ((-1))), some (.int (nI (a))), some (.int (nI (b))), some (.ref rq), some (.ref rp), some (.int (x6 ||| j87)), some (.int (nI (t))), some (.int (nI (k + 1))), none] (show _ ∧ _ ∧ _ ∧ _ ∧ _ ∧ _ ∧ _ ∧ _ ∧ _ ∧ True from ⟨rfl, rfl, rfl, rfl, rfl, rfl, rfl, rfl, rfl, trivial⟩) ?_
          exact ih_18 (hlt) _ (sp_sN_j hI (sp_it_lt (fun M hM => sp_rx_lt hv ha hb hM) h2i t) hlt e_x6 h87) (hy18_0)
        refine sj_icmp_eq C 86 61 rfl rfl dL_handOf_58 (fun c_58 => ?_) (fun c_58 => ?_)
        · refine sj_iconstv C (0) 87 rfl dL_handOf_86 rfl ?_
          exact cut_87 _  (Or.inl ⟨c_58, rfl⟩)
        · refine sj_aload C 63 rfl dL_handOf_61 rfl ?_
          refine sj_iload C 65 rfl dL_handOf_63 rfl ?_
          refine sj_iald C 66 rfl dL_handOf_65 kd_rp (sp_vp il_rp (by omega) (by omega)) ?_
          rw [nI_clamp (by omega)]
          rw [hp k hlt]
          refine sj_bipush C (8) 68 rfl dL_handOf_66 (by decide) ?_
          refine sj_ishr C 69 rfl dL_handOf_68 ?_
          rw [sp_pn_2 hI hlt]
          refine sj_iconstv C (1) 70 rfl dL_handOf_69 rfl ?_
          refine sj_icmp_ne C 86 73 rfl rfl dL_handOf_70 (fun c_70 => ?_) (fun c_70 => ?_)
          · refine sj_iconstv C (0) 87 rfl dL_handOf_86 rfl ?_
            exact cut_87 _  (Or.inr (Or.inl ⟨c_58, c_70, rfl⟩))
          · refine sj_iload C 75 rfl dL_handOf_73 rfl ?_
            refine sj_iload C 77 rfl dL_handOf_75 rfl ?_
            refine sj_iand C 78 rfl dL_handOf_77 ?_
            refine sj_if_eq C 86 81 rfl rfl dL_handOf_78 (fun c_78 => ?_) (fun c_78 => ?_)
            · refine sj_iconstv C (0) 87 rfl dL_handOf_86 rfl ?_
              exact cut_87 _  (Or.inr (Or.inr (Or.inl ⟨c_58, c_70, c_78, rfl⟩)))
            · refine sj_iload C 83 rfl dL_handOf_81 rfl ?_
              refine sj_goto C 87 rfl dL_handOf_83 ?_
              exact cut_87 _  (Or.inr (Or.inr (Or.inr (⟨c_58, c_70, c_78, rfl⟩))))
    refine sj_iload C 10 rfl dL_handOf_8 rfl ?_
    refine sj_bipush C (8) 12 rfl dL_handOf_10 (by decide) ?_
    refine sj_icmp_ge C 138 15 rfl rfl dL_handOf_12 (fun c_12 => ?_) (fun c_12 => ?_)
    · have htn : t = 8 := by
        have h99 : ¬ t < 8 := fun h9 => nI_ge h9 (by omega) c_12
        omega
      subst htn
      refine sj_iload C 140 rfl dL_handOf_138 rfl ?_
      refine sj_iret C hR rfl rfl dL_handOf_140 ?_
      refine ⟨congrArg (fun z => some (Value.int z)) ?_, rfl⟩
      rw [e_y6, show sp_rx m a b = fun M => sq_sN (sj_sw m a b true) (-1) M (sj_tn (sj_sw m a b true 10)) from funext (sp_rx_sw hI ha hb), sp_it_lN]
      rfl
    · have hltt : t < 8 := Nat.not_le.mp fun h9 => c_12 (nI_le (a := 8) h9 (by omega))
      refine sj_iconstv C (0) 16 rfl dL_handOf_15 rfl ?_
      refine sj_istore_8 C 18 rfl dL_handOf_16 rfl rfl ?_
      exact cut_18 _ (e_y6) (hltt)
  refine sj_iconstv C (1) 1 rfl dL_handOf_0 rfl ?_
  refine sj_iload_n C 2 rfl dL_handOf_1 rfl rfl ?_
  refine sj_ishl C 3 rfl dL_handOf_2 ?_
  refine sj_istore_6 C 5 rfl dL_handOf_3 rfl rfl ?_
  refine sj_iconstv C (0) 6 rfl dL_handOf_5 rfl ?_
  refine sj_istore_7 C 8 rfl dL_handOf_6 rfl rfl ?_
  exact cut_8 _ (sj_mk_bit i (by omega))
