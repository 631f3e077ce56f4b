/-! THE REFERENCE: the digest -/
def sj_x1 (v : Int64) (x : Int32) : Int64 := 31 * v + x.toInt64
def sj_mxl (v : Int64) (f : Nat → Int32) : Nat → Int64
  | 0 => v
  | k + 1 => sj_x1 (sj_mxl v f k) (f k)
def sj_mpr (m : Nat → Int32) (i : Nat) (v : Int64) (o : Nat) : Int64 := sj_x1 (sj_x1 (sj_mxl v (sj_cps m i o) 5) (sj_why m i o true)) (sj_why m i o false)
def sj_mps (m : Nat → Int32) (i : Nat) (v : Int64) : Nat → Int64
  | 0 => v
  | k + 1 => sj_mpr m i (sj_mps m i v k) k
def sj_mxa (m : Nat → Int32) (i : Nat) (v : Int64) : Int64 := sj_mxl v (sj_ts m i) 7
def sj_mxb (m : Nat → Int32) (i : Nat) (v : Int64) : Int64 := sj_mxl v (fun k => sj_tst m i (k / 5) (k % 5)) (5 * sj_ns m i)
def sj_mxc (m : Nat → Int32) (i : Nat) (v : Int64) : Int64 := sj_mxl v (fun j => sj_mk m i j + 1000) 6
/-- a sheet -/
def sj_mxs (m : Nat → Int32) (i : Nat) (v : Int64) : Int64 := sj_mps m i (sj_x1 (sj_mxc m i (sj_mxb m i (sj_mxa m i v))) (sj_on (sj_mal m i (sj_tn (m 9))))) (sj_tn (m 9))
def sj_mxn (m : Nat → Int32) (v : Int64) : Nat → Int64
  | 0 => v
  | k + 1 => sj_mxs m k (sj_mxn m v k)
def sj_dg1 (m : Nat → Int32) (q : Int32) : Int64 := sj_mxn m (sj_mxl 3919 (sj_tc m q) 18) (sj_tn (m 9))
def sj_dg2 (m : Nat → Int32) (q : Int32) : Int64 := sj_mxl (sj_dg1 m q) (fun k => sj_tlo m (k / 4) (k % 4)) (4 * sj_tn (m 10))
def sj_dg3 (m : Nat → Int32) (q : Int32) : Int64 := 31 * sj_x1 (sj_x1 (sj_dg2 m q) (m 12)) (m 13) + (sj_shr m).toInt64
/-- the digest of a state, q saved ones, and a buffer -/
def sj_dig (m : Nat → Int32) (q : Int32) (B : Nat → Int32) (n : Nat) : Int64 := sj_mxl (sj_x1 (sj_dg3 m q) (nI n)) B n
def sj_dS (S : sj_St) (h : Nat) (b : Nat → Nat) (g : Nat → Int32) (v : Int64) : sj_St := sj_wFl (sj_sIa S (b 15) g) h v
theorem sj_dS_15 (S : sj_St) (h : Nat) (b : Nat → Nat) (g g' : Nat → Int32) (v : Int64) : sj_sIa (sj_dS S h b g v) (b 15) g' = sj_dS S h b g' v := by
  have e : sj_sIa (sj_dS S h b g v) (b 15) g' = sj_wFl (sj_sIa (sj_sIa S (b 15) g) (b 15) g') h v := rfl
  rw [e, sj_sIa_sIa]
  rfl
theorem sj_wFl_fl (S : sj_St) (h : Nat) (v : Int64) : sj_fl (sj_wFl S h v) h = v := sj_up_self _ _ _
theorem sj_wFl_wFl (S : sj_St) (h : Nat) (v w : Int64) : sj_wFl (sj_wFl S h v) h w = sj_wFl S h w := by
  unfold sj_wFl
  dsimp only
  rw [sj_up_up]
theorem sj_dS_mix (S : sj_St) (h : Nat) (b : Nat → Nat) (g : Nat → Int32) (v w : Int64) : sj_wFl (sj_dS S h b g v) h (31 * sj_fl (sj_dS S h b g v) h + w) = sj_dS S h b g (31 * v + w) := by
  unfold sj_dS
  rw [sj_wFl_fl, sj_wFl_wFl]
theorem sj_dS_mm {S : sj_St} {h : Nat} {b : Nat → Nat} {m : Nat → Int32} (hm : sj_mm S h b m) (g : Nat → Int32) (v : Int64) : sj_mm (sj_dS S h b g v) h b m := ⟨hm.1, (sj_ia_sIa_ne S g (sj_mo_ne hm.1 (i := 1) (j := 15) (by omega) (by omega) (by omega))).trans hm.2⟩
theorem sj_nmod {k c : Nat} (hk : k < 2 ^ 31) (hc : c < 2 ^ 31) : nI k - nI k / nI c * nI c = nI (k % c) := by
  have h1 : k / c * c ≤ k := Nat.div_mul_le_self k c
  rw [sj_ndiv hk hc, sj_nmul, sj_nsub h1]
  have h2 := Nat.div_add_mod k c
  rw [Nat.mul_comm] at h2
  exact congrArg nI (by omega)
set_option maxRecDepth 100000 in
set_option maxHeartbeats 1000000 in
theorem ct_X7_mixSheet (l : Launch) {S : sj_St} {h : Nat} {b : Nat → Nat} {m : Nat → Int32} (hm : sj_mm S h b m) (hI : sj_inv m) (i : Nat) (hi : i < sj_tn (m 9)) (g0 : Nat → Int32) (v : Int64) : sj_Ctr l mX7_mixSheet [.ref h, .int (nI i)] (sj_dS S h b g0 v) (fun r T => r = none ∧ ∃ g, T = sj_dS S h b g (sj_mxs m i v)) := by
  refine sj_start ([some (.ref h), some (.int (nI i)), none, none]) (by decide +kernel) rfl rfl (fun X hX C hR => ?_)
  subst hX
  have hm0 := hm
  obtain ⟨hm', em⟩ := hm0
  subst em
  obtain ⟨kd_h, ⟨rf_h_1, kd_a1, il_a1⟩, ⟨rf_h_2, kd_a2, il_a2⟩, ⟨rf_h_3, kd_a3, il_a3⟩, ⟨rf_h_5, kd_a5, il_a5⟩, ⟨rf_h_7, kd_a7, il_a7⟩, ⟨rf_h_13, kd_a13, il_a13⟩, ⟨rf_h_15, kd_a15, il_a15⟩, hinj⟩ := hm'
  have hv := sj_inv_oav hI
  have hs := sj_inv_shs hI
  obtain ⟨⟨h9, hn8⟩, ⟨h10, hn28⟩, hoa⟩ := id hv
  have hvi := hs i hi
  obtain ⟨hi8, hn, hn1, hns8, -⟩ := id hvi
  have hd9 : ∀ g v, sj_ia (sj_dS S h b g v) (b 1) 9 = nI (sj_tn ((sj_ia S (b 1)) 9)) := fun g v => (congrFun (sj_dS_mm hm g v).2 9).trans h9
  have cut_115 : ∀ k, k < sj_tn ((sj_ia S (b 1)) 9) → (∀ g o3, sj_G X (sj_dS S h b g (sj_mps (sj_ia S (b 1)) i (sj_x1 (sj_mxc (sj_ia S (b 1)) i (sj_mxb (sj_ia S (b 1)) i (sj_mxa (sj_ia S (b 1)) i v))) (sj_on (sj_mal (sj_ia S (b 1)) i (sj_tn ((sj_ia S (b 1)) 9))))) (k + 1))) 0 0 [some (.ref h), some (.int (nI i)), some (.int (nI (k + 1))), o3] 102 []) → ∀ g, sj_G X (sj_dS S h b g (sj_mxl (sj_mps (sj_ia S (b 1)) i (sj_x1 (sj_mxc (sj_ia S (b 1)) i (sj_mxb (sj_ia S (b 1)) i (sj_mxa (sj_ia S (b 1)) i v))) (sj_on (sj_mal (sj_ia S (b 1)) i (sj_tn ((sj_ia S (b 1)) 9))))) k) (sj_cps (sj_ia S (b 1)) i k) 0)) 0 0 [some (.ref h), some (.int (nI i)), some (.int (nI k)), some (.int (nI 0))] 115 [] := by
    intro k hlt hnext
    refine sj_down (fun e => ∀ g, sj_G X (sj_dS S h b g (sj_mxl (sj_mps (sj_ia S (b 1)) i (sj_x1 (sj_mxc (sj_ia S (b 1)) i (sj_mxb (sj_ia S (b 1)) i (sj_mxa (sj_ia S (b 1)) i v))) (sj_on (sj_mal (sj_ia S (b 1)) i (sj_tn ((sj_ia S (b 1)) 9))))) k) (sj_cps (sj_ia S (b 1)) i k) e)) 0 0 [some (.ref h), some (.int (nI i)), some (.int (nI k)), some (.int (nI e))] 115 []) 5 (fun e hke ihe => ?_)
    intro g
    refine sj_iload_n C 116 rfl dX7_mixSheet_115 rfl rfl ?_
    refine sj_iconstv C (5) 117 rfl dX7_mixSheet_116 rfl ?_
    refine sj_icmp_ge C 138 120 rfl rfl dX7_mixSheet_117 (fun c_117 => ?_) (fun c_117 => ?_)
    · have hee : e = 5 := by
        have h8 : ¬ e < 5 := fun h7 => nI_ge (b := 5) h7 (by omega) c_117
        omega
      subst hee
      refine sj_aload_n C 139 rfl dX7_mixSheet_138 rfl rfl ?_
      refine sj_aload_n C 140 rfl dX7_mixSheet_139 rfl rfl ?_
      refine sj_iload_n C 141 rfl dX7_mixSheet_140 rfl rfl ?_
      refine sj_iload_n C 142 rfl dX7_mixSheet_141 rfl rfl ?_
      refine sj_iconstv C (1) 143 rfl dX7_mixSheet_142 rfl ?_
      refine sj_callVp C 146 rfl dX7_mixSheet_143 cv_X7_154 rfl (ct_X7_whyNotSworn _ (sj_dS_mm hm g _) hv i k hvi (hs k hlt) true) rfl rfl rfl ⟨_, _, kd_h, rfl, rfl, by decide⟩ ⟨rfl, rfl⟩ (fun v_143 S_143 hp_143 => ?_)
      obtain ⟨rfl, g_143, rfl⟩ := hp_143
      rw [sj_dS_15]
      refine sj_i2l C 147 rfl dX7_mixSheet_146 ?_
      refine sj_callVv C 150 rfl dX7_mixSheet_147 cv_X7_264 rfl (ct_X7_mix _ (sj_dS_mm hm _ _) _) rfl rfl rfl ⟨_, _, kd_h, rfl, rfl, by decide⟩ ⟨rfl, rfl⟩ ?_
      rw [sj_dS_mix, show 31 * (sj_mxl (sj_mps (sj_ia S (b 1)) i (sj_x1 (sj_mxc (sj_ia S (b 1)) i (sj_mxb (sj_ia S (b 1)) i (sj_mxa (sj_ia S (b 1)) i v))) (sj_on (sj_mal (sj_ia S (b 1)) i (sj_tn ((sj_ia S (b 1)) 9))))) k) (sj_cps (sj_ia S (b 1)) i k) 5) + (sj_why (sj_ia S (b 1)) i k true).toInt64 = sj_x1 (sj_mxl (sj_mps (sj_ia S (b 1)) i (sj_x1 (sj_mxc (sj_ia S (b 1)) i (sj_mxb (sj_ia S (b 1)) i (sj_mxa (sj_ia S (b 1)) i v))) (sj_on (sj_mal (sj_ia S (b 1)) i (sj_tn ((sj_ia S (b 1)) 9))))) k) (sj_cps (sj_ia S (b 1)) i k) 5) (sj_why (sj_ia S (b 1)) i k true) from rfl]
      refine sj_aload_n C 151 rfl dX7_mixSheet_150 rfl rfl ?_
      refine sj_aload_n C 152 rfl dX7_mixSheet_151 rfl rfl ?_
      refine sj_iload_n C 153 rfl dX7_mixSheet_152 rfl rfl ?_
      refine sj_iload_n C 154 rfl dX7_mixSheet_153 rfl rfl ?_
      refine sj_iconstv C (0) 155 rfl dX7_mixSheet_154 rfl ?_
      refine sj_callVp C 158 rfl dX7_mixSheet_155 cv_X7_154 rfl (ct_X7_whyNotSworn _ (sj_dS_mm hm _ _) hv i k hvi (hs k hlt) false) rfl rfl rfl ⟨_, _, kd_h, rfl, rfl, by decide⟩ ⟨rfl, rfl⟩ (fun v_155 S_155 hp_155 => ?_)
      obtain ⟨rfl, g_155, rfl⟩ := hp_155
      rw [sj_dS_15]
      refine sj_i2l C 159 rfl dX7_mixSheet_158 ?_
      refine sj_callVv C 162 rfl dX7_mixSheet_159 cv_X7_264 rfl (ct_X7_mix _ (sj_dS_mm hm _ _) _) rfl rfl rfl ⟨_, _, kd_h, rfl, rfl, by decide⟩ ⟨rfl, rfl⟩ ?_
      rw [sj_dS_mix, show 31 * (sj_x1 (sj_mxl (sj_mps (sj_ia S (b 1)) i (sj_x1 (sj_mxc (sj_ia S (b 1)) i (sj_mxb (sj_ia S (b 1)) i (sj_mxa (sj_ia S (b 1)) i v))) (sj_on (sj_mal (sj_ia S (b 1)) i (sj_tn ((sj_ia S (b 1)) 9))))) k) (sj_cps (sj_ia S (b 1)) i k) 5) (sj_why (sj_ia S (b 1)) i k true)) + (sj_why (sj_ia S (b 1)) i k false).toInt64 = sj_x1 (sj_x1 (sj_mxl (sj_mps (sj_ia S (b 1)) i (sj_x1 (sj_mxc (sj_ia S (b 1)) i (sj_mxb (sj_ia S (b 1)) i (sj_mxa (sj_ia S (b 1)) i v))) (sj_on (sj_mal (sj_ia S (b 1)) i (sj_tn ((sj_ia S (b 1)) 9))))) k) (sj_cps (sj_ia S (b 1)) i k) 5) (sj_why (sj_ia S (b 1)) i k true)) (sj_why (sj_ia S (b 1)) i k false) from rfl]
      refine sj_iinc_2 C 165 rfl dX7_mixSheet_162 rfl rfl ?_
      refine sj_goto C 102 rfl dX7_mixSheet_165 ?_
      rw [sj_n1]
      exact hnext _ _
    · have hle : e < 5 := Nat.not_le.mp fun h8 => c_117 (nI_le (a := 5) h8 (by omega))
      refine sj_aload_n C 121 rfl dX7_mixSheet_120 rfl rfl ?_
      refine sj_aload_n C 122 rfl dX7_mixSheet_121 rfl rfl ?_
      refine sj_iload_n C 123 rfl dX7_mixSheet_122 rfl rfl ?_
      refine sj_iload_n C 124 rfl dX7_mixSheet_123 rfl rfl ?_
      refine sj_iload_n C 125 rfl dX7_mixSheet_124 rfl rfl ?_
      refine sj_callVp C 128 rfl dX7_mixSheet_125 cv_X7_215 rfl (ct_X7_compares _ (sj_dS_mm hm g _) hv i k e hvi (hs k hlt) hle) rfl rfl rfl ⟨_, _, kd_h, rfl, rfl, by decide⟩ ⟨rfl, rfl⟩ (fun v_125 S_125 hp_125 => ?_)
      obtain ⟨rfl, g_125, rfl⟩ := hp_125
      rw [sj_dS_15]
      refine sj_i2l C 129 rfl dX7_mixSheet_128 ?_
      refine sj_callVv C 132 rfl dX7_mixSheet_129 cv_X7_264 rfl (ct_X7_mix _ (sj_dS_mm hm _ _) _) rfl rfl rfl ⟨_, _, kd_h, rfl, rfl, by decide⟩ ⟨rfl, rfl⟩ ?_
      rw [sj_dS_mix, show 31 * (sj_mxl (sj_mps (sj_ia S (b 1)) i (sj_x1 (sj_mxc (sj_ia S (b 1)) i (sj_mxb (sj_ia S (b 1)) i (sj_mxa (sj_ia S (b 1)) i v))) (sj_on (sj_mal (sj_ia S (b 1)) i (sj_tn ((sj_ia S (b 1)) 9))))) k) (sj_cps (sj_ia S (b 1)) i k) e) + ((sj_cps (sj_ia S (b 1)) i k) e).toInt64 = sj_x1 (sj_mxl (sj_mps (sj_ia S (b 1)) i (sj_x1 (sj_mxc (sj_ia S (b 1)) i (sj_mxb (sj_ia S (b 1)) i (sj_mxa (sj_ia S (b 1)) i v))) (sj_on (sj_mal (sj_ia S (b 1)) i (sj_tn ((sj_ia S (b 1)) 9))))) k) (sj_cps (sj_ia S (b 1)) i k) e) ((sj_cps (sj_ia S (b 1)) i k) e) from rfl]
      refine sj_iinc_3 C 135 rfl dX7_mixSheet_132 rfl rfl ?_
      refine sj_goto C 115 rfl dX7_mixSheet_135 ?_
      rw [sj_n1]
      exact ihe (by omega) _
  have cut_102 : ∀ g o3, sj_G X (sj_dS S h b g (sj_mps (sj_ia S (b 1)) i (sj_x1 (sj_mxc (sj_ia S (b 1)) i (sj_mxb (sj_ia S (b 1)) i (sj_mxa (sj_ia S (b 1)) i v))) (sj_on (sj_mal (sj_ia S (b 1)) i (sj_tn ((sj_ia S (b 1)) 9))))) 0)) 0 0 [some (.ref h), some (.int (nI i)), some (.int (nI 0)), o3] 102 [] := by
    refine sj_down (fun k => ∀ g o3, sj_G X (sj_dS S h b g (sj_mps (sj_ia S (b 1)) i (sj_x1 (sj_mxc (sj_ia S (b 1)) i (sj_mxb (sj_ia S (b 1)) i (sj_mxa (sj_ia S (b 1)) i v))) (sj_on (sj_mal (sj_ia S (b 1)) i (sj_tn ((sj_ia S (b 1)) 9))))) k)) 0 0 [some (.ref h), some (.int (nI i)), some (.int (nI k)), o3] 102 []) (sj_tn ((sj_ia S (b 1)) 9)) (fun k hk ih => ?_)
    intro g o3
    refine sj_iload_n C 103 rfl dX7_mixSheet_102 rfl rfl ?_
    refine sj_aload_n C 104 rfl dX7_mixSheet_103 rfl rfl ?_
    refine sj_getr C 107 rfl fd_X7_7 dX7_mixSheet_104 kd_h rf_h_1 ?_
    refine sj_bipush C (9) 109 rfl dX7_mixSheet_107 (by decide) ?_
    refine sj_iald C 110 rfl dX7_mixSheet_109 kd_a1 (by show vp_in (nI 9) (sj_il S (b 1)); rw [il_a1]; exact vp_in_nI (by omega) (by omega)) ?_
    rw [show Int32.toNatClampNeg (9) = 9 from rfl, hd9]
    refine sj_icmp_ge C 168 113 rfl rfl dX7_mixSheet_110 (fun c_110 => ?_) (fun c_110 => ?_)
    · have hkn : k = sj_tn ((sj_ia S (b 1)) 9) := by
        have h8 : ¬ k < sj_tn ((sj_ia S (b 1)) 9) := fun h7 => nI_ge h7 (by omega) c_110
        omega
      subst hkn
      refine sj_vret C hR rfl rfl dX7_mixSheet_168 ?_
      exact ⟨rfl, g, rfl⟩
    · have hlt : k < sj_tn ((sj_ia S (b 1)) 9) := Nat.not_le.mp fun h8 => c_110 (nI_le h8 (by omega))
      refine sj_iconstv C (0) 114 rfl dX7_mixSheet_113 rfl ?_
      refine sj_istore_n_3 C 115 rfl dX7_mixSheet_114 rfl rfl ?_
      exact cut_115 k hlt (fun g o3 => ih hlt g o3) _
  have cut_63 : ∀ g o3, sj_G X (sj_dS S h b g (sj_mxl (sj_mxb (sj_ia S (b 1)) i (sj_mxa (sj_ia S (b 1)) i v)) (fun j => sj_mk (sj_ia S (b 1)) i j + 1000) 0)) 0 0 [some (.ref h), some (.int (nI i)), some (.int (nI 0)), o3] 63 [] := by
    refine sj_down (fun k => ∀ g o3, sj_G X (sj_dS S h b g (sj_mxl (sj_mxb (sj_ia S (b 1)) i (sj_mxa (sj_ia S (b 1)) i v)) (fun j => sj_mk (sj_ia S (b 1)) i j + 1000) k)) 0 0 [some (.ref h), some (.int (nI i)), some (.int (nI k)), o3] 63 []) (6) (fun k hk ih => ?_)
    intro g o3
    refine sj_iload_n C 64 rfl dX7_mixSheet_63 rfl rfl ?_
    refine sj_bipush C (6) 66 rfl dX7_mixSheet_64 (by decide) ?_
    refine sj_icmp_ge C 90 69 rfl rfl dX7_mixSheet_66 (fun c_66 => ?_) (fun c_66 => ?_)
    · have hkn : k = 6 := by
        have h8 : ¬ k < 6 := fun h7 => nI_ge (b := 6) h7 (by omega) c_66
        omega
      subst hkn
      refine sj_aload_n C 91 rfl dX7_mixSheet_90 rfl rfl ?_
      refine sj_aload_n C 92 rfl dX7_mixSheet_91 rfl rfl ?_
      refine sj_iload_n C 93 rfl dX7_mixSheet_92 rfl rfl ?_
      refine sj_callVd C 96 rfl dX7_mixSheet_93 cv_X7_239 rfl (ct_X7_mostAlike _ (sj_dS_mm hm g _) hv hs i hi) rfl rfl rfl ⟨_, _, kd_h, rfl, rfl, by decide⟩ ⟨rfl, rfl⟩ ?_
      refine sj_i2l C 97 rfl dX7_mixSheet_96 ?_
      refine sj_callVv C 100 rfl dX7_mixSheet_97 cv_X7_264 rfl (ct_X7_mix _ (sj_dS_mm hm _ _) _) rfl rfl rfl ⟨_, _, kd_h, rfl, rfl, by decide⟩ ⟨rfl, rfl⟩ ?_
      rw [sj_dS_mix, show 31 * (sj_mxl (sj_mxb (sj_ia S (b 1)) i (sj_mxa (sj_ia S (b 1)) i v)) (fun j => sj_mk (sj_ia S (b 1)) i j + 1000) 6) + (sj_on (sj_mal (sj_ia S (b 1)) i (sj_tn ((sj_ia S (b 1)) 9)))).toInt64 = (sj_x1 (sj_mxc (sj_ia S (b 1)) i (sj_mxb (sj_ia S (b 1)) i (sj_mxa (sj_ia S (b 1)) i v))) (sj_on (sj_mal (sj_ia S (b 1)) i (sj_tn ((sj_ia S (b 1)) 9))))) from rfl]
      refine sj_iconstv C (0) 101 rfl dX7_mixSheet_100 rfl ?_
      refine sj_istore_n_2 C 102 rfl dX7_mixSheet_101 rfl rfl ?_
      exact cut_102 _ _
    · have hlt : k < 6 := Nat.not_le.mp fun h8 => c_66 (nI_le (a := 6) h8 (by omega))
      refine sj_aload_n C 70 rfl dX7_mixSheet_69 rfl rfl ?_
      refine sj_aload_n C 71 rfl dX7_mixSheet_70 rfl rfl ?_
      refine sj_iload_n C 72 rfl dX7_mixSheet_71 rfl rfl ?_
      refine sj_iload_n C 73 rfl dX7_mixSheet_72 rfl rfl ?_
      refine sj_callVd C 76 rfl dX7_mixSheet_73 cv_X7_83 rfl (ct_X7_markOf _ (sj_dS_mm hm g _) i hvi k hlt) rfl rfl rfl ⟨_, _, kd_h, rfl, rfl, by decide⟩ ⟨rfl, rfl⟩ ?_
      refine sj_sipush C (1000) 79 rfl dX7_mixSheet_76 (by decide) ?_
      refine sj_iadd C 80 rfl dX7_mixSheet_79 ?_
      refine sj_i2l C 81 rfl dX7_mixSheet_80 ?_
      refine sj_callVv C 84 rfl dX7_mixSheet_81 cv_X7_264 rfl (ct_X7_mix _ (sj_dS_mm hm _ _) _) rfl rfl rfl ⟨_, _, kd_h, rfl, rfl, by decide⟩ ⟨rfl, rfl⟩ ?_
      rw [sj_dS_mix, show 31 * (sj_mxl (sj_mxb (sj_ia S (b 1)) i (sj_mxa (sj_ia S (b 1)) i v)) (fun j => sj_mk (sj_ia S (b 1)) i j + 1000) k) + ((fun j => sj_mk (sj_ia S (b 1)) i j + 1000) k).toInt64 = sj_x1 (sj_mxl (sj_mxb (sj_ia S (b 1)) i (sj_mxa (sj_ia S (b 1)) i v)) (fun j => sj_mk (sj_ia S (b 1)) i j + 1000) k) ((fun j => sj_mk (sj_ia S (b 1)) i j + 1000) k) from rfl]
      refine sj_iinc_2 C 87 rfl dX7_mixSheet_84 rfl rfl ?_
      refine sj_goto C 63 rfl dX7_mixSheet_87 ?_
      rw [sj_n1]
      exact ih (by omega) _ _
  have cut_27 : ∀ g o3, sj_G X (sj_dS S h b g (sj_mxl (sj_mxa (sj_ia S (b 1)) i v) (fun k => sj_tst (sj_ia S (b 1)) i (k / 5) (k % 5)) 0)) 0 0 [some (.ref h), some (.int (nI i)), some (.int (nI 0)), o3] 27 [] := by
    refine sj_down (fun k => ∀ g o3, sj_G X (sj_dS S h b g (sj_mxl (sj_mxa (sj_ia S (b 1)) i v) (fun k => sj_tst (sj_ia S (b 1)) i (k / 5) (k % 5)) k)) 0 0 [some (.ref h), some (.int (nI i)), some (.int (nI k)), o3] 27 []) (5 * sj_ns (sj_ia S (b 1)) i) (fun k hk ih => ?_)
    intro g o3
    refine sj_iload_n C 28 rfl dX7_mixSheet_27 rfl rfl ?_
    refine sj_iconstv C (5) 29 rfl dX7_mixSheet_28 rfl ?_
    refine sj_aload_n C 30 rfl dX7_mixSheet_29 rfl rfl ?_
    refine sj_iload_n C 31 rfl dX7_mixSheet_30 rfl rfl ?_
    refine sj_iconstv C (1) 32 rfl dX7_mixSheet_31 rfl ?_
    refine sj_callVd C 35 rfl dX7_mixSheet_32 cv_X7_39 rfl (ct_X7_of _ (sj_dS_mm hm g _) i 1 hi8 (by omega)) rfl rfl rfl ⟨_, _, kd_h, rfl, rfl, by decide⟩ ⟨rfl, rfl⟩ ?_
    rw [hn]
    refine sj_imul C 36 rfl dX7_mixSheet_35 ?_
    rw [show (5 : Int32) * nI (sj_ns (sj_ia S (b 1)) i) = nI (5 * sj_ns (sj_ia S (b 1)) i) from sj_nmul 5 _]
    refine sj_icmp_ge C 61 39 rfl rfl dX7_mixSheet_36 (fun c_36 => ?_) (fun c_36 => ?_)
    · have hkn : k = 5 * sj_ns (sj_ia S (b 1)) i := by
        have h8 : ¬ k < 5 * sj_ns (sj_ia S (b 1)) i := fun h7 => nI_ge (b := 5 * sj_ns (sj_ia S (b 1)) i) h7 (by omega) c_36
        omega
      subst hkn
      refine sj_iconstv C (0) 62 rfl dX7_mixSheet_61 rfl ?_
      refine sj_istore_n_2 C 63 rfl dX7_mixSheet_62 rfl rfl ?_
      exact cut_63 _ _
    · have hlt : k < 5 * sj_ns (sj_ia S (b 1)) i := Nat.not_le.mp fun h8 => c_36 (nI_le (a := 5 * sj_ns (sj_ia S (b 1)) i) h8 (by omega))
      refine sj_aload_n C 40 rfl dX7_mixSheet_39 rfl rfl ?_
      refine sj_aload_n C 41 rfl dX7_mixSheet_40 rfl rfl ?_
      refine sj_iload_n C 42 rfl dX7_mixSheet_41 rfl rfl ?_
      refine sj_iload_n C 43 rfl dX7_mixSheet_42 rfl rfl ?_
      refine sj_iconstv C (5) 44 rfl dX7_mixSheet_43 rfl ?_
      refine sj_idiv C 45 rfl dX7_mixSheet_44 (by decide) ?_
      rw [show nI k / 5 = nI (k / 5) from sj_ndiv (b := 5) (by omega) (by omega)]
      refine sj_iload_n C 46 rfl dX7_mixSheet_45 rfl rfl ?_
      refine sj_iconstv C (5) 47 rfl dX7_mixSheet_46 rfl ?_
      refine sj_irem C 48 rfl dX7_mixSheet_47 (by decide) ?_
      rw [show nI k - nI k / 5 * 5 = nI (k % 5) from sj_nmod (c := 5) (by omega) (by omega)]
      refine sj_callVd C 51 rfl dX7_mixSheet_48 cv_X7_209 rfl (ct_X7_tellsStroke _ (sj_dS_mm hm g _) i hvi (k / 5) (k % 5) (by omega) (by omega)) rfl rfl rfl ⟨_, _, kd_h, rfl, rfl, by decide⟩ ⟨rfl, rfl⟩ ?_
      refine sj_i2l C 52 rfl dX7_mixSheet_51 ?_
      refine sj_callVv C 55 rfl dX7_mixSheet_52 cv_X7_264 rfl (ct_X7_mix _ (sj_dS_mm hm _ _) _) rfl rfl rfl ⟨_, _, kd_h, rfl, rfl, by decide⟩ ⟨rfl, rfl⟩ ?_
      rw [sj_dS_mix, show 31 * (sj_mxl (sj_mxa (sj_ia S (b 1)) i v) (fun k => sj_tst (sj_ia S (b 1)) i (k / 5) (k % 5)) k) + ((fun k => sj_tst (sj_ia S (b 1)) i (k / 5) (k % 5)) k).toInt64 = sj_x1 (sj_mxl (sj_mxa (sj_ia S (b 1)) i v) (fun k => sj_tst (sj_ia S (b 1)) i (k / 5) (k % 5)) k) ((fun k => sj_tst (sj_ia S (b 1)) i (k / 5) (k % 5)) k) from rfl]
      refine sj_iinc_2 C 58 rfl dX7_mixSheet_55 rfl rfl ?_
      refine sj_goto C 27 rfl dX7_mixSheet_58 ?_
      rw [sj_n1]
      exact ih (by omega) _ _
  have cut_2 : ∀ g o3, sj_G X (sj_dS S h b g (sj_mxl v (sj_ts (sj_ia S (b 1)) i) 0)) 0 0 [some (.ref h), some (.int (nI i)), some (.int (nI 0)), o3] 2 [] := by
    refine sj_down (fun k => ∀ g o3, sj_G X (sj_dS S h b g (sj_mxl v (sj_ts (sj_ia S (b 1)) i) k)) 0 0 [some (.ref h), some (.int (nI i)), some (.int (nI k)), o3] 2 []) (7) (fun k hk ih => ?_)
    intro g o3
    refine sj_iload_n C 3 rfl dX7_mixSheet_2 rfl rfl ?_
    refine sj_bipush C (7) 5 rfl dX7_mixSheet_3 (by decide) ?_
    refine sj_icmp_ge C 25 8 rfl rfl dX7_mixSheet_5 (fun c_5 => ?_) (fun c_5 => ?_)
    · have hkn : k = 7 := by
        have h8 : ¬ k < 7 := fun h7 => nI_ge (b := 7) h7 (by omega) c_5
        omega
      subst hkn
      refine sj_iconstv C (0) 26 rfl dX7_mixSheet_25 rfl ?_
      refine sj_istore_n_2 C 27 rfl dX7_mixSheet_26 rfl rfl ?_
      exact cut_27 _ _
    · have hlt : k < 7 := Nat.not_le.mp fun h8 => c_5 (nI_le (a := 7) h8 (by omega))
      refine sj_aload_n C 9 rfl dX7_mixSheet_8 rfl rfl ?_
      refine sj_aload_n C 10 rfl dX7_mixSheet_9 rfl rfl ?_
      refine sj_iload_n C 11 rfl dX7_mixSheet_10 rfl rfl ?_
      refine sj_iload_n C 12 rfl dX7_mixSheet_11 rfl rfl ?_
      refine sj_callVp C 15 rfl dX7_mixSheet_12 cv_X7_206 rfl (ct_X7_tellsSheet _ (sj_dS_mm hm g _) hv i k hvi hlt) rfl rfl rfl ⟨_, _, kd_h, rfl, rfl, by decide⟩ ⟨rfl, rfl⟩ (fun v_12 S_12 hp_12 => ?_)
      obtain ⟨rfl, g_12, rfl⟩ := hp_12
      rw [sj_dS_15]
      refine sj_i2l C 16 rfl dX7_mixSheet_15 ?_
      refine sj_callVv C 19 rfl dX7_mixSheet_16 cv_X7_264 rfl (ct_X7_mix _ (sj_dS_mm hm _ _) _) rfl rfl rfl ⟨_, _, kd_h, rfl, rfl, by decide⟩ ⟨rfl, rfl⟩ ?_
      rw [sj_dS_mix, show 31 * (sj_mxl v (sj_ts (sj_ia S (b 1)) i) k) + ((sj_ts (sj_ia S (b 1)) i) k).toInt64 = sj_x1 (sj_mxl v (sj_ts (sj_ia S (b 1)) i) k) ((sj_ts (sj_ia S (b 1)) i) k) from rfl]
      refine sj_iinc_2 C 22 rfl dX7_mixSheet_19 rfl rfl ?_
      refine sj_goto C 2 rfl dX7_mixSheet_22 ?_
      rw [sj_n1]
      exact ih (by omega) _ _
  refine sj_iconstv C (0) 1 rfl dX7_mixSheet_0 rfl ?_
  refine sj_istore_n_2 C 2 rfl dX7_mixSheet_1 rfl rfl ?_
  exact cut_2 _ _
set_option maxRecDepth 100000 in
set_option maxHeartbeats 1000000 in
theorem ct_X7_digest (l : Launch) {S : sj_St} {h : Nat} {b : Nat → Nat} {m : Nat → Int32} (hm : sj_mm S h b m) (hI : sj_inv m) {n : Nat} {B : Nat → Int32} (hn : sj_fi S h 8 = nI n) (hn60 : n ≤ 60) (hB : sj_ia S (b 7) = B) : sj_Ctr l mX7_digest [.ref h] S (fun r T => r = some (.long (sj_dig m (sj_fi S h 4) B n)) ∧ ∃ g v, T = sj_dS (sj_wFi S h 0 0) h b g v) := by
  refine sj_start ([some (.ref h), none]) (by decide +kernel) rfl rfl (fun X hX C hR => ?_)
  subst hX
  have hm0 := hm
  obtain ⟨hm', em⟩ := hm0
  subst em
  obtain ⟨kd_h, ⟨rf_h_1, kd_a1, il_a1⟩, ⟨rf_h_2, kd_a2, il_a2⟩, ⟨rf_h_3, kd_a3, il_a3⟩, ⟨rf_h_5, kd_a5, il_a5⟩, ⟨rf_h_7, kd_a7, il_a7⟩, ⟨rf_h_13, kd_a13, il_a13⟩, ⟨rf_h_15, kd_a15, il_a15⟩, hinj⟩ := hm'
  have hv := sj_inv_oav hI
  have hs := sj_inv_shs hI
  obtain ⟨⟨h9, hn8⟩, ⟨h10, hn28⟩, hoa⟩ := id hv
  have hmz := sj_mm_f hm h 0 0
  obtain ⟨hn, hn60, hB⟩ : sj_fi S h 8 = nI n ∧ n ≤ 60 ∧ sj_ia S (b 7) = B := ⟨hn, hn60, hB⟩
  subst hB
  have hb7 : ∀ g v, sj_ia (sj_dS (sj_wFi S h 0 0) h b g v) (b 7) = (sj_ia S (b 7)) := fun g v => sj_ia_sIa_ne (sj_wFi S h 0 0) g (sj_mo_ne hm.1 (i := 7) (j := 15) (by omega) (by omega) (by omega))
  have hb8 : ∀ g v, sj_fi (sj_dS (sj_wFi S h 0 0) h b g v) h 8 = nI n := fun g v => (sj_fi_wFi_k S h _ (by omega)).trans hn
  have hb4 : ∀ g v, sj_fi (sj_dS (sj_wFi S h 0 0) h b g v) h 4 = (sj_fi S h 4) := fun g v => sj_fi_wFi_k S h _ (by omega)
  have cut_142 : ∀ g, sj_G X (sj_dS (sj_wFi S h 0 0) h b g (sj_mxl (sj_x1 (sj_dg3 (sj_ia S (b 1)) (sj_fi S h 4)) (nI n)) (sj_ia S (b 7)) 0)) 0 0 [some (.ref h), some (.int (nI 0))] 142 [] := by
    refine sj_down (fun k => ∀ g, sj_G X (sj_dS (sj_wFi S h 0 0) h b g (sj_mxl (sj_x1 (sj_dg3 (sj_ia S (b 1)) (sj_fi S h 4)) (nI n)) (sj_ia S (b 7)) k)) 0 0 [some (.ref h), some (.int (nI k))] 142 []) (n) (fun k hk ih => ?_)
    intro g
    refine sj_iload_n C 143 rfl dX7_digest_142 rfl rfl ?_
    refine sj_aload_n C 144 rfl dX7_digest_143 rfl rfl ?_
    refine sj_getI C 147 rfl fd_X7_139 dX7_digest_144 kd_h ?_
    rw [hb8]
    refine sj_icmp_ge C 167 150 rfl rfl dX7_digest_147 (fun c_147 => ?_) (fun c_147 => ?_)
    · have hkn : k = n := by
        have h8 : ¬ k < n := fun h7 => nI_ge (b := n) h7 (by omega) c_147
        omega
      subst hkn
      refine sj_aload_n C 168 rfl dX7_digest_167 rfl rfl ?_
      refine sj_getJ C 171 rfl fd_X7_260 dX7_digest_168 kd_h ?_
      refine sj_lret C hR rfl rfl dX7_digest_171 ?_
      exact ⟨congrArg (fun z => some (Value.long z)) (sj_wFl_fl _ h _), g, _, rfl⟩
    · have hlt : k < n := Nat.not_le.mp fun h8 => c_147 (nI_le (a := n) h8 (by omega))
      refine sj_aload_n C 151 rfl dX7_digest_150 rfl rfl ?_
      refine sj_aload_n C 152 rfl dX7_digest_151 rfl rfl ?_
      refine sj_getr C 155 rfl fd_X7_22 dX7_digest_152 kd_h rf_h_7 ?_
      refine sj_iload_n C 156 rfl dX7_digest_155 rfl rfl ?_
      refine sj_iald C 157 rfl dX7_digest_156 kd_a7 (by show vp_in (nI k) (sj_il S (b 7)); rw [il_a7]; exact vp_in_nI (by omega) (by omega)) ?_
      rw [hb7, nI_clamp (by omega)]
      refine sj_i2l C 158 rfl dX7_digest_157 ?_
      refine sj_callVv C 161 rfl dX7_digest_158 cv_X7_264 rfl (ct_X7_mix _ (sj_dS_mm hmz _ _) _) rfl rfl rfl ⟨_, _, kd_h, rfl, rfl, by decide⟩ ⟨rfl, rfl⟩ ?_
      rw [sj_dS_mix, show 31 * (sj_mxl (sj_x1 (sj_dg3 (sj_ia S (b 1)) (sj_fi S h 4)) (nI n)) (sj_ia S (b 7)) k) + ((sj_ia S (b 7)) k).toInt64 = sj_x1 (sj_mxl (sj_x1 (sj_dg3 (sj_ia S (b 1)) (sj_fi S h 4)) (nI n)) (sj_ia S (b 7)) k) ((sj_ia S (b 7)) k) from rfl]
      refine sj_iinc_1 C 164 rfl dX7_digest_161 rfl rfl ?_
      refine sj_goto C 142 rfl dX7_digest_164 ?_
      rw [sj_n1]
      exact ih (by omega) _
  have cut_62 : ∀ g, sj_G X (sj_dS (sj_wFi S h 0 0) h b g (sj_mxl (sj_dg1 (sj_ia S (b 1)) (sj_fi S h 4)) (fun k => sj_tlo (sj_ia S (b 1)) (k / 4) (k % 4)) 0)) 0 0 [some (.ref h), some (.int (nI 0))] 62 [] := by
    refine sj_down (fun k => ∀ g, sj_G X (sj_dS (sj_wFi S h 0 0) h b g (sj_mxl (sj_dg1 (sj_ia S (b 1)) (sj_fi S h 4)) (fun k => sj_tlo (sj_ia S (b 1)) (k / 4) (k % 4)) k)) 0 0 [some (.ref h), some (.int (nI k))] 62 []) (4 * sj_tn ((sj_ia S (b 1)) 10)) (fun k hk ih => ?_)
    intro g
    refine sj_iload_n C 63 rfl dX7_digest_62 rfl rfl ?_
    refine sj_iconstv C (4) 64 rfl dX7_digest_63 rfl ?_
    refine sj_aload_n C 65 rfl dX7_digest_64 rfl rfl ?_
    refine sj_getr C 68 rfl fd_X7_7 dX7_digest_65 kd_h rf_h_1 ?_
    refine sj_bipush C (10) 70 rfl dX7_digest_68 (by decide) ?_
    refine sj_iald C 71 rfl dX7_digest_70 kd_a1 (by show vp_in (nI 10) (sj_il S (b 1)); rw [il_a1]; exact vp_in_nI (by omega) (by omega)) ?_
    rw [show Int32.toNatClampNeg (10) = 10 from rfl, (sj_dS_mm hmz g _).2, h10]
    refine sj_imul C 72 rfl dX7_digest_71 ?_
    rw [show (4 : Int32) * nI (sj_tn ((sj_ia S (b 1)) 10)) = nI (4 * sj_tn ((sj_ia S (b 1)) 10)) from sj_nmul 4 _]
    refine sj_icmp_ge C 96 75 rfl rfl dX7_digest_72 (fun c_72 => ?_) (fun c_72 => ?_)
    · have hkn : k = 4 * sj_tn ((sj_ia S (b 1)) 10) := by
        have h8 : ¬ k < 4 * sj_tn ((sj_ia S (b 1)) 10) := fun h7 => nI_ge (b := 4 * sj_tn ((sj_ia S (b 1)) 10)) h7 (by omega) c_72
        omega
      subst hkn
      rw [show sj_mxl (sj_dg1 (sj_ia S (b 1)) (sj_fi S h 4)) (fun k => sj_tlo (sj_ia S (b 1)) (k / 4) (k % 4)) (4 * sj_tn ((sj_ia S (b 1)) 10)) = (sj_dg2 (sj_ia S (b 1)) (sj_fi S h 4)) from rfl]
      refine sj_aload_n C 97 rfl dX7_digest_96 rfl rfl ?_
      refine sj_aload_n C 98 rfl dX7_digest_97 rfl rfl ?_
      refine sj_getr C 101 rfl fd_X7_7 dX7_digest_98 kd_h rf_h_1 ?_
      refine sj_bipush C (12) 103 rfl dX7_digest_101 (by decide) ?_
      refine sj_iald C 104 rfl dX7_digest_103 kd_a1 (by show vp_in (nI 12) (sj_il S (b 1)); rw [il_a1]; exact vp_in_nI (by omega) (by omega)) ?_
      rw [show Int32.toNatClampNeg (12) = 12 from rfl, (sj_dS_mm hmz g _).2]
      refine sj_i2l C 105 rfl dX7_digest_104 ?_
      refine sj_callVv C 108 rfl dX7_digest_105 cv_X7_264 rfl (ct_X7_mix _ (sj_dS_mm hmz _ _) _) rfl rfl rfl ⟨_, _, kd_h, rfl, rfl, by decide⟩ ⟨rfl, rfl⟩ ?_
      rw [sj_dS_mix, show 31 * (sj_dg2 (sj_ia S (b 1)) (sj_fi S h 4)) + ((sj_ia S (b 1)) 12).toInt64 = sj_x1 (sj_dg2 (sj_ia S (b 1)) (sj_fi S h 4)) ((sj_ia S (b 1)) 12) from rfl]
      refine sj_aload_n C 109 rfl dX7_digest_108 rfl rfl ?_
      refine sj_aload_n C 110 rfl dX7_digest_109 rfl rfl ?_
      refine sj_getr C 113 rfl fd_X7_7 dX7_digest_110 kd_h rf_h_1 ?_
      refine sj_bipush C (13) 115 rfl dX7_digest_113 (by decide) ?_
      refine sj_iald C 116 rfl dX7_digest_115 kd_a1 (by show vp_in (nI 13) (sj_il S (b 1)); rw [il_a1]; exact vp_in_nI (by omega) (by omega)) ?_
      rw [show Int32.toNatClampNeg (13) = 13 from rfl, (sj_dS_mm hmz g _).2]
      refine sj_i2l C 117 rfl dX7_digest_116 ?_
      refine sj_callVv C 120 rfl dX7_digest_117 cv_X7_264 rfl (ct_X7_mix _ (sj_dS_mm hmz _ _) _) rfl rfl rfl ⟨_, _, kd_h, rfl, rfl, by decide⟩ ⟨rfl, rfl⟩ ?_
      rw [sj_dS_mix, show 31 * (sj_x1 (sj_dg2 (sj_ia S (b 1)) (sj_fi S h 4)) ((sj_ia S (b 1)) 12)) + ((sj_ia S (b 1)) 13).toInt64 = sj_x1 (sj_x1 (sj_dg2 (sj_ia S (b 1)) (sj_fi S h 4)) ((sj_ia S (b 1)) 12)) ((sj_ia S (b 1)) 13) from rfl]
      refine sj_aload_n C 121 rfl dX7_digest_120 rfl rfl ?_
      refine sj_aload_n C 122 rfl dX7_digest_121 rfl rfl ?_
      refine sj_callVp C 125 rfl dX7_digest_122 cv_X7_254 rfl (ct_X7_share _ (sj_dS_mm hmz g _) hI) rfl rfl rfl ⟨_, _, kd_h, rfl, rfl, by decide⟩ ⟨rfl, rfl⟩ (fun v_122 S_122 hp_122 => ?_)
      obtain ⟨rfl, g_122, rfl⟩ := hp_122
      rw [sj_dS_15]
      refine sj_callSd C 128 rfl dX7_digest_125 cv_X7_273 rfl (ct_d2lBits _ _ _ (sj_shok_l (sj_shr_ok hn8))) rfl rfl rfl ⟨rfl, rfl⟩ ?_
      refine sj_callVv C 131 rfl dX7_digest_128 cv_X7_264 rfl (ct_X7_mix _ (sj_dS_mm hmz _ _) _) rfl rfl rfl ⟨_, _, kd_h, rfl, rfl, by decide⟩ ⟨rfl, rfl⟩ ?_
      rw [sj_dS_mix, show 31 * (sj_x1 (sj_x1 (sj_dg2 (sj_ia S (b 1)) (sj_fi S h 4)) ((sj_ia S (b 1)) 12)) ((sj_ia S (b 1)) 13)) + (sj_shr (sj_ia S (b 1))).toInt64 = (sj_dg3 (sj_ia S (b 1)) (sj_fi S h 4)) from rfl]
      refine sj_aload_n C 132 rfl dX7_digest_131 rfl rfl ?_
      refine sj_aload_n C 133 rfl dX7_digest_132 rfl rfl ?_
      refine sj_getI C 136 rfl fd_X7_139 dX7_digest_133 kd_h ?_
      rw [hb8]
      refine sj_i2l C 137 rfl dX7_digest_136 ?_
      refine sj_callVv C 140 rfl dX7_digest_137 cv_X7_264 rfl (ct_X7_mix _ (sj_dS_mm hmz _ _) _) rfl rfl rfl ⟨_, _, kd_h, rfl, rfl, by decide⟩ ⟨rfl, rfl⟩ ?_
      rw [sj_dS_mix, show 31 * (sj_dg3 (sj_ia S (b 1)) (sj_fi S h 4)) + (nI n).toInt64 = sj_x1 (sj_dg3 (sj_ia S (b 1)) (sj_fi S h 4)) (nI n) from rfl]
      refine sj_iconstv C (0) 141 rfl dX7_digest_140 rfl ?_
      refine sj_istore_n_1 C 142 rfl dX7_digest_141 rfl rfl ?_
      exact cut_142 _
    · have hlt : k < 4 * sj_tn ((sj_ia S (b 1)) 10) := Nat.not_le.mp fun h8 => c_72 (nI_le (a := 4 * sj_tn ((sj_ia S (b 1)) 10)) h8 (by omega))
      refine sj_aload_n C 76 rfl dX7_digest_75 rfl rfl ?_
      refine sj_aload_n C 77 rfl dX7_digest_76 rfl rfl ?_
      refine sj_iload_n C 78 rfl dX7_digest_77 rfl rfl ?_
      refine sj_iconstv C (4) 79 rfl dX7_digest_78 rfl ?_
      refine sj_idiv C 80 rfl dX7_digest_79 (by decide) ?_
      rw [show nI k / 4 = nI (k / 4) from sj_ndiv (b := 4) (by omega) (by omega)]
      refine sj_iload_n C 81 rfl dX7_digest_80 rfl rfl ?_
      refine sj_iconstv C (4) 82 rfl dX7_digest_81 rfl ?_
      refine sj_irem C 83 rfl dX7_digest_82 (by decide) ?_
      rw [show nI k - nI k / 4 * 4 = nI (k % 4) from sj_nmod (c := 4) (by omega) (by omega)]
      refine sj_callVp C 86 rfl dX7_digest_83 cv_X7_221 rfl (ct_X7_tellsOath _ (sj_dS_mm hmz g _) hv (k / 4) (k % 4) (by omega) (by omega)) rfl rfl rfl ⟨_, _, kd_h, rfl, rfl, by decide⟩ ⟨rfl, rfl⟩ (fun v_83 S_83 hp_83 => ?_)
      obtain ⟨rfl, g_83, rfl⟩ := hp_83
      rw [sj_dS_15]
      refine sj_i2l C 87 rfl dX7_digest_86 ?_
      refine sj_callVv C 90 rfl dX7_digest_87 cv_X7_264 rfl (ct_X7_mix _ (sj_dS_mm hmz _ _) _) rfl rfl rfl ⟨_, _, kd_h, rfl, rfl, by decide⟩ ⟨rfl, rfl⟩ ?_
      rw [sj_dS_mix, show 31 * (sj_mxl (sj_dg1 (sj_ia S (b 1)) (sj_fi S h 4)) (fun k => sj_tlo (sj_ia S (b 1)) (k / 4) (k % 4)) k) + ((fun k => sj_tlo (sj_ia S (b 1)) (k / 4) (k % 4)) k).toInt64 = sj_x1 (sj_mxl (sj_dg1 (sj_ia S (b 1)) (sj_fi S h 4)) (fun k => sj_tlo (sj_ia S (b 1)) (k / 4) (k % 4)) k) ((fun k => sj_tlo (sj_ia S (b 1)) (k / 4) (k % 4)) k) from rfl]
      refine sj_iinc_1 C 93 rfl dX7_digest_90 rfl rfl ?_
      refine sj_goto C 62 rfl dX7_digest_93 ?_
      rw [sj_n1]
      exact ih (by omega) _
  have cut_38 : ∀ g, sj_G X (sj_dS (sj_wFi S h 0 0) h b g (sj_mxn (sj_ia S (b 1)) (sj_mxl 3919 (sj_tc (sj_ia S (b 1)) (sj_fi S h 4)) 18) 0)) 0 0 [some (.ref h), some (.int (nI 0))] 38 [] := by
    refine sj_down (fun k => ∀ g, sj_G X (sj_dS (sj_wFi S h 0 0) h b g (sj_mxn (sj_ia S (b 1)) (sj_mxl 3919 (sj_tc (sj_ia S (b 1)) (sj_fi S h 4)) 18) k)) 0 0 [some (.ref h), some (.int (nI k))] 38 []) (sj_tn ((sj_ia S (b 1)) 9)) (fun k hk ih => ?_)
    intro g
    refine sj_iload_n C 39 rfl dX7_digest_38 rfl rfl ?_
    refine sj_aload_n C 40 rfl dX7_digest_39 rfl rfl ?_
    refine sj_getr C 43 rfl fd_X7_7 dX7_digest_40 kd_h rf_h_1 ?_
    refine sj_bipush C (9) 45 rfl dX7_digest_43 (by decide) ?_
    refine sj_iald C 46 rfl dX7_digest_45 kd_a1 (by show vp_in (nI 9) (sj_il S (b 1)); rw [il_a1]; exact vp_in_nI (by omega) (by omega)) ?_
    rw [show Int32.toNatClampNeg (9) = 9 from rfl, (sj_dS_mm hmz g _).2, h9]
    refine sj_icmp_ge C 60 49 rfl rfl dX7_digest_46 (fun c_46 => ?_) (fun c_46 => ?_)
    · have hkn : k = sj_tn ((sj_ia S (b 1)) 9) := by
        have h8 : ¬ k < sj_tn ((sj_ia S (b 1)) 9) := fun h7 => nI_ge h7 (by omega) c_46
        omega
      subst hkn
      rw [show sj_mxn (sj_ia S (b 1)) (sj_mxl 3919 (sj_tc (sj_ia S (b 1)) (sj_fi S h 4)) 18) (sj_tn ((sj_ia S (b 1)) 9)) = (sj_dg1 (sj_ia S (b 1)) (sj_fi S h 4)) from rfl]
      refine sj_iconstv C (0) 61 rfl dX7_digest_60 rfl ?_
      refine sj_istore_n_1 C 62 rfl dX7_digest_61 rfl rfl ?_
      exact cut_62 _
    · have hlt : k < sj_tn ((sj_ia S (b 1)) 9) := Nat.not_le.mp fun h8 => c_46 (nI_le h8 (by omega))
      refine sj_aload_n C 50 rfl dX7_digest_49 rfl rfl ?_
      refine sj_iload_n C 51 rfl dX7_digest_50 rfl rfl ?_
      refine sj_callVp C 54 rfl dX7_digest_51 cv_X7_270 rfl (ct_X7_mixSheet _ hmz hI k hlt g _) rfl rfl rfl ⟨_, _, kd_h, rfl, rfl, by decide⟩ ⟨rfl, rfl⟩ (fun v_51 S_51 hp_51 => ?_)
      obtain ⟨rfl, g_51, rfl⟩ := hp_51
      refine sj_iinc_1 C 57 rfl dX7_digest_54 rfl rfl ?_
      refine sj_goto C 38 rfl dX7_digest_57 ?_
      rw [sj_n1]
      exact ih (by omega) _
  have cut_14 : ∀ g, sj_G X (sj_dS (sj_wFi S h 0 0) h b g (sj_mxl 3919 (sj_tc (sj_ia S (b 1)) (sj_fi S h 4)) 0)) 0 0 [some (.ref h), some (.int (nI 0))] 14 [] := by
    refine sj_down (fun k => ∀ g, sj_G X (sj_dS (sj_wFi S h 0 0) h b g (sj_mxl 3919 (sj_tc (sj_ia S (b 1)) (sj_fi S h 4)) k)) 0 0 [some (.ref h), some (.int (nI k))] 14 []) (18) (fun k hk ih => ?_)
    intro g
    refine sj_iload_n C 15 rfl dX7_digest_14 rfl rfl ?_
    refine sj_bipush C (18) 17 rfl dX7_digest_15 (by decide) ?_
    refine sj_icmp_ge C 36 20 rfl rfl dX7_digest_17 (fun c_17 => ?_) (fun c_17 => ?_)
    · have hkn : k = 18 := by
        have h8 : ¬ k < 18 := fun h7 => nI_ge (b := 18) h7 (by omega) c_17
        omega
      subst hkn
      refine sj_iconstv C (0) 37 rfl dX7_digest_36 rfl ?_
      refine sj_istore_n_1 C 38 rfl dX7_digest_37 rfl rfl ?_
      exact cut_38 _
    · have hlt : k < 18 := Nat.not_le.mp fun h8 => c_17 (nI_le (a := 18) h8 (by omega))
      refine sj_aload_n C 21 rfl dX7_digest_20 rfl rfl ?_
      refine sj_aload_n C 22 rfl dX7_digest_21 rfl rfl ?_
      refine sj_iload_n C 23 rfl dX7_digest_22 rfl rfl ?_
      refine sj_callVp C 26 rfl dX7_digest_23 cv_X7_236 rfl (ct_X7_tellsCount _ (sj_dS_mm hmz g _) hv hs k hlt) rfl rfl rfl ⟨_, _, kd_h, rfl, rfl, by decide⟩ ⟨rfl, rfl⟩ (fun v_23 S_23 hp_23 => ?_)
      obtain ⟨rfl, g_23, rfl⟩ := hp_23
      rw [sj_dS_15, hb4]
      refine sj_i2l C 27 rfl dX7_digest_26 ?_
      refine sj_callVv C 30 rfl dX7_digest_27 cv_X7_264 rfl (ct_X7_mix _ (sj_dS_mm hmz _ _) _) rfl rfl rfl ⟨_, _, kd_h, rfl, rfl, by decide⟩ ⟨rfl, rfl⟩ ?_
      rw [sj_dS_mix, show 31 * (sj_mxl 3919 (sj_tc (sj_ia S (b 1)) (sj_fi S h 4)) k) + (sj_tc (sj_ia S (b 1)) (sj_fi S h 4) k).toInt64 = sj_x1 (sj_mxl 3919 (sj_tc (sj_ia S (b 1)) (sj_fi S h 4)) k) (sj_tc (sj_ia S (b 1)) (sj_fi S h 4) k) from rfl]
      refine sj_iinc_1 C 33 rfl dX7_digest_30 rfl rfl ?_
      refine sj_goto C 14 rfl dX7_digest_33 ?_
      rw [sj_n1]
      exact ih (by omega) _
  refine sj_aload_n C 1 rfl dX7_digest_0 rfl rfl ?_
  refine sj_iconstv C (0) 2 rfl dX7_digest_1 rfl ?_
  refine sj_putI C 5 rfl fd_X7_31 dX7_digest_2 rfl rfl kd_h ?_
  refine sj_aload_n C 6 rfl dX7_digest_5 rfl rfl ?_
  refine sj_ldc2 C 3919 9 rfl (wr_43 _ (List.mem_of_getElem? (i := 15) (by decide +kernel))) dX7_digest_6 ?_
  refine sj_putJ C 12 rfl fd_X7_260 dX7_digest_9 rfl rfl sj_only16 kd_h ?_
  rw [show sj_wFl (sj_wFi S h 0 0) h 3919 = (sj_dS (sj_wFi S h 0 0) h b (sj_ia (sj_wFi S h 0 0) (b 15)) 3919) from by unfold sj_dS; rw [sj_sIa_id]]
  refine sj_iconstv C (0) 13 rfl dX7_digest_12 rfl ?_
  refine sj_istore_n_1 C 14 rfl dX7_digest_13 rfl rfl ?_
  exact cut_14 _
