/-! THE REFERENCE: a sheet goes -/
theorem sj_strong (P : Nat → Prop) (h : ∀ K, (∀ k, k < K → P k) → P K) : ∀ K, P K := fun K => Nat.strongRecOn K h
theorem sj_down1 (x : Int32) : x + Int32.ofInt (-1) = x - 1 := by
  rw [Int32.sub_eq_add_neg]
  rfl
set_option maxRecDepth 100000 in
set_option maxHeartbeats 4000000 in
theorem ct_X7_drops (l : Launch) {S : sj_St} {h : Nat} {b : Nat → Nat} {m : Nat → Int32} (hm : sj_mm S h b m) (i : Nat) (h9 : m 9 = nI (sj_tn (m 9))) (hi : i < sj_tn (m 9)) (hn8 : sj_tn (m 9) ≤ 8) (h10 : m 10 = nI (sj_tn (m 10))) (hn28 : sj_tn (m 10) ≤ 28) : sj_Ctr l mX7_drops [.ref h, .int (nI i)] S (sj_eq (some (.int (sj_drn m i))) (sj_sIa S (b 1) (sj_drp m i))) := by
  refine sj_start ([some (.ref h), some (.int (nI i)), none, none]) (by decide +kernel) rfl rfl (fun X hX C hR => ?_)
  subst hX
  have hm0 := hm
  obtain ⟨hm', em⟩ := hm0
  subst em
  obtain ⟨kd_h, ⟨rf_h_1, kd_a1, il_a1⟩, ⟨rf_h_2, kd_a2, il_a2⟩, ⟨rf_h_3, kd_a3, il_a3⟩, ⟨rf_h_5, kd_a5, il_a5⟩, ⟨rf_h_7, kd_a7, il_a7⟩, ⟨rf_h_13, kd_a13, il_a13⟩, ⟨rf_h_15, kd_a15, il_a15⟩, hinj⟩ := hm'
  have hd := sj_dl_ok i (sj_tn ((sj_ia S (b 1)) 10)) (sj_ia S (b 1)) 0 h10 hn28 (Nat.le_refl _)
  have hd10 : (sj_dp1 (sj_ia S (b 1)) i) 10 = nI (sj_tn ((sj_dp1 (sj_ia S (b 1)) i) 10)) := hd.1
  have hd28 : (sj_tn ((sj_dp1 (sj_ia S (b 1)) i) 10)) ≤ 28 := hd.2.1
  have hd9 : (sj_dp1 (sj_ia S (b 1)) i) 9 = nI (sj_tn ((sj_ia S (b 1)) 9)) := hd.2.2.trans h9
  have he9 : (sj_dp2 (sj_ia S (b 1)) i) 9 = nI (sj_tn ((sj_ia S (b 1)) 9)) := (sj_rn_lo (sj_dp1 (sj_ia S (b 1)) i) i (by omega) _).trans hd9
  have cut_148 : ∀ S', S' = (sj_sIa S (b 1) (sj_ct (sj_dp2 (sj_ia S (b 1)) i) (sj_tn ((sj_ia S (b 1)) 9) - 1) i (98 + 42 * i))) → sj_G X S' 0 0 [some (.ref h), some (.int (nI i)), some (.int (sj_drn (sj_ia S (b 1)) i)), some (.int (nI (98 + 42 * i)))] 148 [] := by
    refine sj_downFrom (fun j => ∀ S', S' = (sj_sIa S (b 1) (sj_ct (sj_dp2 (sj_ia S (b 1)) i) (sj_tn ((sj_ia S (b 1)) 9) - 1) i j)) → sj_G X S' 0 0 [some (.ref h), some (.int (nI i)), some (.int (sj_drn (sj_ia S (b 1)) i)), some (.int (nI j))] 148 []) (98 + 42 * i) (98 + 42 * (sj_tn ((sj_ia S (b 1)) 9) - 1)) (by omega) (fun j hij hj ih => ?_)
    intro S' hS'
    subst hS'
    have e9 : sj_ia (sj_sIa S (b 1) (sj_ct (sj_dp2 (sj_ia S (b 1)) i) (sj_tn ((sj_ia S (b 1)) 9) - 1) i j)) (b 1) 9 = nI (sj_tn ((sj_ia S (b 1)) 9) - 1) := (congrFun (sj_ia_sIa _ _ _) 9).trans (if_pos rfl)
    refine sj_iload_n C 149 rfl dX7_drops_148 rfl rfl ?_
    refine sj_bipush C (98) 151 rfl dX7_drops_149 (by decide) ?_
    refine sj_bipush C (42) 153 rfl dX7_drops_151 (by decide) ?_
    refine sj_aload_n C 154 rfl dX7_drops_153 rfl rfl ?_
    refine sj_getr C 157 rfl fd_X7_7 dX7_drops_154 kd_h rf_h_1 ?_
    refine sj_bipush C (9) 159 rfl dX7_drops_157 (by decide) ?_
    refine sj_iald C 160 rfl dX7_drops_159 kd_a1 (by show vp_in (nI 9) (sj_il S (b 1)); rw [il_a1]; exact vp_in_nI (by omega) (by omega)) ?_
    rw [show Int32.toNatClampNeg (9) = 9 from rfl, e9]
    refine sj_imul C 161 rfl dX7_drops_160 ?_
    refine sj_iadd C 162 rfl dX7_drops_161 ?_
    rw [sj_i98y]
    refine sj_icmp_ge C 186 165 rfl rfl dX7_drops_162 (fun c_162 => ?_) (fun c_162 => ?_)
    · refine sj_iload_n C 187 rfl dX7_drops_186 rfl rfl ?_
      refine sj_iret C hR rfl rfl dX7_drops_187 ?_
      have hjj : j = 98 + 42 * (sj_tn ((sj_ia S (b 1)) 9) - 1) := by
        have h8 : ¬ j < 98 + 42 * (sj_tn ((sj_ia S (b 1)) 9) - 1) := fun h7 => nI_ge h7 (by omega) c_162
        omega
      subst hjj
      exact ⟨rfl, rfl⟩
    · have hlt : j < 98 + 42 * (sj_tn ((sj_ia S (b 1)) 9) - 1) := Nat.not_le.mp fun h8 => c_162 (nI_le h8 (by omega))
      refine sj_aload_n C 166 rfl dX7_drops_165 rfl rfl ?_
      refine sj_getr C 169 rfl fd_X7_7 dX7_drops_166 kd_h rf_h_1 ?_
      refine sj_iload_n C 170 rfl dX7_drops_169 rfl rfl ?_
      refine sj_aload_n C 171 rfl dX7_drops_170 rfl rfl ?_
      refine sj_getr C 174 rfl fd_X7_7 dX7_drops_171 kd_h rf_h_1 ?_
      refine sj_iload_n C 175 rfl dX7_drops_174 rfl rfl ?_
      refine sj_bipush C (42) 177 rfl dX7_drops_175 (by decide) ?_
      refine sj_iadd C 178 rfl dX7_drops_177 ?_
      rw [show nI j + 42 = nI (j + 42) from nI_add j 42]
      refine sj_iald C 179 rfl dX7_drops_178 kd_a1 (by show vp_in (nI (j + 42)) (sj_il S (b 1)); rw [il_a1]; exact vp_in_nI (by omega) (by omega)) ?_
      refine sj_iast C 180 rfl dX7_drops_179 kd_a1 (by show vp_in (nI j) (sj_il S (b 1)); rw [il_a1]; exact vp_in_nI (by omega) (by omega)) ?_
      refine sj_iinc_3 C 183 rfl dX7_drops_180 rfl rfl ?_
      refine sj_goto C 148 rfl dX7_drops_183 ?_
      rw [sj_n1]
      refine ih hlt _ ?_
      rw [sj_wIa_sIa, nI_clamp (by omega), sj_ia_sIa, nI_clamp (by omega), sj_ct_3 _ _ _ _ hij, sj_ct_s _ _ _ _ hij]
  have cut_52 : ∀ S', S' = (sj_sIa S (b 1) (sj_rn (sj_dp1 (sj_ia S (b 1)) i) i 0)) → sj_G X S' 0 0 [some (.ref h), some (.int (nI i)), some (.int (sj_drn (sj_ia S (b 1)) i)), some (.int (nI 0))] 52 [] := by
    refine sj_down (fun k => ∀ S', S' = (sj_sIa S (b 1) (sj_rn (sj_dp1 (sj_ia S (b 1)) i) i k)) → sj_G X S' 0 0 [some (.ref h), some (.int (nI i)), some (.int (sj_drn (sj_ia S (b 1)) i)), some (.int (nI k))] 52 []) (sj_tn ((sj_dp1 (sj_ia S (b 1)) i) 10)) (fun k hk ih => ?_)
    intro S' hS'
    subst hS'
    have hmk : sj_mm (sj_sIa S (b 1) (sj_rn (sj_dp1 (sj_ia S (b 1)) i) i k)) h b (sj_rn (sj_dp1 (sj_ia S (b 1)) i) i k) := sj_mm_1 hm _
    have hm1 : sj_mm (sj_sIa S (b 1) (sj_rn1 (sj_rn (sj_dp1 (sj_ia S (b 1)) i) i k) i k)) h b (sj_rn1 (sj_rn (sj_dp1 (sj_ia S (b 1)) i) i k) i k) := sj_mm_1 hm _
    have e10 : sj_ia (sj_sIa S (b 1) (sj_rn (sj_dp1 (sj_ia S (b 1)) i) i k)) (b 1) 10 = nI (sj_tn ((sj_dp1 (sj_ia S (b 1)) i) 10)) := (congrFun (sj_ia_sIa _ _ _) 10).trans ((sj_rn_lo _ _ (by omega) k).trans hd10)
    have e9k : (sj_rn (sj_dp1 (sj_ia S (b 1)) i) i k) 9 = nI (sj_tn ((sj_ia S (b 1)) 9)) := (sj_rn_lo _ _ (by omega) k).trans hd9
    refine sj_iload_n C 53 rfl dX7_drops_52 rfl rfl ?_
    refine sj_aload_n C 54 rfl dX7_drops_53 rfl rfl ?_
    refine sj_getr C 57 rfl fd_X7_7 dX7_drops_54 kd_h rf_h_1 ?_
    refine sj_bipush C (10) 59 rfl dX7_drops_57 (by decide) ?_
    refine sj_iald C 60 rfl dX7_drops_59 kd_a1 (by show vp_in (nI 10) (sj_il S (b 1)); rw [il_a1]; exact vp_in_nI (by omega) (by omega)) ?_
    rw [show Int32.toNatClampNeg (10) = 10 from rfl, e10]
    refine sj_icmp_ge C 129 63 rfl rfl dX7_drops_60 (fun c_60 => ?_) (fun c_60 => ?_)
    · have hkn : k = (sj_tn ((sj_dp1 (sj_ia S (b 1)) i) 10)) := by
        have h8 : ¬ k < (sj_tn ((sj_dp1 (sj_ia S (b 1)) i) 10)) := fun h7 => nI_ge h7 (by omega) c_60
        omega
      subst hkn
      refine sj_aload_n C 130 rfl dX7_drops_129 rfl rfl ?_
      refine sj_getr C 133 rfl fd_X7_7 dX7_drops_130 kd_h rf_h_1 ?_
      refine sj_bipush C (9) 135 rfl dX7_drops_133 (by decide) ?_
      refine sj_dup2 C 136 rfl dX7_drops_135 rfl rfl ?_
      refine sj_iald C 137 rfl dX7_drops_136 kd_a1 (by show vp_in (nI 9) (sj_il S (b 1)); rw [il_a1]; exact vp_in_nI (by omega) (by omega)) ?_
      rw [show Int32.toNatClampNeg (9) = 9 from rfl, sj_ia_sIa, e9k]
      refine sj_iconstv C (1) 138 rfl dX7_drops_137 rfl ?_
      refine sj_isub C 139 rfl dX7_drops_138 ?_
      rw [show nI (sj_tn ((sj_ia S (b 1)) 9)) - 1 = nI (sj_tn ((sj_ia S (b 1)) 9) - 1) from sj_nsub (b := 1) (by omega)]
      refine sj_iast C 140 rfl dX7_drops_139 kd_a1 (by show vp_in (nI 9) (sj_il S (b 1)); rw [il_a1]; exact vp_in_nI (by omega) (by omega)) ?_
      refine sj_bipush C (98) 142 rfl dX7_drops_140 (by decide) ?_
      refine sj_bipush C (42) 144 rfl dX7_drops_142 (by decide) ?_
      refine sj_iload_n C 145 rfl dX7_drops_144 rfl rfl ?_
      refine sj_imul C 146 rfl dX7_drops_145 ?_
      refine sj_iadd C 147 rfl dX7_drops_146 ?_
      rw [sj_i98y]
      refine sj_istore_n_3 C 148 rfl dX7_drops_147 rfl rfl ?_
      refine cut_148 _ ?_
      rw [sj_wIa_sIa, sj_ct_0]
      rfl
    · have hlt : k < (sj_tn ((sj_dp1 (sj_ia S (b 1)) i) 10)) := Nat.not_le.mp fun h8 => c_60 (nI_le h8 (by omega))
      refine sj_aload_n C 64 rfl dX7_drops_63 rfl rfl ?_
      refine sj_getr C 67 rfl fd_X7_7 dX7_drops_64 kd_h rf_h_1 ?_
      refine sj_bipush C (14) 69 rfl dX7_drops_67 (by decide) ?_
      refine sj_iconstv C (3) 70 rfl dX7_drops_69 rfl ?_
      refine sj_iload_n C 71 rfl dX7_drops_70 rfl rfl ?_
      refine sj_imul C 72 rfl dX7_drops_71 ?_
      refine sj_iadd C 73 rfl dX7_drops_72 ?_
      rw [sj_i14z]
      refine sj_dup2 C 74 rfl dX7_drops_73 rfl rfl ?_
      refine sj_iald C 75 rfl dX7_drops_74 kd_a1 (by show vp_in (nI (14 + 3 * k)) (sj_il S (b 1)); rw [il_a1]; exact vp_in_nI (by omega) (by omega)) ?_
      rw [sj_ia_sIa, nI_clamp (by omega)]
      refine sj_aload_n C 76 rfl dX7_drops_75 rfl rfl ?_
      refine sj_iload_n C 77 rfl dX7_drops_76 rfl rfl ?_
      refine sj_iconstv C (0) 78 rfl dX7_drops_77 rfl ?_
      refine sj_callVd C 81 rfl dX7_drops_78 cv_X7_98 rfl (ct_X7_ofOath _ hmk k 0 (by omega) (by omega)) rfl rfl rfl ⟨_, _, kd_h, rfl, rfl, by decide⟩ ⟨rfl, rfl⟩ ?_
      refine sj_iload_n C 82 rfl dX7_drops_81 rfl rfl ?_
      refine sj_icmp_le C 89 85 rfl rfl dX7_drops_82 (fun c_82 => ?_) (fun c_82 => ?_)
      · refine sj_iconstv C (0) 90 rfl dX7_drops_89 rfl ?_
        refine sj_isub C 91 rfl dX7_drops_90 ?_
        refine sj_iast C 92 rfl dX7_drops_91 kd_a1 (by show vp_in (nI (14 + 3 * k)) (sj_il S (b 1)); rw [il_a1]; exact vp_in_nI (by omega) (by omega)) ?_
        rw [sj_wIa_sIa, nI_clamp (by omega), show upd (sj_rn (sj_dp1 (sj_ia S (b 1)) i) i k) (14 + 3 * k) ((sj_rn (sj_dp1 (sj_ia S (b 1)) i) i k) (14 + 3 * k) - 0) = sj_rn1 (sj_rn (sj_dp1 (sj_ia S (b 1)) i) i k) i k from by unfold sj_rn1; rw [decide_eq_false (sj_nlt.mpr c_82)]; rfl]
        refine sj_aload_n C 93 rfl dX7_drops_92 rfl rfl ?_
        refine sj_getr C 96 rfl fd_X7_7 dX7_drops_93 kd_h rf_h_1 ?_
        refine sj_bipush C (14) 98 rfl dX7_drops_96 (by decide) ?_
        refine sj_iconstv C (3) 99 rfl dX7_drops_98 rfl ?_
        refine sj_iload_n C 100 rfl dX7_drops_99 rfl rfl ?_
        refine sj_imul C 101 rfl dX7_drops_100 ?_
        refine sj_iadd C 102 rfl dX7_drops_101 ?_
        refine sj_iconstv C (1) 103 rfl dX7_drops_102 rfl ?_
        refine sj_iadd C 104 rfl dX7_drops_103 ?_
        rw [sj_i14z, show nI (14 + 3 * k) + 1 = nI (14 + 3 * k + 1) from nI_1 _]
        refine sj_dup2 C 105 rfl dX7_drops_104 rfl rfl ?_
        refine sj_iald C 106 rfl dX7_drops_105 kd_a1 (by show vp_in (nI (14 + 3 * k + 1)) (sj_il S (b 1)); rw [il_a1]; exact vp_in_nI (by omega) (by omega)) ?_
        rw [sj_ia_sIa, nI_clamp (by omega)]
        refine sj_aload_n C 107 rfl dX7_drops_106 rfl rfl ?_
        refine sj_iload_n C 108 rfl dX7_drops_107 rfl rfl ?_
        refine sj_iconstv C (1) 109 rfl dX7_drops_108 rfl ?_
        refine sj_callVd C 112 rfl dX7_drops_109 cv_X7_98 rfl (ct_X7_ofOath _ hm1 k 1 (by omega) (by omega)) rfl rfl rfl ⟨_, _, kd_h, rfl, rfl, by decide⟩ ⟨rfl, rfl⟩ ?_
        refine sj_iload_n C 113 rfl dX7_drops_112 rfl rfl ?_
        refine sj_icmp_le C 120 116 rfl rfl dX7_drops_113 (fun c_113 => ?_) (fun c_113 => ?_)
        · refine sj_iconstv C (0) 121 rfl dX7_drops_120 rfl ?_
          refine sj_isub C 122 rfl dX7_drops_121 ?_
          refine sj_iast C 123 rfl dX7_drops_122 kd_a1 (by show vp_in (nI (14 + 3 * k + 1)) (sj_il S (b 1)); rw [il_a1]; exact vp_in_nI (by omega) (by omega)) ?_
          rw [sj_wIa_sIa, nI_clamp (by omega), show upd (sj_rn1 (sj_rn (sj_dp1 (sj_ia S (b 1)) i) i k) i k) (14 + 3 * k + 1) ((sj_rn1 (sj_rn (sj_dp1 (sj_ia S (b 1)) i) i k) i k) (14 + 3 * k + 1) - 0) = sj_rn2 (sj_rn1 (sj_rn (sj_dp1 (sj_ia S (b 1)) i) i k) i k) i k from by unfold sj_rn2; rw [decide_eq_false (sj_nlt.mpr c_113)]; rfl]
          refine sj_iinc_3 C 126 rfl dX7_drops_123 rfl rfl ?_
          refine sj_goto C 52 rfl dX7_drops_126 ?_
          rw [sj_n1]
          exact ih hlt _ rfl
        · refine sj_iconstv C (1) 117 rfl dX7_drops_116 rfl ?_
          refine sj_goto C 121 rfl dX7_drops_117 ?_
          refine sj_isub C 122 rfl dX7_drops_121 ?_
          refine sj_iast C 123 rfl dX7_drops_122 kd_a1 (by show vp_in (nI (14 + 3 * k + 1)) (sj_il S (b 1)); rw [il_a1]; exact vp_in_nI (by omega) (by omega)) ?_
          rw [sj_wIa_sIa, nI_clamp (by omega), show upd (sj_rn1 (sj_rn (sj_dp1 (sj_ia S (b 1)) i) i k) i k) (14 + 3 * k + 1) ((sj_rn1 (sj_rn (sj_dp1 (sj_ia S (b 1)) i) i k) i k) (14 + 3 * k + 1) - 1) = sj_rn2 (sj_rn1 (sj_rn (sj_dp1 (sj_ia S (b 1)) i) i k) i k) i k from by unfold sj_rn2; rw [decide_eq_true (sj_nle.mp c_113)]; rfl]
          refine sj_iinc_3 C 126 rfl dX7_drops_123 rfl rfl ?_
          refine sj_goto C 52 rfl dX7_drops_126 ?_
          rw [sj_n1]
          exact ih hlt _ rfl
      · refine sj_iconstv C (1) 86 rfl dX7_drops_85 rfl ?_
        refine sj_goto C 90 rfl dX7_drops_86 ?_
        refine sj_isub C 91 rfl dX7_drops_90 ?_
        refine sj_iast C 92 rfl dX7_drops_91 kd_a1 (by show vp_in (nI (14 + 3 * k)) (sj_il S (b 1)); rw [il_a1]; exact vp_in_nI (by omega) (by omega)) ?_
        rw [sj_wIa_sIa, nI_clamp (by omega), show upd (sj_rn (sj_dp1 (sj_ia S (b 1)) i) i k) (14 + 3 * k) ((sj_rn (sj_dp1 (sj_ia S (b 1)) i) i k) (14 + 3 * k) - 1) = sj_rn1 (sj_rn (sj_dp1 (sj_ia S (b 1)) i) i k) i k from by unfold sj_rn1; rw [decide_eq_true (sj_nle.mp c_82)]; rfl]
        refine sj_aload_n C 93 rfl dX7_drops_92 rfl rfl ?_
        refine sj_getr C 96 rfl fd_X7_7 dX7_drops_93 kd_h rf_h_1 ?_
        refine sj_bipush C (14) 98 rfl dX7_drops_96 (by decide) ?_
        refine sj_iconstv C (3) 99 rfl dX7_drops_98 rfl ?_
        refine sj_iload_n C 100 rfl dX7_drops_99 rfl rfl ?_
        refine sj_imul C 101 rfl dX7_drops_100 ?_
        refine sj_iadd C 102 rfl dX7_drops_101 ?_
        refine sj_iconstv C (1) 103 rfl dX7_drops_102 rfl ?_
        refine sj_iadd C 104 rfl dX7_drops_103 ?_
        rw [sj_i14z, show nI (14 + 3 * k) + 1 = nI (14 + 3 * k + 1) from nI_1 _]
        refine sj_dup2 C 105 rfl dX7_drops_104 rfl rfl ?_
        refine sj_iald C 106 rfl dX7_drops_105 kd_a1 (by show vp_in (nI (14 + 3 * k + 1)) (sj_il S (b 1)); rw [il_a1]; exact vp_in_nI (by omega) (by omega)) ?_
        rw [sj_ia_sIa, nI_clamp (by omega)]
        refine sj_aload_n C 107 rfl dX7_drops_106 rfl rfl ?_
        refine sj_iload_n C 108 rfl dX7_drops_107 rfl rfl ?_
        refine sj_iconstv C (1) 109 rfl dX7_drops_108 rfl ?_
        refine sj_callVd C 112 rfl dX7_drops_109 cv_X7_98 rfl (ct_X7_ofOath _ hm1 k 1 (by omega) (by omega)) rfl rfl rfl ⟨_, _, kd_h, rfl, rfl, by decide⟩ ⟨rfl, rfl⟩ ?_
        refine sj_iload_n C 113 rfl dX7_drops_112 rfl rfl ?_
        refine sj_icmp_le C 120 116 rfl rfl dX7_drops_113 (fun c_113 => ?_) (fun c_113 => ?_)
        · refine sj_iconstv C (0) 121 rfl dX7_drops_120 rfl ?_
          refine sj_isub C 122 rfl dX7_drops_121 ?_
          refine sj_iast C 123 rfl dX7_drops_122 kd_a1 (by show vp_in (nI (14 + 3 * k + 1)) (sj_il S (b 1)); rw [il_a1]; exact vp_in_nI (by omega) (by omega)) ?_
          rw [sj_wIa_sIa, nI_clamp (by omega), show upd (sj_rn1 (sj_rn (sj_dp1 (sj_ia S (b 1)) i) i k) i k) (14 + 3 * k + 1) ((sj_rn1 (sj_rn (sj_dp1 (sj_ia S (b 1)) i) i k) i k) (14 + 3 * k + 1) - 0) = sj_rn2 (sj_rn1 (sj_rn (sj_dp1 (sj_ia S (b 1)) i) i k) i k) i k from by unfold sj_rn2; rw [decide_eq_false (sj_nlt.mpr c_113)]; rfl]
          refine sj_iinc_3 C 126 rfl dX7_drops_123 rfl rfl ?_
          refine sj_goto C 52 rfl dX7_drops_126 ?_
          rw [sj_n1]
          exact ih hlt _ rfl
        · refine sj_iconstv C (1) 117 rfl dX7_drops_116 rfl ?_
          refine sj_goto C 121 rfl dX7_drops_117 ?_
          refine sj_isub C 122 rfl dX7_drops_121 ?_
          refine sj_iast C 123 rfl dX7_drops_122 kd_a1 (by show vp_in (nI (14 + 3 * k + 1)) (sj_il S (b 1)); rw [il_a1]; exact vp_in_nI (by omega) (by omega)) ?_
          rw [sj_wIa_sIa, nI_clamp (by omega), show upd (sj_rn1 (sj_rn (sj_dp1 (sj_ia S (b 1)) i) i k) i k) (14 + 3 * k + 1) ((sj_rn1 (sj_rn (sj_dp1 (sj_ia S (b 1)) i) i k) i k) (14 + 3 * k + 1) - 1) = sj_rn2 (sj_rn1 (sj_rn (sj_dp1 (sj_ia S (b 1)) i) i k) i k) i k from by unfold sj_rn2; rw [decide_eq_true (sj_nle.mp c_113)]; rfl]
          refine sj_iinc_3 C 126 rfl dX7_drops_123 rfl rfl ?_
          refine sj_goto C 52 rfl dX7_drops_126 ?_
          rw [sj_n1]
          exact ih hlt _ rfl
  have cut_12 : ∀ K, (fun K => ∀ (f : Nat → Int32) (g : Int32), f 10 = nI (sj_tn (f 10)) → sj_tn (f 10) ≤ 28 → K ≤ sj_tn (f 10) → sj_dl i K f g = ((sj_dp1 (sj_ia S (b 1)) i), (sj_drn (sj_ia S (b 1)) i)) → ∀ S', S' = sj_sIa S (b 1) f → sj_G X S' 0 0 [some (.ref h), some (.int (nI i)), some (.int g), some (.int (nI K - 1))] 12 []) K := by
    refine sj_strong _ (fun K ih => ?_)
    intro f g hf10 hf28 hKf hres S' hS'
    subst hS'
    have hmk : sj_mm (sj_sIa S (b 1) f) h b f := sj_mm_1 hm _
    refine sj_iload_n C 13 rfl dX7_drops_12 rfl rfl ?_
    skip
    refine sj_if_lt C 50 16 rfl rfl dX7_drops_13 (fun c_13 => ?_) (fun c_13 => ?_)
    · have hK0 : K = 0 := by
        rcases Nat.eq_zero_or_pos K with h8 | h8
        · exact h8
        · obtain ⟨k, rfl⟩ : ∃ k, K = k + 1 := ⟨K - 1, by omega⟩
          exact absurd (by rw [← nI_pred k]; exact c_13) (nI_pos (n := k) (by omega))
      subst hK0
      obtain ⟨rfl, rfl⟩ : f = (sj_dp1 (sj_ia S (b 1)) i) ∧ g = (sj_drn (sj_ia S (b 1)) i) := by
        have h8 : (f, g) = ((sj_dp1 (sj_ia S (b 1)) i), (sj_drn (sj_ia S (b 1)) i)) := hres
        exact ⟨congrArg Prod.fst h8, congrArg Prod.snd h8⟩
      refine sj_iconstv C (0) 51 rfl dX7_drops_50 rfl ?_
      refine sj_istore_n_3 C 52 rfl dX7_drops_51 rfl rfl ?_
      exact cut_52 _ rfl
    · obtain ⟨k, rfl⟩ : ∃ k, K = k + 1 := by
        refine ⟨K - 1, ?_⟩
        have h8 : ¬ K = 0 := fun h7 => c_13 (by rw [h7]; decide)
        omega
      rw [show nI (k + 1) - 1 = nI k from nI_pred k]
      have e1 : sj_tn (sj_dO f k 10) = sj_tn (f 10) - 1 := by rw [sj_dO_10]; exact sj_tn_nI (by omega)
      refine sj_aload_n C 17 rfl dX7_drops_16 rfl rfl ?_
      refine sj_iload_n C 18 rfl dX7_drops_17 rfl rfl ?_
      refine sj_iconstv C (0) 19 rfl dX7_drops_18 rfl ?_
      refine sj_callVd C 22 rfl dX7_drops_19 cv_X7_98 rfl (ct_X7_ofOath _ hmk k 0 (by omega) (by omega)) rfl rfl rfl ⟨_, _, kd_h, rfl, rfl, by decide⟩ ⟨rfl, rfl⟩ ?_
      refine sj_iload_n C 23 rfl dX7_drops_22 rfl rfl ?_
      refine sj_icmp_eq C 36 26 rfl rfl dX7_drops_23 (fun c_23 => ?_) (fun c_23 => ?_)
      · refine sj_aload_n C 37 rfl dX7_drops_36 rfl rfl ?_
        refine sj_iload_n C 38 rfl dX7_drops_37 rfl rfl ?_
        refine sj_callVv C 41 rfl dX7_drops_38 cv_X7_129 rfl (ct_X7_dropOath _ hmk k hf10 hf28 (by omega)) rfl rfl rfl ⟨_, _, kd_h, rfl, rfl, by decide⟩ ⟨rfl, rfl⟩ ?_
        refine sj_iinc_2 C 44 rfl dX7_drops_41 rfl rfl ?_
        refine sj_iinc_3 C 47 rfl dX7_drops_44 rfl rfl ?_
        refine sj_goto C 12 rfl dX7_drops_47 ?_
        rw [sj_down1]
        refine ih k (by omega) (sj_dO f k) (g + 1) (by rw [e1]; exact sj_dO_10 f k) (by omega) (by omega) ?_ _ ?_
        · exact (if_pos (Or.inl c_23)).symm.trans hres
        · rw [sj_sIa_sIa]
      · refine sj_aload_n C 27 rfl dX7_drops_26 rfl rfl ?_
        refine sj_iload_n C 28 rfl dX7_drops_27 rfl rfl ?_
        refine sj_iconstv C (1) 29 rfl dX7_drops_28 rfl ?_
        refine sj_callVd C 32 rfl dX7_drops_29 cv_X7_98 rfl (ct_X7_ofOath _ hmk k 1 (by omega) (by omega)) rfl rfl rfl ⟨_, _, kd_h, rfl, rfl, by decide⟩ ⟨rfl, rfl⟩ ?_
        refine sj_iload_n C 33 rfl dX7_drops_32 rfl rfl ?_
        refine sj_icmp_ne C 44 36 rfl rfl dX7_drops_33 (fun c_33 => ?_) (fun c_33 => ?_)
        · refine sj_iinc_3 C 47 rfl dX7_drops_44 rfl rfl ?_
          refine sj_goto C 12 rfl dX7_drops_47 ?_
          rw [sj_down1]
          refine ih k (by omega) f g hf10 hf28 (by omega) ?_ _ rfl
          exact (if_neg (fun h8 => h8.elim c_23 c_33)).symm.trans hres
        · refine sj_aload_n C 37 rfl dX7_drops_36 rfl rfl ?_
          refine sj_iload_n C 38 rfl dX7_drops_37 rfl rfl ?_
          refine sj_callVv C 41 rfl dX7_drops_38 cv_X7_129 rfl (ct_X7_dropOath _ hmk k hf10 hf28 (by omega)) rfl rfl rfl ⟨_, _, kd_h, rfl, rfl, by decide⟩ ⟨rfl, rfl⟩ ?_
          refine sj_iinc_2 C 44 rfl dX7_drops_41 rfl rfl ?_
          refine sj_iinc_3 C 47 rfl dX7_drops_44 rfl rfl ?_
          refine sj_goto C 12 rfl dX7_drops_47 ?_
          rw [sj_down1]
          refine ih k (by omega) (sj_dO f k) (g + 1) (by rw [e1]; exact sj_dO_10 f k) (by omega) (by omega) ?_ _ ?_
          · exact (if_pos (Or.inr c_33)).symm.trans hres
          · rw [sj_sIa_sIa]
  refine sj_iconstv C (0) 1 rfl dX7_drops_0 rfl ?_
  refine sj_istore_n_2 C 2 rfl dX7_drops_1 rfl rfl ?_
  refine sj_aload_n C 3 rfl dX7_drops_2 rfl rfl ?_
  refine sj_getr C 6 rfl fd_X7_7 dX7_drops_3 kd_h rf_h_1 ?_
  refine sj_bipush C (10) 8 rfl dX7_drops_6 (by decide) ?_
  refine sj_iald C 9 rfl dX7_drops_8 kd_a1 (by show vp_in (nI 10) (sj_il S (b 1)); rw [il_a1]; exact vp_in_nI (by omega) (by omega)) ?_
  rw [show Int32.toNatClampNeg (10) = 10 from rfl, h10]
  refine sj_iconstv C (1) 10 rfl dX7_drops_9 rfl ?_
  refine sj_isub C 11 rfl dX7_drops_10 ?_
  refine sj_istore_n_3 C 12 rfl dX7_drops_11 rfl rfl ?_
  rw [show (nI (sj_tn ((sj_ia S (b 1)) 10)) - 1 : Int32) = nI (sj_tn ((sj_ia S (b 1)) 10)) - 1 from rfl]
  exact cut_12 (sj_tn ((sj_ia S (b 1)) 10)) (sj_ia S (b 1)) 0 h10 hn28 (Nat.le_refl _) rfl S (sj_sIa_id S (b 1)).symm
