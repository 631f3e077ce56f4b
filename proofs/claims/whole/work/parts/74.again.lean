/-! THE REFERENCE: its readings again, from any place of reading -/
def sj_pb (S : sj_St) (h : Nat) (b : Nat → Nat) (n : Nat) (B : Nat → Int32) : Prop := sj_fi S h 8 = nI n ∧ n ≤ 60 ∧ sj_ia S (b 7) = B
theorem sj_pb_of {S : sj_St} {h : Nat} {b : Nat → Nat} {n p : Nat} {B : Nat → Int32} (h9 : sj_ps S h b n B p) : sj_pb S h b n B := ⟨h9.1, h9.2.1, h9.2.2.2.2⟩
theorem sj_tS_ps_b {S : sj_St} {h : Nat} {b : Nat → Nat} {m : Nat → Int32} {n : Nat} {B : Nat → Int32} (hm : sj_mm S h b m) (hps : sj_pb S h b n B) {p : Nat} (hp : p ≤ n) (k : Nat) (f : Nat → Int32) : sj_ps (sj_tS S h b p k f) h b n B p := ⟨(sj_tS_o S h b p k f (by omega) (by omega)).trans hps.1, hps.2.1, sj_tS_9 S h b p k f, hp, (sj_ia_sIa_ne (sj_wFi S h 9 (nI p)) f (sj_mo_ne hm.1 (i := 7) (j := 13) (by omega) (by omega) (by omega))).trans hps.2.2⟩
set_option maxRecDepth 100000 in
set_option maxHeartbeats 400000 in
theorem ct_X7_findSheetError_b (l : Launch) {S : sj_St} {h : Nat} {b : Nat → Nat} {m : Nat → Int32} (hm : sj_mm S h b m) {n : Nat} {B : Nat → Int32} (hps : sj_pb S h b n B) : sj_Ctr l mX7_findSheetError [.ref h] S (sj_eq (some (.int (sj_sht B n (sj_ia S (b 13))).1)) (sj_tS S h b (sj_sht B n (sj_ia S (b 13))).2.1 (sj_sht B n (sj_ia S (b 13))).2.2.1 (sj_sht B n (sj_ia S (b 13))).2.2.2)) := by
  refine sj_start ([some (.ref h)]) (by decide +kernel) rfl rfl (fun X hX C hR => ?_)
  subst hX
  have hm0 := hm
  obtain ⟨hm', em⟩ := hm0
  subst em
  obtain ⟨kd_h, ⟨rf_h_1, kd_a1, il_a1⟩, ⟨rf_h_2, kd_a2, il_a2⟩, ⟨rf_h_3, kd_a3, il_a3⟩, ⟨rf_h_5, kd_a5, il_a5⟩, ⟨rf_h_7, kd_a7, il_a7⟩, ⟨rf_h_13, kd_a13, il_a13⟩, ⟨rf_h_15, kd_a15, il_a15⟩, hinj⟩ := hm'
  obtain ⟨hn, hn60, hB⟩ := id hps
  subst hB
  have cut_10 : ∀ j k p9 f, k + j = 8 → 0 < j → p9 ≤ n → sj_shx (sj_ia S (b 7)) n j k p9 f = (sj_sht (sj_ia S (b 7)) n (sj_ia S (b 13))) → sj_G X (sj_tS S h b p9 k f) 0 0 [some (.ref h)] 10 [] := by
    intro j
    refine sj_strong (fun j => ∀ k p9 f, k + j = 8 → 0 < j → p9 ≤ n → sj_shx (sj_ia S (b 7)) n j k p9 f = (sj_sht (sj_ia S (b 7)) n (sj_ia S (b 13))) → sj_G X (sj_tS S h b p9 k f) 0 0 [some (.ref h)] 10 []) (fun j ih => ?_) j
    intro k p9 f hkj hj hp9 hres
    obtain ⟨j, rfl⟩ : ∃ i, j = i + 1 := ⟨j - 1, by omega⟩
    have hle := (sj_rst_le (B := (sj_ia S (b 7))) hp9).1
    refine sj_aload_n C 11 rfl dX7_findSheetError_10 rfl rfl ?_
    refine sj_callVd C 14 rfl dX7_findSheetError_11 cv_X7_173 rfl (ct_X7_readsStroke _ (sj_tS_mm hm p9 k f) (sj_tS_ps_b hm hps hp9 k f) k (by omega) (sj_tS_14 S h b p9 k f)) rfl rfl rfl ⟨_, _, kd_h, rfl, rfl, by decide⟩ ⟨rfl, rfl⟩ ?_
    rw [sj_tS_r]
    refine sj_if_eq C 53 17 rfl rfl dX7_findSheetError_14 (fun c_14 => ?_) (fun c_14 => ?_)
    · refine sj_aload_n C 54 rfl dX7_findSheetError_53 rfl rfl ?_
      refine sj_getI C 57 rfl fd_X7_161 dX7_findSheetError_54 kd_h ?_
      rw [sj_tS_9]
      refine sj_iret C hR rfl rfl dX7_findSheetError_57 ?_
      have e8 := hres.symm.trans (sj_shx_1 (sj_bi0.mp c_14))
      rw [e8]
      exact ⟨rfl, rfl⟩
    · have hok : ¬ (sj_rst (sj_ia S (b 7)) n p9).1 = false := fun h8 => c_14 (by rw [h8]; rfl)
      have ek2 : sj_k2 (sj_rst (sj_ia S (b 7)) n p9) k = k + 1 := by
        obtain ⟨w, hw⟩ := (sj_rst_le (B := (sj_ia S (b 7))) hp9).2 (sj_bin.mp c_14)
        unfold sj_k2
        rw [hw]
      rw [ek2]
      refine sj_aload_n C 18 rfl dX7_findSheetError_17 rfl rfl ?_
      refine sj_getI C 21 rfl fd_X7_161 dX7_findSheetError_18 kd_h ?_
      refine sj_aload_n C 22 rfl dX7_findSheetError_21 rfl rfl ?_
      refine sj_getI C 25 rfl fd_X7_139 dX7_findSheetError_22 kd_h ?_
      rw [sj_tS_9, sj_tS_o S h b _ _ _ (show 8 ≠ 9 by omega) (by omega), hn]
      refine sj_icmp_ne C 30 28 rfl rfl dX7_findSheetError_25 (fun c_25 => ?_) (fun c_25 => ?_)
      · have hpn9 : ¬ (sj_rst (sj_ia S (b 7)) n p9).2.1 = n := fun h8 => c_25 (by rw [h8])
        refine sj_aload_n C 31 rfl dX7_findSheetError_30 rfl rfl ?_
        refine sj_getI C 34 rfl fd_X7_136 dX7_findSheetError_31 kd_h ?_
        refine sj_bipush C (8) 36 rfl dX7_findSheetError_34 (by decide) ?_
        rw [sj_tS_14]
        refine sj_icmp_eq C 48 39 rfl rfl dX7_findSheetError_36 (fun c_36 => ?_) (fun c_36 => ?_)
        · have hk8 : k + 1 = 8 := (nI_eq (b := 8) (by omega) (by omega)).mp c_36
          refine sj_aload_n C 49 rfl dX7_findSheetError_48 rfl rfl ?_
          refine sj_getI C 52 rfl fd_X7_161 dX7_findSheetError_49 kd_h ?_
          rw [sj_tS_9]
          refine sj_iret C hR rfl rfl dX7_findSheetError_52 ?_
          have e8 := hres.symm.trans (sj_shx_3 hok hpn9 hk8)
          rw [e8]
          exact ⟨rfl, rfl⟩
        · have hk8 : ¬ k + 1 = 8 := fun h8 => c_36 (by rw [h8]; rfl)
          refine sj_aload_n C 40 rfl dX7_findSheetError_39 rfl rfl ?_
          refine sj_bipush C (44) 42 rfl dX7_findSheetError_40 (by decide) ?_
          refine sj_callVd C 45 rfl dX7_findSheetError_42 cv_X7_167 rfl (ct_X7_takes _ (sj_tS_mm hm _ _ _) (sj_tS_ps_b hm hps hle _ _) 44) rfl rfl rfl ⟨_, _, kd_h, rfl, rfl, by decide⟩ ⟨rfl, rfl⟩ ?_
          rw [sj_tS_w9]
          refine sj_if_ne C 10 48 rfl rfl dX7_findSheetError_45 (fun c_45 => ?_) (fun c_45 => ?_)
          · refine ih j (by omega) (k + 1) _ _ (by omega) (by omega) (sj_tk_le (by decide) hle) ?_
            rw [← hres]
            exact (sj_shx_4 hok hpn9 hk8 (of_decide_eq_true (sj_bin.mp c_45))).symm
          · skip
            refine sj_aload_n C 49 rfl dX7_findSheetError_48 rfl rfl ?_
            refine sj_getI C 52 rfl fd_X7_161 dX7_findSheetError_49 kd_h ?_
            rw [sj_tS_9]
            refine sj_iret C hR rfl rfl dX7_findSheetError_52 ?_
            have e8 := hres.symm.trans (sj_shx_5 hok hpn9 hk8 (of_decide_eq_false (sj_bi0.mp c_45)))
            rw [e8]
            exact ⟨rfl, rfl⟩
      · have hpn9 : (sj_rst (sj_ia S (b 7)) n p9).2.1 = n := (nI_eq (by omega) (by omega)).mp c_25
        refine sj_iconstv C (-1) 29 rfl dX7_findSheetError_28 rfl ?_
        refine sj_iret C hR rfl rfl dX7_findSheetError_29 ?_
        have e8 := hres.symm.trans (sj_shx_2 hok hpn9)
        rw [e8]
        exact ⟨rfl, rfl⟩
  refine sj_aload_n C 1 rfl dX7_findSheetError_0 rfl rfl ?_
  refine sj_iconstv C (0) 2 rfl dX7_findSheetError_1 rfl ?_
  refine sj_putI C 5 rfl fd_X7_161 dX7_findSheetError_2 rfl rfl kd_h ?_
  refine sj_aload_n C 6 rfl dX7_findSheetError_5 rfl rfl ?_
  refine sj_iconstv C (0) 7 rfl dX7_findSheetError_6 rfl ?_
  refine sj_putI C 10 rfl fd_X7_136 dX7_findSheetError_7 rfl rfl kd_h ?_
  have h9 := cut_10 8 0 0 (sj_ia S (b 13)) (by omega) (by omega) (Nat.zero_le _) rfl
  rw [show sj_tS S h b 0 0 (sj_ia S (b 13)) = sj_wFi (sj_wFi S h 9 0) h 14 0 from congrArg (fun T => sj_wFi T h 14 0) (sj_sIa_id (sj_wFi S h 9 0) (b 13))] at h9
  exact h9
set_option maxRecDepth 100000 in
set_option maxHeartbeats 400000 in
theorem ct_X7_isSheetText_b (l : Launch) {S : sj_St} {h : Nat} {b : Nat → Nat} {m : Nat → Int32} (hm : sj_mm S h b m) {n : Nat} {B : Nat → Int32} (hps : sj_pb S h b n B) : sj_Ctr l mX7_isSheetText [.ref h] S (sj_eq (some (.int (sj_bi (decide ((sj_sht B n (sj_ia S (b 13))).1 = -1))))) (sj_tS S h b (sj_sht B n (sj_ia S (b 13))).2.1 (sj_sht B n (sj_ia S (b 13))).2.2.1 (sj_sht B n (sj_ia S (b 13))).2.2.2)) := by
  refine sj_start ([some (.ref h)]) (by decide +kernel) rfl rfl (fun X hX C hR => ?_)
  subst hX
  have hm0 := hm
  obtain ⟨hm', em⟩ := hm0
  subst em
  obtain ⟨kd_h, ⟨rf_h_1, kd_a1, il_a1⟩, ⟨rf_h_2, kd_a2, il_a2⟩, ⟨rf_h_3, kd_a3, il_a3⟩, ⟨rf_h_5, kd_a5, il_a5⟩, ⟨rf_h_7, kd_a7, il_a7⟩, ⟨rf_h_13, kd_a13, il_a13⟩, ⟨rf_h_15, kd_a15, il_a15⟩, hinj⟩ := hm'
  obtain ⟨hn, hn60, hB⟩ := id hps
  subst hB
  refine sj_aload_n C 1 rfl dX7_isSheetText_0 rfl rfl ?_
  refine sj_callVd C 4 rfl dX7_isSheetText_1 cv_X7_176 rfl (ct_X7_findSheetError_b _ hm hps) rfl rfl rfl ⟨_, _, kd_h, rfl, rfl, by decide⟩ ⟨rfl, rfl⟩ ?_
  refine sj_iconstv C (-1) 5 rfl dX7_isSheetText_4 rfl ?_
  refine sj_icmp_ne C 12 8 rfl rfl dX7_isSheetText_5 (fun c_5 => ?_) (fun c_5 => ?_)
  · refine sj_iconstv C (0) 13 rfl dX7_isSheetText_12 rfl ?_
    refine sj_zret C hR rfl rfl rfl dX7_isSheetText_13 ?_
    refine ⟨congrArg (fun z => some (Value.int z)) ?_, rfl⟩
    rw [decide_eq_false c_5]
    rfl
  · refine sj_iconstv C (1) 9 rfl dX7_isSheetText_8 rfl ?_
    refine sj_goto C 13 rfl dX7_isSheetText_9 ?_
    refine sj_zret C hR rfl rfl rfl dX7_isSheetText_13 ?_
    refine ⟨congrArg (fun z => some (Value.int z)) ?_, rfl⟩
    rw [decide_eq_true c_5]
    rfl
theorem sj_pS_ps_b {S : sj_St} {h : Nat} {b : Nat → Nat} {n : Nat} {B : Nat → Int32} (hps : sj_pb S h b n B) {p : Nat} (hp : p ≤ n) (sg f1 f2 : Int32) : sj_ps (sj_pS S h p sg f1 f2) h b n B p := ⟨(sj_pS_o S h p sg f1 f2 (Or.inl (by omega))).trans hps.1, hps.2.1, sj_pS_9 S h p sg f1 f2, hp, hps.2.2⟩
set_option maxRecDepth 100000 in
set_option maxHeartbeats 400000 in
theorem ct_X7_readsPart_b (l : Launch) {S : sj_St} {h : Nat} {b : Nat → Nat} {m : Nat → Int32} (hm : sj_mm S h b m) {n : Nat} {B : Nat → Int32} (hps : sj_pb S h b n B) {p : Nat} (hp : p ≤ n) (sg f1 f2 : Int32) : sj_Ctr l mX7_readsPart [.ref h] (sj_pS S h p sg f1 f2) (sj_eq (some (.int (sj_bi (sj_prt B n p).1))) (sj_pR S h f1 f2 (sj_prt B n p))) := by
  refine sj_start ([some (.ref h)]) (by decide +kernel) rfl rfl (fun X hX C hR => ?_)
  subst hX
  have hm0 := hm
  obtain ⟨hm', em⟩ := hm0
  subst em
  obtain ⟨kd_h, ⟨rf_h_1, kd_a1, il_a1⟩, ⟨rf_h_2, kd_a2, il_a2⟩, ⟨rf_h_3, kd_a3, il_a3⟩, ⟨rf_h_5, kd_a5, il_a5⟩, ⟨rf_h_7, kd_a7, il_a7⟩, ⟨rf_h_13, kd_a13, il_a13⟩, ⟨rf_h_15, kd_a15, il_a15⟩, hinj⟩ := hm'
  obtain ⟨hn, hn60, hB⟩ := id hps
  subst hB
  have cut_86 : ∀ (r1 : Int32) (q : Nat), q ≤ n → (sj_prt (sj_ia S (b 7)) n p) = sj_p2 (sj_ia S (b 7)) n (sj_nx (sj_ia S (b 7)) n p) r1 q → sj_G X (sj_pS S h q (sj_nx (sj_ia S (b 7)) n p) r1 f2) 0 0 [some (.ref h)] 86 [] := by
    intro r1 q hq hres
    refine sj_aload_n C 87 rfl dX7_readsPart_86 rfl rfl ?_
    refine sj_getI C 90 rfl fd_X7_182 dX7_readsPart_87 kd_h ?_
    rw [sj_pS_11]
    refine sj_iconstv C (-1) 91 rfl dX7_readsPart_90 rfl ?_
    refine sj_icmp_eq C 112 94 rfl rfl dX7_readsPart_91 (fun c_91 => ?_) (fun c_91 => ?_)
    · refine sj_aload_n C 113 rfl dX7_readsPart_112 rfl rfl ?_
      refine sj_getI C 116 rfl fd_X7_182 dX7_readsPart_113 kd_h ?_
      rw [sj_pS_11]
      refine sj_iconstv C (-1) 117 rfl dX7_readsPart_116 rfl ?_
      refine sj_icmp_eq C 124 120 rfl rfl dX7_readsPart_117 (fun c_117 => ?_) (fun c_117 => ?_)
      · refine sj_iconstv C (0) 125 rfl dX7_readsPart_124 rfl ?_
        refine sj_zret C hR rfl rfl rfl dX7_readsPart_125 ?_
        have e8 : (sj_prt (sj_ia S (b 7)) n p) = (decide (¬ r1 = -1), q, (sj_nx (sj_ia S (b 7)) n p), some r1, none) := hres.trans (if_pos (Or.inl c_91))
        rw [e8, decide_eq_false (p := ¬ r1 = -1) (fun h8 => h8 c_117)]
        exact ⟨rfl, rfl⟩
      · refine sj_iconstv C (1) 121 rfl dX7_readsPart_120 rfl ?_
        refine sj_goto C 125 rfl dX7_readsPart_121 ?_
        refine sj_zret C hR rfl rfl rfl dX7_readsPart_125 ?_
        have e8 : (sj_prt (sj_ia S (b 7)) n p) = (decide (¬ r1 = -1), q, (sj_nx (sj_ia S (b 7)) n p), some r1, none) := hres.trans (if_pos (Or.inl c_91))
        rw [e8, decide_eq_true (p := ¬ r1 = -1) c_117]
        exact ⟨rfl, rfl⟩
    · refine sj_aload_n C 95 rfl dX7_readsPart_94 rfl rfl ?_
      refine sj_getI C 98 rfl fd_X7_179 dX7_readsPart_95 kd_h ?_
      rw [sj_pS_10]
      refine sj_bipush C (121) 100 rfl dX7_readsPart_98 (by decide) ?_
      refine sj_icmp_eq C 112 103 rfl rfl dX7_readsPart_100 (fun c_100 => ?_) (fun c_100 => ?_)
      · refine sj_aload_n C 113 rfl dX7_readsPart_112 rfl rfl ?_
        refine sj_getI C 116 rfl fd_X7_182 dX7_readsPart_113 kd_h ?_
        rw [sj_pS_11]
        refine sj_iconstv C (-1) 117 rfl dX7_readsPart_116 rfl ?_
        refine sj_icmp_eq C 124 120 rfl rfl dX7_readsPart_117 (fun c_117 => ?_) (fun c_117 => ?_)
        · refine sj_iconstv C (0) 125 rfl dX7_readsPart_124 rfl ?_
          refine sj_zret C hR rfl rfl rfl dX7_readsPart_125 ?_
          have e8 : (sj_prt (sj_ia S (b 7)) n p) = (decide (¬ r1 = -1), q, (sj_nx (sj_ia S (b 7)) n p), some r1, none) := hres.trans (if_pos (Or.inr (Or.inl c_100)))
          rw [e8, decide_eq_false (p := ¬ r1 = -1) (fun h8 => h8 c_117)]
          exact ⟨rfl, rfl⟩
        · refine sj_iconstv C (1) 121 rfl dX7_readsPart_120 rfl ?_
          refine sj_goto C 125 rfl dX7_readsPart_121 ?_
          refine sj_zret C hR rfl rfl rfl dX7_readsPart_125 ?_
          have e8 : (sj_prt (sj_ia S (b 7)) n p) = (decide (¬ r1 = -1), q, (sj_nx (sj_ia S (b 7)) n p), some r1, none) := hres.trans (if_pos (Or.inr (Or.inl c_100)))
          rw [e8, decide_eq_true (p := ¬ r1 = -1) c_117]
          exact ⟨rfl, rfl⟩
      · refine sj_aload_n C 104 rfl dX7_readsPart_103 rfl rfl ?_
        refine sj_getI C 107 rfl fd_X7_179 dX7_readsPart_104 kd_h ?_
        rw [sj_pS_10]
        refine sj_bipush C (100) 109 rfl dX7_readsPart_107 (by decide) ?_
        refine sj_icmp_ne C 126 112 rfl rfl dX7_readsPart_109 (fun c_109 => ?_) (fun c_109 => ?_)
        · refine sj_aload_n C 127 rfl dX7_readsPart_126 rfl rfl ?_
          refine sj_bipush C (47) 129 rfl dX7_readsPart_127 (by decide) ?_
          refine sj_callVd C 132 rfl dX7_readsPart_129 cv_X7_167 rfl (ct_X7_takes _ (sj_pS_mm hm q _ r1 f2) (sj_pS_ps_b hps hq _ r1 f2) 47) rfl rfl rfl ⟨_, _, kd_h, rfl, rfl, by decide⟩ ⟨rfl, rfl⟩ ?_
          rw [sj_pS_w9]
          refine sj_if_ne C 137 135 rfl rfl dX7_readsPart_132 (fun c_132 => ?_) (fun c_132 => ?_)
          · have hq47 : sj_tk (sj_ia S (b 7)) n 47 q ≤ n := sj_tk_le (by decide) hq
            refine sj_aload_n C 138 rfl dX7_readsPart_137 rfl rfl ?_
            refine sj_aload_n C 139 rfl dX7_readsPart_138 rfl rfl ?_
            refine sj_iconstv C (0) 140 rfl dX7_readsPart_139 rfl ?_
            refine sj_bipush C (7) 142 rfl dX7_readsPart_140 (by decide) ?_
            refine sj_callVd C 145 rfl dX7_readsPart_142 cv_X7_170 rfl (ct_X7_readNumber _ (sj_pS_mm hm _ _ r1 f2) (sj_pS_ps_b hps hq47 _ r1 f2) 0 7 (by decide)) rfl rfl rfl ⟨_, _, kd_h, rfl, rfl, by decide⟩ ⟨rfl, rfl⟩ ?_
            rw [sj_pS_w9]
            refine sj_putI C 148 rfl fd_X7_185 dX7_readsPart_145 rfl rfl kd_h ?_
            rw [sj_pS_w12]
            refine sj_aload_n C 149 rfl dX7_readsPart_148 rfl rfl ?_
            refine sj_getI C 152 rfl fd_X7_185 dX7_readsPart_149 kd_h ?_
            rw [sj_pS_12]
            refine sj_iconstv C (-1) 153 rfl dX7_readsPart_152 rfl ?_
            refine sj_icmp_eq C 160 156 rfl rfl dX7_readsPart_153 (fun c_153 => ?_) (fun c_153 => ?_)
            · refine sj_iconstv C (0) 161 rfl dX7_readsPart_160 rfl ?_
              refine sj_zret C hR rfl rfl rfl dX7_readsPart_161 ?_
              have e8 : (sj_prt (sj_ia S (b 7)) n p) = (decide (¬ (sj_rdn (sj_ia S (b 7)) n 0 7 (sj_tk (sj_ia S (b 7)) n 47 q)).1 = -1), (sj_rdn (sj_ia S (b 7)) n 0 7 (sj_tk (sj_ia S (b 7)) n 47 q)).2, (sj_nx (sj_ia S (b 7)) n p), some r1, some (sj_rdn (sj_ia S (b 7)) n 0 7 (sj_tk (sj_ia S (b 7)) n 47 q)).1) := hres.trans ((if_neg (fun h8 => h8.elim c_91 (fun h8 => h8.elim c_100 c_109))).trans (if_pos (of_decide_eq_true (sj_bin.mp c_132))))
              rw [e8, decide_eq_false (p := ¬ (sj_rdn (sj_ia S (b 7)) n 0 7 (sj_tk (sj_ia S (b 7)) n 47 q)).1 = -1) (fun h8 => h8 c_153)]
              exact ⟨rfl, rfl⟩
            · refine sj_iconstv C (1) 157 rfl dX7_readsPart_156 rfl ?_
              refine sj_goto C 161 rfl dX7_readsPart_157 ?_
              refine sj_zret C hR rfl rfl rfl dX7_readsPart_161 ?_
              have e8 : (sj_prt (sj_ia S (b 7)) n p) = (decide (¬ (sj_rdn (sj_ia S (b 7)) n 0 7 (sj_tk (sj_ia S (b 7)) n 47 q)).1 = -1), (sj_rdn (sj_ia S (b 7)) n 0 7 (sj_tk (sj_ia S (b 7)) n 47 q)).2, (sj_nx (sj_ia S (b 7)) n p), some r1, some (sj_rdn (sj_ia S (b 7)) n 0 7 (sj_tk (sj_ia S (b 7)) n 47 q)).1) := hres.trans ((if_neg (fun h8 => h8.elim c_91 (fun h8 => h8.elim c_100 c_109))).trans (if_pos (of_decide_eq_true (sj_bin.mp c_132))))
              rw [e8, decide_eq_true (p := ¬ (sj_rdn (sj_ia S (b 7)) n 0 7 (sj_tk (sj_ia S (b 7)) n 47 q)).1 = -1) c_153]
              exact ⟨rfl, rfl⟩
          · refine sj_iconstv C (0) 136 rfl dX7_readsPart_135 rfl ?_
            refine sj_zret C hR rfl rfl rfl dX7_readsPart_136 ?_
            have e8 : (sj_prt (sj_ia S (b 7)) n p) = (false, sj_tk (sj_ia S (b 7)) n 47 q, (sj_nx (sj_ia S (b 7)) n p), some r1, none) := hres.trans ((if_neg (fun h8 => h8.elim c_91 (fun h8 => h8.elim c_100 c_109))).trans (if_neg (of_decide_eq_false (sj_bi0.mp c_132))))
            rw [e8]
            exact ⟨rfl, rfl⟩
        · refine sj_aload_n C 113 rfl dX7_readsPart_112 rfl rfl ?_
          refine sj_getI C 116 rfl fd_X7_182 dX7_readsPart_113 kd_h ?_
          rw [sj_pS_11]
          refine sj_iconstv C (-1) 117 rfl dX7_readsPart_116 rfl ?_
          refine sj_icmp_eq C 124 120 rfl rfl dX7_readsPart_117 (fun c_117 => ?_) (fun c_117 => ?_)
          · refine sj_iconstv C (0) 125 rfl dX7_readsPart_124 rfl ?_
            refine sj_zret C hR rfl rfl rfl dX7_readsPart_125 ?_
            have e8 : (sj_prt (sj_ia S (b 7)) n p) = (decide (¬ r1 = -1), q, (sj_nx (sj_ia S (b 7)) n p), some r1, none) := hres.trans (if_pos (Or.inr (Or.inr c_109)))
            rw [e8, decide_eq_false (p := ¬ r1 = -1) (fun h8 => h8 c_117)]
            exact ⟨rfl, rfl⟩
          · refine sj_iconstv C (1) 121 rfl dX7_readsPart_120 rfl ?_
            refine sj_goto C 125 rfl dX7_readsPart_121 ?_
            refine sj_zret C hR rfl rfl rfl dX7_readsPart_125 ?_
            have e8 : (sj_prt (sj_ia S (b 7)) n p) = (decide (¬ r1 = -1), q, (sj_nx (sj_ia S (b 7)) n p), some r1, none) := hres.trans (if_pos (Or.inr (Or.inr c_109)))
            rw [e8, decide_eq_true (p := ¬ r1 = -1) c_117]
            exact ⟨rfl, rfl⟩
  have cut_46 : ((sj_nx (sj_ia S (b 7)) n p) = 108 ∨ (sj_nx (sj_ia S (b 7)) n p) = 117 ∨ (sj_nx (sj_ia S (b 7)) n p) = 121 ∨ (sj_nx (sj_ia S (b 7)) n p) = 100) → sj_G X (sj_pS S h p (sj_nx (sj_ia S (b 7)) n p) f1 f2) 0 0 [some (.ref h)] 46 [] := by
    intro hsg
    have hlt := sj_sg_lt hsg
    refine sj_aload_n C 47 rfl dX7_readsPart_46 rfl rfl ?_
    refine sj_dup C 48 rfl dX7_readsPart_47 rfl ?_
    refine sj_getI C 51 rfl fd_X7_161 dX7_readsPart_48 kd_h ?_
    rw [sj_pS_9]
    refine sj_iconstv C (1) 52 rfl dX7_readsPart_51 rfl ?_
    refine sj_iadd C 53 rfl dX7_readsPart_52 ?_
    rw [nI_1]
    refine sj_putI C 56 rfl fd_X7_161 dX7_readsPart_53 rfl rfl kd_h ?_
    rw [sj_pS_w9]
    refine sj_aload_n C 57 rfl dX7_readsPart_56 rfl rfl ?_
    refine sj_aload_n C 58 rfl dX7_readsPart_57 rfl rfl ?_
    refine sj_getI C 61 rfl fd_X7_179 dX7_readsPart_58 kd_h ?_
    rw [sj_pS_10]
    refine sj_bipush C (121) 63 rfl dX7_readsPart_61 (by decide) ?_
    refine sj_icmp_ne C 76 66 rfl rfl dX7_readsPart_63 (fun c_63 => ?_) (fun c_63 => ?_)
    · refine sj_aload_n C 77 rfl dX7_readsPart_76 rfl rfl ?_
      refine sj_iconstv C (0) 78 rfl dX7_readsPart_77 rfl ?_
      refine sj_bipush C (7) 80 rfl dX7_readsPart_78 (by decide) ?_
      refine sj_callVd C 83 rfl dX7_readsPart_80 cv_X7_170 rfl (ct_X7_readNumber _ (sj_pS_mm hm (p + 1) _ f1 f2) (sj_pS_ps_b hps hlt _ f1 f2) 0 7 (by decide)) rfl rfl rfl ⟨_, _, kd_h, rfl, rfl, by decide⟩ ⟨rfl, rfl⟩ ?_
      rw [sj_pS_w9]
      refine sj_putI C 86 rfl fd_X7_182 dX7_readsPart_83 rfl rfl kd_h ?_
      rw [sj_pS_w11]
      exact cut_86 _ _ (sj_rdn_le (by decide) hlt) ((if_pos hsg).trans (if_neg c_63))
    · refine sj_aload_n C 67 rfl dX7_readsPart_66 rfl rfl ?_
      refine sj_iconstv C (1) 68 rfl dX7_readsPart_67 rfl ?_
      refine sj_bipush C (99) 70 rfl dX7_readsPart_68 (by decide) ?_
      refine sj_callVd C 73 rfl dX7_readsPart_70 cv_X7_170 rfl (ct_X7_readNumber _ (sj_pS_mm hm (p + 1) _ f1 f2) (sj_pS_ps_b hps hlt _ f1 f2) 1 99 (by decide)) rfl rfl rfl ⟨_, _, kd_h, rfl, rfl, by decide⟩ ⟨rfl, rfl⟩ ?_
      rw [sj_pS_w9]
      refine sj_goto C 83 rfl dX7_readsPart_73 ?_
      refine sj_putI C 86 rfl fd_X7_182 dX7_readsPart_83 rfl rfl kd_h ?_
      rw [sj_pS_w11]
      exact cut_86 _ _ (sj_rdn_le (by decide) hlt) ((if_pos hsg).trans (if_pos c_63))
  refine sj_aload_n C 1 rfl dX7_readsPart_0 rfl rfl ?_
  refine sj_aload_n C 2 rfl dX7_readsPart_1 rfl rfl ?_
  refine sj_callVd C 5 rfl dX7_readsPart_2 cv_X7_164 rfl (ct_X7_next _ (sj_pS_mm hm p sg f1 f2) (sj_pS_ps_b hps hp sg f1 f2)) rfl rfl rfl ⟨_, _, kd_h, rfl, rfl, by decide⟩ ⟨rfl, rfl⟩ ?_
  refine sj_putI C 8 rfl fd_X7_179 dX7_readsPart_5 rfl rfl kd_h ?_
  rw [sj_pS_w10]
  refine sj_aload_n C 9 rfl dX7_readsPart_8 rfl rfl ?_
  refine sj_getI C 12 rfl fd_X7_179 dX7_readsPart_9 kd_h ?_
  rw [sj_pS_10]
  refine sj_bipush C (108) 14 rfl dX7_readsPart_12 (by decide) ?_
  refine sj_icmp_eq C 46 17 rfl rfl dX7_readsPart_14 (fun c_14 => ?_) (fun c_14 => ?_)
  · exact cut_46 (Or.inl c_14)
  · refine sj_aload_n C 18 rfl dX7_readsPart_17 rfl rfl ?_
    refine sj_getI C 21 rfl fd_X7_179 dX7_readsPart_18 kd_h ?_
    rw [sj_pS_10]
    refine sj_bipush C (117) 23 rfl dX7_readsPart_21 (by decide) ?_
    refine sj_icmp_eq C 46 26 rfl rfl dX7_readsPart_23 (fun c_23 => ?_) (fun c_23 => ?_)
    · exact cut_46 (Or.inr (Or.inl c_23))
    · refine sj_aload_n C 27 rfl dX7_readsPart_26 rfl rfl ?_
      refine sj_getI C 30 rfl fd_X7_179 dX7_readsPart_27 kd_h ?_
      rw [sj_pS_10]
      refine sj_bipush C (121) 32 rfl dX7_readsPart_30 (by decide) ?_
      refine sj_icmp_eq C 46 35 rfl rfl dX7_readsPart_32 (fun c_32 => ?_) (fun c_32 => ?_)
      · exact cut_46 (Or.inr (Or.inr (Or.inl c_32)))
      · refine sj_aload_n C 36 rfl dX7_readsPart_35 rfl rfl ?_
        refine sj_getI C 39 rfl fd_X7_179 dX7_readsPart_36 kd_h ?_
        rw [sj_pS_10]
        refine sj_bipush C (100) 41 rfl dX7_readsPart_39 (by decide) ?_
        refine sj_icmp_eq C 46 44 rfl rfl dX7_readsPart_41 (fun c_41 => ?_) (fun c_41 => ?_)
        · exact cut_46 (Or.inr (Or.inr (Or.inr c_41)))
        · refine sj_iconstv C (0) 45 rfl dX7_readsPart_44 rfl ?_
          refine sj_zret C hR rfl rfl rfl dX7_readsPart_45 ?_
          have e8 : (sj_prt (sj_ia S (b 7)) n p) = (false, p, (sj_nx (sj_ia S (b 7)) n p), none, none) := if_neg (fun h8 => h8.elim c_14 (fun h8 => h8.elim c_23 (fun h8 => h8.elim c_32 c_41)))
          rw [e8]
          exact ⟨rfl, rfl⟩
set_option maxRecDepth 100000 in
set_option maxHeartbeats 400000 in
theorem ct_X7_findWorksError_b (l : Launch) {S : sj_St} {h : Nat} {b : Nat → Nat} {m : Nat → Int32} (hm : sj_mm S h b m) {n : Nat} {B : Nat → Int32} (hps : sj_pb S h b n B) : sj_Ctr l mX7_findWorksError [.ref h] S (sj_eq (some (.int (sj_wkt B n (sj_fi S h 10) (sj_fi S h 11) (sj_fi S h 12)).1)) (sj_pW S h (sj_wkt B n (sj_fi S h 10) (sj_fi S h 11) (sj_fi S h 12)))) := by
  refine sj_start ([some (.ref h)]) (by decide +kernel) rfl rfl (fun X hX C hR => ?_)
  subst hX
  have hm0 := hm
  obtain ⟨hm', em⟩ := hm0
  subst em
  obtain ⟨kd_h, ⟨rf_h_1, kd_a1, il_a1⟩, ⟨rf_h_2, kd_a2, il_a2⟩, ⟨rf_h_3, kd_a3, il_a3⟩, ⟨rf_h_5, kd_a5, il_a5⟩, ⟨rf_h_7, kd_a7, il_a7⟩, ⟨rf_h_13, kd_a13, il_a13⟩, ⟨rf_h_15, kd_a15, il_a15⟩, hinj⟩ := hm'
  obtain ⟨hn, hn60, hB⟩ := id hps
  subst hB
  have cut_5 : ∀ j, ∀ p sg f1 f2, p ≤ n → n - p < j → sj_wkx (sj_ia S (b 7)) n j p sg f1 f2 = (sj_wkt (sj_ia S (b 7)) n (sj_fi S h 10) (sj_fi S h 11) (sj_fi S h 12)) → sj_G X (sj_pS S h p sg f1 f2) 0 0 [some (.ref h)] 5 [] := by
    refine sj_strong _ (fun j ih => ?_)
    intro p sg f1 f2 hp hj hres
    obtain ⟨j, rfl⟩ : ∃ i, j = i + 1 := ⟨j - 1, by omega⟩
    have hle := sj_prt_le (B := (sj_ia S (b 7))) hp
    refine sj_aload_n C 6 rfl dX7_findWorksError_5 rfl rfl ?_
    refine sj_callVd C 9 rfl dX7_findWorksError_6 cv_X7_188 rfl (ct_X7_readsPart_b _ hm hps hp sg f1 f2) rfl rfl rfl ⟨_, _, kd_h, rfl, rfl, by decide⟩ ⟨rfl, rfl⟩ ?_
    rw [show sj_pR S h f1 f2 (sj_prt (sj_ia S (b 7)) n p) = sj_pS S h (sj_prt (sj_ia S (b 7)) n p).2.1 (sj_prt (sj_ia S (b 7)) n p).2.2.1 ((sj_prt (sj_ia S (b 7)) n p).2.2.2.1.getD f1) ((sj_prt (sj_ia S (b 7)) n p).2.2.2.2.getD f2) from rfl]
    refine sj_if_eq C 39 12 rfl rfl dX7_findWorksError_9 (fun c_9 => ?_) (fun c_9 => ?_)
    · refine sj_aload_n C 40 rfl dX7_findWorksError_39 rfl rfl ?_
      refine sj_getI C 43 rfl fd_X7_161 dX7_findWorksError_40 kd_h ?_
      rw [sj_pS_9]
      refine sj_iret C hR rfl rfl dX7_findWorksError_43 ?_
      have e8 := hres.symm.trans (sj_wkx_1 (sj_bi0.mp c_9))
      rw [e8]
      exact ⟨rfl, rfl⟩
    · have hok : ¬ (sj_prt (sj_ia S (b 7)) n p).1 = false := fun h8 => c_9 (by rw [h8]; rfl)
      refine sj_aload_n C 13 rfl dX7_findWorksError_12 rfl rfl ?_
      refine sj_getI C 16 rfl fd_X7_161 dX7_findWorksError_13 kd_h ?_
      refine sj_aload_n C 17 rfl dX7_findWorksError_16 rfl rfl ?_
      refine sj_getI C 20 rfl fd_X7_139 dX7_findWorksError_17 kd_h ?_
      rw [sj_pS_9, sj_pS_o S h _ _ _ _ (j := 8) (Or.inl (by omega)), hn]
      refine sj_icmp_ne C 25 23 rfl rfl dX7_findWorksError_20 (fun c_20 => ?_) (fun c_20 => ?_)
      · have hpn9 : ¬ (sj_prt (sj_ia S (b 7)) n p).2.1 = n := fun h8 => c_20 (by rw [h8])
        refine sj_aload_n C 26 rfl dX7_findWorksError_25 rfl rfl ?_
        refine sj_bipush C (59) 28 rfl dX7_findWorksError_26 (by decide) ?_
        refine sj_callVd C 31 rfl dX7_findWorksError_28 cv_X7_167 rfl (ct_X7_takes _ (sj_pS_mm hm _ _ _ _) (sj_pS_ps_b hps hle.2.1 _ _ _) 59) rfl rfl rfl ⟨_, _, kd_h, rfl, rfl, by decide⟩ ⟨rfl, rfl⟩ ?_
        rw [sj_pS_w9]
        refine sj_if_ne C 5 34 rfl rfl dX7_findWorksError_31 (fun c_31 => ?_) (fun c_31 => ?_)
        · have hgo := hle.2.2 (sj_bin.mp c_9)
          have htk := sj_tk_ge (sj_ia S (b 7)) n 59 (sj_prt (sj_ia S (b 7)) n p).2.1
          exact ih j (by omega) _ _ _ _ (sj_tk_le (by decide) hle.2.1) (by omega) ((sj_wkx_3 hok hpn9 (of_decide_eq_true (sj_bin.mp c_31))).symm.trans hres)
        · refine sj_aload_n C 35 rfl dX7_findWorksError_34 rfl rfl ?_
          refine sj_getI C 38 rfl fd_X7_161 dX7_findWorksError_35 kd_h ?_
          rw [sj_pS_9]
          refine sj_iret C hR rfl rfl dX7_findWorksError_38 ?_
          have e8 := hres.symm.trans (sj_wkx_4 hok hpn9 (of_decide_eq_false (sj_bi0.mp c_31)))
          rw [e8]
          exact ⟨rfl, rfl⟩
      · have hpn9 : (sj_prt (sj_ia S (b 7)) n p).2.1 = n := (nI_eq (by omega) (by omega)).mp c_20
        refine sj_iconstv C (-1) 24 rfl dX7_findWorksError_23 rfl ?_
        refine sj_iret C hR rfl rfl dX7_findWorksError_24 ?_
        have e8 := hres.symm.trans (sj_wkx_2 hok hpn9)
        rw [e8]
        exact ⟨rfl, rfl⟩
  refine sj_aload_n C 1 rfl dX7_findWorksError_0 rfl rfl ?_
  refine sj_iconstv C (0) 2 rfl dX7_findWorksError_1 rfl ?_
  refine sj_putI C 5 rfl fd_X7_161 dX7_findWorksError_2 rfl rfl kd_h ?_
  have h9 := cut_5 (n + 1) 0 (sj_fi S h 10) (sj_fi S h 11) (sj_fi S h 12) (Nat.zero_le _) (by omega) rfl
  rw [sj_pS_id0] at h9
  exact h9
theorem sj_ps_0_b {S : sj_St} {h : Nat} {b : Nat → Nat} {n : Nat} {B : Nat → Int32} {v : Int32} (hps : sj_pb S h b n B) : sj_pb (sj_wFi S h 0 v) h b n B := ⟨(sj_fi_wFi_k S h _ (by omega)).trans hps.1, hps.2.1, hps.2.2⟩
set_option maxRecDepth 100000 in
set_option maxHeartbeats 400000 in
theorem ct_X7_firstError_w_b (l : Launch) {S : sj_St} {h : Nat} {b : Nat → Nat} {m : Nat → Int32} (hm : sj_mm S h b m) {n : Nat} {B : Nat → Int32} (hps : sj_pb S h b n B) : sj_Ctr l mX7_firstError [.ref h, .int 1] S (sj_eq (some (.int (if (sj_wkt B n (sj_fi (sj_wFi S h 0 0) h 10) (sj_fi (sj_wFi S h 0 0) h 11) (sj_fi (sj_wFi S h 0 0) h 12)).1 = -1 then nI n else (sj_wkt B n (sj_fi (sj_wFi S h 0 0) h 10) (sj_fi (sj_wFi S h 0 0) h 11) (sj_fi (sj_wFi S h 0 0) h 12)).1))) (sj_pW (sj_wFi S h 0 0) h (sj_wkt B n (sj_fi (sj_wFi S h 0 0) h 10) (sj_fi (sj_wFi S h 0 0) h 11) (sj_fi (sj_wFi S h 0 0) h 12)))) := by
  refine sj_start ([some (.ref h), some (.int 1), none]) (by decide +kernel) rfl rfl (fun X hX C hR => ?_)
  subst hX
  have hm0 := hm
  obtain ⟨hm', em⟩ := hm0
  subst em
  obtain ⟨kd_h, ⟨rf_h_1, kd_a1, il_a1⟩, ⟨rf_h_2, kd_a2, il_a2⟩, ⟨rf_h_3, kd_a3, il_a3⟩, ⟨rf_h_5, kd_a5, il_a5⟩, ⟨rf_h_7, kd_a7, il_a7⟩, ⟨rf_h_13, kd_a13, il_a13⟩, ⟨rf_h_15, kd_a15, il_a15⟩, hinj⟩ := hm'
  obtain ⟨hn, hn60, hB⟩ := id hps
  subst hB
  refine sj_aload_n C 1 rfl dX7_firstError_0 rfl rfl ?_
  refine sj_iconstv C (0) 2 rfl dX7_firstError_1 rfl ?_
  refine sj_putI C 5 rfl fd_X7_31 dX7_firstError_2 rfl rfl kd_h ?_
  refine sj_iload_n C 6 rfl dX7_firstError_5 rfl rfl ?_
  refine sj_if_eq C 16 9 rfl rfl dX7_firstError_6 (fun c_6 => ?_) (fun c_6 => ?_)
  · exact absurd c_6 (by decide)
  · refine sj_aload_n C 10 rfl dX7_firstError_9 rfl rfl ?_
    refine sj_callVd C 13 rfl dX7_firstError_10 cv_X7_191 rfl (ct_X7_findWorksError_b _ (sj_mm_f hm h 0 0) (sj_ps_0_b hps)) rfl rfl rfl ⟨_, _, kd_h, rfl, rfl, by decide⟩ ⟨rfl, rfl⟩ ?_
    refine sj_goto C 20 rfl dX7_firstError_13 ?_
    refine sj_istore_n_2 C 21 rfl dX7_firstError_20 rfl rfl ?_
    refine sj_iload_n C 22 rfl dX7_firstError_21 rfl rfl ?_
    refine sj_iconstv C (-1) 23 rfl dX7_firstError_22 rfl ?_
    refine sj_icmp_ne C 33 26 rfl rfl dX7_firstError_23 (fun c_23 => ?_) (fun c_23 => ?_)
    · refine sj_iload_n C 34 rfl dX7_firstError_33 rfl rfl ?_
      refine sj_iret C hR rfl rfl dX7_firstError_34 ?_
      refine ⟨congrArg (fun z => some (Value.int z)) ?_, rfl⟩
      rw [if_neg c_23]
    · refine sj_aload_n C 27 rfl dX7_firstError_26 rfl rfl ?_
      refine sj_getI C 30 rfl fd_X7_139 dX7_firstError_27 kd_h ?_
      refine sj_goto C 34 rfl dX7_firstError_30 ?_
      refine sj_iret C hR rfl rfl dX7_firstError_34 ?_
      refine ⟨congrArg (fun z => some (Value.int z)) ?_, rfl⟩
      rw [if_pos c_23]
      exact (sj_pS_o _ h _ _ _ _ (j := 8) (Or.inl (by omega))).trans ((sj_fi_wFi_k S h _ (by omega)).trans hn)
set_option maxRecDepth 100000 in
set_option maxHeartbeats 400000 in
theorem ct_X7_firstError_s_b (l : Launch) {S : sj_St} {h : Nat} {b : Nat → Nat} {m : Nat → Int32} (hm : sj_mm S h b m) {n : Nat} {B : Nat → Int32} (hps : sj_pb S h b n B) : sj_Ctr l mX7_firstError [.ref h, .int 0] S (sj_eq (some (.int (if (sj_sht B n (sj_ia (sj_wFi S h 0 0) (b 13))).1 = -1 then nI n else (sj_sht B n (sj_ia (sj_wFi S h 0 0) (b 13))).1))) (sj_tS (sj_wFi S h 0 0) h b (sj_sht B n (sj_ia (sj_wFi S h 0 0) (b 13))).2.1 (sj_sht B n (sj_ia (sj_wFi S h 0 0) (b 13))).2.2.1 (sj_sht B n (sj_ia (sj_wFi S h 0 0) (b 13))).2.2.2)) := by
  refine sj_start ([some (.ref h), some (.int 0), none]) (by decide +kernel) rfl rfl (fun X hX C hR => ?_)
  subst hX
  have hm0 := hm
  obtain ⟨hm', em⟩ := hm0
  subst em
  obtain ⟨kd_h, ⟨rf_h_1, kd_a1, il_a1⟩, ⟨rf_h_2, kd_a2, il_a2⟩, ⟨rf_h_3, kd_a3, il_a3⟩, ⟨rf_h_5, kd_a5, il_a5⟩, ⟨rf_h_7, kd_a7, il_a7⟩, ⟨rf_h_13, kd_a13, il_a13⟩, ⟨rf_h_15, kd_a15, il_a15⟩, hinj⟩ := hm'
  obtain ⟨hn, hn60, hB⟩ := id hps
  subst hB
  refine sj_aload_n C 1 rfl dX7_firstError_0 rfl rfl ?_
  refine sj_iconstv C (0) 2 rfl dX7_firstError_1 rfl ?_
  refine sj_putI C 5 rfl fd_X7_31 dX7_firstError_2 rfl rfl kd_h ?_
  refine sj_iload_n C 6 rfl dX7_firstError_5 rfl rfl ?_
  refine sj_if_eq C 16 9 rfl rfl dX7_firstError_6 (fun c_6 => ?_) (fun c_6 => ?_)
  · refine sj_aload_n C 17 rfl dX7_firstError_16 rfl rfl ?_
    refine sj_callVd C 20 rfl dX7_firstError_17 cv_X7_176 rfl (ct_X7_findSheetError_b _ (sj_mm_f hm h 0 0) (sj_ps_0_b hps)) rfl rfl rfl ⟨_, _, kd_h, rfl, rfl, by decide⟩ ⟨rfl, rfl⟩ ?_
    refine sj_istore_n_2 C 21 rfl dX7_firstError_20 rfl rfl ?_
    refine sj_iload_n C 22 rfl dX7_firstError_21 rfl rfl ?_
    refine sj_iconstv C (-1) 23 rfl dX7_firstError_22 rfl ?_
    refine sj_icmp_ne C 33 26 rfl rfl dX7_firstError_23 (fun c_23 => ?_) (fun c_23 => ?_)
    · refine sj_iload_n C 34 rfl dX7_firstError_33 rfl rfl ?_
      refine sj_iret C hR rfl rfl dX7_firstError_34 ?_
      refine ⟨congrArg (fun z => some (Value.int z)) ?_, rfl⟩
      rw [if_neg c_23]
    · refine sj_aload_n C 27 rfl dX7_firstError_26 rfl rfl ?_
      refine sj_getI C 30 rfl fd_X7_139 dX7_firstError_27 kd_h ?_
      refine sj_goto C 34 rfl dX7_firstError_30 ?_
      refine sj_iret C hR rfl rfl dX7_firstError_34 ?_
      refine ⟨congrArg (fun z => some (Value.int z)) ?_, rfl⟩
      rw [if_pos c_23]
      exact (sj_tS_o _ h b _ _ _ (j := 8) (by omega) (by omega)).trans ((sj_fi_wFi_k S h _ (by omega)).trans hn)
  · exact absurd rfl c_6
set_option maxRecDepth 100000 in
set_option maxHeartbeats 2500000 in
theorem ct_X7_lay_1_b (l : Launch) {S : sj_St} {h : Nat} {b : Nat → Nat} {m : Nat → Int32} (hm : sj_mm S h b m) {n : Nat} {B : Nat → Int32} (hps : sj_pb S h b n B) (r9 : Int32 × Nat × Nat × (Nat → Int32)) (hrd : sj_sht B n (sj_ia (sj_wFi S h 0 0) (b 13)) = r9) (age : Int32) (hb : ¬ r9.1 = -1 ∨ sj_wi age 0 99 = false) : sj_Ctr l mX7_lay [.ref h, .int age] S (sj_eq (some (.int 0)) (sj_wFi (sj_lyT S h b r9) h 0 1)) := by
  refine sj_start ([some (.ref h), some (.int age), none, none]) (by decide +kernel) rfl rfl (fun X hX C hR => ?_)
  subst hX
  have hm0 := hm
  obtain ⟨hm', em⟩ := hm0
  subst em
  obtain ⟨kd_h, ⟨rf_h_1, kd_a1, il_a1⟩, ⟨rf_h_2, kd_a2, il_a2⟩, ⟨rf_h_3, kd_a3, il_a3⟩, ⟨rf_h_5, kd_a5, il_a5⟩, ⟨rf_h_7, kd_a7, il_a7⟩, ⟨rf_h_13, kd_a13, il_a13⟩, ⟨rf_h_15, kd_a15, il_a15⟩, hinj⟩ := hm'
  have hmz := sj_mm_f hm h 0 0
  obtain ⟨hn, hn60, hB⟩ := id hps
  subst hB
  refine sj_aload_n C 1 rfl dX7_lay_0 rfl rfl ?_
  refine sj_iconstv C (0) 2 rfl dX7_lay_1 rfl ?_
  refine sj_putI C 5 rfl fd_X7_31 dX7_lay_2 rfl rfl kd_h ?_
  refine sj_aload_n C 6 rfl dX7_lay_5 rfl rfl ?_
  refine sj_callVd C 9 rfl dX7_lay_6 cv_X7_132 rfl (ct_X7_isSheetText_b _ hmz (sj_ps_0_b hps)) rfl rfl rfl ⟨_, _, kd_h, rfl, rfl, by decide⟩ ⟨rfl, rfl⟩ ?_
  rw [hrd]
  rw [show sj_tS (sj_wFi S h 0 0) h b r9.2.1 r9.2.2.1 r9.2.2.2 = sj_lyT S h b r9 from rfl]
  refine sj_if_eq C 22 12 rfl rfl dX7_lay_9 (fun c_9 => ?_) (fun c_9 => ?_)
  · refine sj_aload_n C 23 rfl dX7_lay_22 rfl rfl ?_
    refine sj_iconstv C (1) 24 rfl dX7_lay_23 rfl ?_
    refine sj_callVd C 27 rfl dX7_lay_24 cv_X7_46 rfl (ct_X7_fails _ (S := sj_lyT S h b r9) (sj_tS_mm hmz r9.2.1 r9.2.2.1 r9.2.2.2) 1) rfl rfl rfl ⟨_, _, kd_h, rfl, rfl, by decide⟩ ⟨rfl, rfl⟩ ?_
    refine sj_iret C hR rfl rfl dX7_lay_27 ?_
    exact ⟨rfl, rfl⟩
  · refine sj_iload_n C 13 rfl dX7_lay_12 rfl rfl ?_
    refine sj_iconstv C (0) 14 rfl dX7_lay_13 rfl ?_
    refine sj_bipush C (99) 16 rfl dX7_lay_14 (by decide) ?_
    refine sj_callSd C 19 rfl dX7_lay_16 cv_X7_35 rfl (ct_X7_within _ _ _ _ _) rfl rfl rfl ⟨rfl, rfl⟩ ?_
    refine sj_if_ne C 28 22 rfl rfl dX7_lay_19 (fun c_19 => ?_) (fun c_19 => ?_)
    · exact absurd hb (fun h8 => h8.elim (fun h7 => c_9 (by rw [decide_eq_false h7]; rfl)) (fun h7 => c_19 (sj_bi0.mpr h7)))
    · refine sj_aload_n C 23 rfl dX7_lay_22 rfl rfl ?_
      refine sj_iconstv C (1) 24 rfl dX7_lay_23 rfl ?_
      refine sj_callVd C 27 rfl dX7_lay_24 cv_X7_46 rfl (ct_X7_fails _ (S := sj_lyT S h b r9) (sj_tS_mm hmz r9.2.1 r9.2.2.1 r9.2.2.2) 1) rfl rfl rfl ⟨_, _, kd_h, rfl, rfl, by decide⟩ ⟨rfl, rfl⟩ ?_
      refine sj_iret C hR rfl rfl dX7_lay_27 ?_
      exact ⟨rfl, rfl⟩
set_option maxRecDepth 100000 in
set_option maxHeartbeats 2500000 in
theorem ct_X7_lay_2_b (l : Launch) {S : sj_St} {h : Nat} {b : Nat → Nat} {m : Nat → Int32} (hm : sj_mm S h b m) {n : Nat} {B : Nat → Int32} (hps : sj_pb S h b n B) (r9 : Int32 × Nat × Nat × (Nat → Int32)) (hrd : sj_sht B n (sj_ia (sj_wFi S h 0 0) (b 13)) = r9) (age : Int32) (hr : r9.1 = -1) (ht : sj_wi age 0 99 = true) (h9 : m 9 = 8) : sj_Ctr l mX7_lay [.ref h, .int age] S (sj_eq (some (.int 0)) (sj_wFi (sj_lyT S h b r9) h 0 2)) := by
  refine sj_start ([some (.ref h), some (.int age), none, none]) (by decide +kernel) rfl rfl (fun X hX C hR => ?_)
  subst hX
  have hm0 := hm
  obtain ⟨hm', em⟩ := hm0
  subst em
  obtain ⟨kd_h, ⟨rf_h_1, kd_a1, il_a1⟩, ⟨rf_h_2, kd_a2, il_a2⟩, ⟨rf_h_3, kd_a3, il_a3⟩, ⟨rf_h_5, kd_a5, il_a5⟩, ⟨rf_h_7, kd_a7, il_a7⟩, ⟨rf_h_13, kd_a13, il_a13⟩, ⟨rf_h_15, kd_a15, il_a15⟩, hinj⟩ := hm'
  have hmz := sj_mm_f hm h 0 0
  obtain ⟨hn, hn60, hB⟩ := id hps
  subst hB
  have e9T : sj_ia (sj_lyT S h b r9) (b 1) = (sj_ia S (b 1)) := ((sj_tS_mm hmz r9.2.1 r9.2.2.1 r9.2.2.2)).2
  refine sj_aload_n C 1 rfl dX7_lay_0 rfl rfl ?_
  refine sj_iconstv C (0) 2 rfl dX7_lay_1 rfl ?_
  refine sj_putI C 5 rfl fd_X7_31 dX7_lay_2 rfl rfl kd_h ?_
  refine sj_aload_n C 6 rfl dX7_lay_5 rfl rfl ?_
  refine sj_callVd C 9 rfl dX7_lay_6 cv_X7_132 rfl (ct_X7_isSheetText_b _ hmz (sj_ps_0_b hps)) rfl rfl rfl ⟨_, _, kd_h, rfl, rfl, by decide⟩ ⟨rfl, rfl⟩ ?_
  rw [hrd]
  rw [show sj_tS (sj_wFi S h 0 0) h b r9.2.1 r9.2.2.1 r9.2.2.2 = sj_lyT S h b r9 from rfl]
  refine sj_if_eq C 22 12 rfl rfl dX7_lay_9 (fun c_9 => ?_) (fun c_9 => ?_)
  · exact absurd c_9 (by rw [decide_eq_true hr]; decide)
  · refine sj_iload_n C 13 rfl dX7_lay_12 rfl rfl ?_
    refine sj_iconstv C (0) 14 rfl dX7_lay_13 rfl ?_
    refine sj_bipush C (99) 16 rfl dX7_lay_14 (by decide) ?_
    refine sj_callSd C 19 rfl dX7_lay_16 cv_X7_35 rfl (ct_X7_within _ _ _ _ _) rfl rfl rfl ⟨rfl, rfl⟩ ?_
    refine sj_if_ne C 28 22 rfl rfl dX7_lay_19 (fun c_19 => ?_) (fun c_19 => ?_)
    · refine sj_aload_n C 29 rfl dX7_lay_28 rfl rfl ?_
      refine sj_getr C 32 rfl fd_X7_7 dX7_lay_29 kd_h rf_h_1 ?_
      refine sj_bipush C (9) 34 rfl dX7_lay_32 (by decide) ?_
      refine sj_iald C 35 rfl dX7_lay_34 kd_a1 (by show vp_in (nI 9) (sj_il S (b 1)); rw [il_a1]; exact vp_in_nI (by omega) (by omega)) ?_
      rw [show Int32.toNatClampNeg (9) = 9 from rfl, e9T]
      refine sj_bipush C (8) 37 rfl dX7_lay_35 (by decide) ?_
      refine sj_icmp_ne C 46 40 rfl rfl dX7_lay_37 (fun c_37 => ?_) (fun c_37 => ?_)
      · exact absurd h9 c_37
      · refine sj_aload_n C 41 rfl dX7_lay_40 rfl rfl ?_
        refine sj_iconstv C (2) 42 rfl dX7_lay_41 rfl ?_
        refine sj_callVd C 45 rfl dX7_lay_42 cv_X7_46 rfl (ct_X7_fails _ (S := sj_lyT S h b r9) (sj_tS_mm hmz r9.2.1 r9.2.2.1 r9.2.2.2) 2) rfl rfl rfl ⟨_, _, kd_h, rfl, rfl, by decide⟩ ⟨rfl, rfl⟩ ?_
        refine sj_iret C hR rfl rfl dX7_lay_45 ?_
        exact ⟨rfl, rfl⟩
    · exact absurd c_19 (by rw [ht]; decide)
set_option maxRecDepth 100000 in
set_option maxHeartbeats 2500000 in
theorem ct_X7_lay_0_b (l : Launch) {S : sj_St} {h : Nat} {b : Nat → Nat} {m : Nat → Int32} (hm : sj_mm S h b m) {n : Nat} {B : Nat → Int32} (hps : sj_pb S h b n B) (r9 : Int32 × Nat × Nat × (Nat → Int32)) (hrd : sj_sht B n (sj_ia (sj_wFi S h 0 0) (b 13)) = r9) (age : Int32) (hr : r9.1 = -1) (ht : sj_wi age 0 99 = true) (ns : Nat) (h9 : m 9 = nI ns) (hns : ns < 8) (q : Nat) (hq : q ≤ 6) (hq4 : sj_fi S h 4 = nI q) : sj_Ctr l mX7_lay [.ref h, .int age] S (sj_eq (some (.int (nI ns))) (sj_wFi (sj_sIa (sj_lyU S h b q m r9) (b 1) (sj_lay m ns age r9.2.2.1 r9.2.2.2)) h 8 0)) := by
  refine sj_start ([some (.ref h), some (.int age), none, none]) (by decide +kernel) rfl rfl (fun X hX C hR => ?_)
  subst hX
  have hm0 := hm
  obtain ⟨hm', em⟩ := hm0
  subst em
  obtain ⟨kd_h, ⟨rf_h_1, kd_a1, il_a1⟩, ⟨rf_h_2, kd_a2, il_a2⟩, ⟨rf_h_3, kd_a3, il_a3⟩, ⟨rf_h_5, kd_a5, il_a5⟩, ⟨rf_h_7, kd_a7, il_a7⟩, ⟨rf_h_13, kd_a13, il_a13⟩, ⟨rf_h_15, kd_a15, il_a15⟩, hinj⟩ := hm'
  have hmz := sj_mm_f hm h 0 0
  obtain ⟨hn, hn60, hB⟩ := id hps
  subst hB
  have e9T : sj_ia (sj_lyT S h b r9) (b 1) = (sj_ia S (b 1)) := ((sj_tS_mm hmz r9.2.1 r9.2.2.1 r9.2.2.2)).2
  have hk8 : r9.2.2.1 ≤ 8 := by rw [← hrd]; exact sj_shx_k8 _ _ 8 0 0 _ (by omega)
  have hU : sj_ia (sj_lyU S h b q (sj_ia S (b 1)) r9) (b 1) = (sj_ia S (b 1)) := (sj_lyU_mm hm q r9).2
  have eT4 : sj_fi (sj_lyT S h b r9) h 4 = nI q := (sj_tS_o _ h b _ _ _ (by omega) (by omega)).trans ((sj_fi_wFi_k S h _ (by omega)).trans hq4)
  have eU14 : sj_fi (sj_lyU S h b q (sj_ia S (b 1)) r9) h 14 = nI r9.2.2.1 := (sj_fi_wFi_k _ h _ (by omega)).trans (sj_tS_14 _ h b _ _ _)
  have eU13 : sj_ia (sj_lyU S h b q (sj_ia S (b 1)) r9) (b 13) = r9.2.2.2 := (sj_ia_sIa_ne _ _ (sj_mo_ne hm.1 (i := 13) (j := 3) (by omega) (by omega) (by omega))).trans (sj_tS_13 _ h b _ _ _)
  have cut_87 : ∀ S', S' = (sj_sIa (sj_lyU S h b q (sj_ia S (b 1)) r9) (b 1) (sj_ly2 (sj_ia S (b 1)) ns age r9.2.2.1 r9.2.2.2 0)) → sj_G X S' 0 0 [some (.ref h), some (.int age), some (.int (nI (98 + 42 * ns))), some (.int (nI 0))] 87 [] := by
    refine sj_down (fun k => ∀ S', S' = (sj_sIa (sj_lyU S h b q (sj_ia S (b 1)) r9) (b 1) (sj_ly2 (sj_ia S (b 1)) ns age r9.2.2.1 r9.2.2.2 k)) → sj_G X S' 0 0 [some (.ref h), some (.int age), some (.int (nI (98 + 42 * ns))), some (.int (nI k))] 87 []) 40 (fun k hk ih => ?_)
    intro S' hS'
    subst hS'
    have e14 : sj_fi (sj_sIa (sj_lyU S h b q (sj_ia S (b 1)) r9) (b 1) (sj_ly2 (sj_ia S (b 1)) ns age r9.2.2.1 r9.2.2.2 k)) h 14 = nI r9.2.2.1 := eU14
    have e13 : sj_ia (sj_sIa (sj_lyU S h b q (sj_ia S (b 1)) r9) (b 1) (sj_ly2 (sj_ia S (b 1)) ns age r9.2.2.1 r9.2.2.2 k)) (b 13) = r9.2.2.2 := (sj_ia_sIa_ne _ _ (sj_mo_ne hm.1 (i := 13) (j := 1) (by omega) (by omega) (by omega))).trans eU13
    have e9 : sj_ia (sj_sIa (sj_lyU S h b q (sj_ia S (b 1)) r9) (b 1) (sj_ly2 (sj_ia S (b 1)) ns age r9.2.2.1 r9.2.2.2 k)) (b 1) 9 = nI ns := (congrFun (sj_ia_sIa _ _ _) 9).trans ((sj_ly2_9 _ _ _ _ _ _).trans h9)
    refine sj_iload_n C 88 rfl dX7_lay_87 rfl rfl ?_
    refine sj_bipush C (40) 90 rfl dX7_lay_88 (by decide) ?_
    refine sj_icmp_ge C 129 93 rfl rfl dX7_lay_90 (fun c_90 => ?_) (fun c_90 => ?_)
    · have hkn : k = 40 := by
        have h8 : ¬ k < 40 := fun h7 => nI_ge (b := 40) h7 (by omega) c_90
        omega
      subst hkn
      refine sj_aload_n C 130 rfl dX7_lay_129 rfl rfl ?_
      refine sj_getr C 133 rfl fd_X7_7 dX7_lay_130 kd_h rf_h_1 ?_
      refine sj_bipush C (9) 135 rfl dX7_lay_133 (by decide) ?_
      refine sj_dup2 C 136 rfl dX7_lay_135 rfl rfl ?_
      refine sj_iald C 137 rfl dX7_lay_136 kd_a1 (by show vp_in (nI 9) (sj_il S (b 1)); rw [il_a1]; exact vp_in_nI (by omega) (by omega)) ?_
      rw [show Int32.toNatClampNeg (9) = 9 from rfl, e9]
      refine sj_iconstv C (1) 138 rfl dX7_lay_137 rfl ?_
      refine sj_iadd C 139 rfl dX7_lay_138 ?_
      rw [nI_1]
      refine sj_iast C 140 rfl dX7_lay_139 kd_a1 (by show vp_in (nI 9) (sj_il S (b 1)); rw [il_a1]; exact vp_in_nI (by omega) (by omega)) ?_
      rw [sj_wIa_sIa]
      refine sj_aload_n C 141 rfl dX7_lay_140 rfl rfl ?_
      refine sj_iconstv C (0) 142 rfl dX7_lay_141 rfl ?_
      refine sj_putI C 145 rfl fd_X7_139 dX7_lay_142 rfl rfl kd_h ?_
      refine sj_aload_n C 146 rfl dX7_lay_145 rfl rfl ?_
      refine sj_getr C 149 rfl fd_X7_7 dX7_lay_146 kd_h rf_h_1 ?_
      refine sj_bipush C (9) 151 rfl dX7_lay_149 (by decide) ?_
      refine sj_iald C 152 rfl dX7_lay_151 kd_a1 (by show vp_in (nI 9) (sj_il S (b 1)); rw [il_a1]; exact vp_in_nI (by omega) (by omega)) ?_
      rw [show Int32.toNatClampNeg (9) = 9 from rfl]
      refine sj_iconstv C (1) 153 rfl dX7_lay_152 rfl ?_
      refine sj_isub C 154 rfl dX7_lay_153 ?_
      refine sj_iret C hR rfl rfl dX7_lay_154 ?_
      refine ⟨congrArg (fun z => some (Value.int z)) ?_, rfl⟩
      rw [show sj_ia (sj_wFi (sj_sIa (sj_lyU S h b q (sj_ia S (b 1)) r9) (b 1) (upd (sj_ly2 (sj_ia S (b 1)) ns age r9.2.2.1 r9.2.2.2 40) 9 (nI (ns + 1)))) h 8 0) (b 1) 9 = nI (ns + 1) from (congrFun (sj_ia_sIa _ _ _) 9).trans (sj_upd_self _ _ _)]
      exact nI_pred ns
    · have hlt : k < 40 := Nat.not_le.mp fun h8 => c_90 (nI_le (a := 40) h8 (by omega))
      refine sj_aload_n C 94 rfl dX7_lay_93 rfl rfl ?_
      refine sj_getr C 97 rfl fd_X7_7 dX7_lay_94 kd_h rf_h_1 ?_
      refine sj_iload_n C 98 rfl dX7_lay_97 rfl rfl ?_
      refine sj_iconstv C (2) 99 rfl dX7_lay_98 rfl ?_
      refine sj_iadd C 100 rfl dX7_lay_99 ?_
      refine sj_iload_n C 101 rfl dX7_lay_100 rfl rfl ?_
      refine sj_iadd C 102 rfl dX7_lay_101 ?_
      rw [show nI (98 + 42 * ns) + 2 + nI k = nI (98 + 42 * ns + 2 + k) from by rw [show nI (98 + 42 * ns) + 2 = nI (98 + 42 * ns + 2) from nI_add _ 2, nI_add]]
      refine sj_iload_n C 103 rfl dX7_lay_102 rfl rfl ?_
      refine sj_iconstv C (5) 104 rfl dX7_lay_103 rfl ?_
      refine sj_aload_n C 105 rfl dX7_lay_104 rfl rfl ?_
      refine sj_getI C 108 rfl fd_X7_136 dX7_lay_105 kd_h ?_
      refine sj_imul C 109 rfl dX7_lay_108 ?_
      rw [e14, show (5 : Int32) * nI r9.2.2.1 = nI (5 * r9.2.2.1) from sj_nmul 5 _]
      refine sj_icmp_ge C 121 112 rfl rfl dX7_lay_109 (fun c_109 => ?_) (fun c_109 => ?_)
      · refine sj_iconstv C (0) 122 rfl dX7_lay_121 rfl ?_
        refine sj_iast C 123 rfl dX7_lay_122 kd_a1 (by show vp_in (nI (98 + 42 * ns + 2 + k)) (sj_il S (b 1)); rw [il_a1]; exact vp_in_nI (by omega) (by omega)) ?_
        refine sj_iinc_3 C 126 rfl dX7_lay_123 rfl rfl ?_
        refine sj_goto C 87 rfl dX7_lay_126 ?_
        rw [sj_n1]
        refine ih hlt _ ?_
        rw [sj_wIa_sIa, nI_clamp (by omega)]
        have ev : sj_lyf r9.2.2.1 r9.2.2.2 k = 0 := if_neg (fun h8 => nI_ge h8 (by omega) c_109)
        have e8 := sj_cpo_s (98 + 42 * ns + 2) k (sj_lyf r9.2.2.1 r9.2.2.2) (sj_ly1 (sj_ia S (b 1)) ns age r9.2.2.1)
        rw [ev] at e8
        exact congrArg (sj_sIa (sj_lyU S h b q (sj_ia S (b 1)) r9) (b 1)) e8
      · refine sj_aload_n C 113 rfl dX7_lay_112 rfl rfl ?_
        refine sj_getr C 116 rfl fd_X7_25 dX7_lay_113 kd_h rf_h_13 ?_
        refine sj_iload_n C 117 rfl dX7_lay_116 rfl rfl ?_
        refine sj_iald C 118 rfl dX7_lay_117 kd_a13 (by show vp_in (nI k) (sj_il S (b 13)); rw [il_a13]; exact vp_in_nI (by omega) (by omega)) ?_
        rw [e13, nI_clamp (by omega)]
        refine sj_goto C 122 rfl dX7_lay_118 ?_
        refine sj_iast C 123 rfl dX7_lay_122 kd_a1 (by show vp_in (nI (98 + 42 * ns + 2 + k)) (sj_il S (b 1)); rw [il_a1]; exact vp_in_nI (by omega) (by omega)) ?_
        refine sj_iinc_3 C 126 rfl dX7_lay_123 rfl rfl ?_
        refine sj_goto C 87 rfl dX7_lay_126 ?_
        rw [sj_n1]
        refine ih hlt _ ?_
        rw [sj_wIa_sIa, nI_clamp (by omega)]
        have ev : sj_lyf r9.2.2.1 r9.2.2.2 k = r9.2.2.2 k := if_pos ((nI_ltI (by omega) (by omega)).mp (sj_nle.mp c_109))
        have e8 := sj_cpo_s (98 + 42 * ns + 2) k (sj_lyf r9.2.2.1 r9.2.2.2) (sj_ly1 (sj_ia S (b 1)) ns age r9.2.2.1)
        rw [ev] at e8
        exact congrArg (sj_sIa (sj_lyU S h b q (sj_ia S (b 1)) r9) (b 1)) e8
  refine sj_aload_n C 1 rfl dX7_lay_0 rfl rfl ?_
  refine sj_iconstv C (0) 2 rfl dX7_lay_1 rfl ?_
  refine sj_putI C 5 rfl fd_X7_31 dX7_lay_2 rfl rfl kd_h ?_
  refine sj_aload_n C 6 rfl dX7_lay_5 rfl rfl ?_
  refine sj_callVd C 9 rfl dX7_lay_6 cv_X7_132 rfl (ct_X7_isSheetText_b _ hmz (sj_ps_0_b hps)) rfl rfl rfl ⟨_, _, kd_h, rfl, rfl, by decide⟩ ⟨rfl, rfl⟩ ?_
  rw [hrd]
  rw [show sj_tS (sj_wFi S h 0 0) h b r9.2.1 r9.2.2.1 r9.2.2.2 = sj_lyT S h b r9 from rfl]
  refine sj_if_eq C 22 12 rfl rfl dX7_lay_9 (fun c_9 => ?_) (fun c_9 => ?_)
  · exact absurd c_9 (by rw [decide_eq_true hr]; decide)
  · refine sj_iload_n C 13 rfl dX7_lay_12 rfl rfl ?_
    refine sj_iconstv C (0) 14 rfl dX7_lay_13 rfl ?_
    refine sj_bipush C (99) 16 rfl dX7_lay_14 (by decide) ?_
    refine sj_callSd C 19 rfl dX7_lay_16 cv_X7_35 rfl (ct_X7_within _ _ _ _ _) rfl rfl rfl ⟨rfl, rfl⟩ ?_
    refine sj_if_ne C 28 22 rfl rfl dX7_lay_19 (fun c_19 => ?_) (fun c_19 => ?_)
    · refine sj_aload_n C 29 rfl dX7_lay_28 rfl rfl ?_
      refine sj_getr C 32 rfl fd_X7_7 dX7_lay_29 kd_h rf_h_1 ?_
      refine sj_bipush C (9) 34 rfl dX7_lay_32 (by decide) ?_
      refine sj_iald C 35 rfl dX7_lay_34 kd_a1 (by show vp_in (nI 9) (sj_il S (b 1)); rw [il_a1]; exact vp_in_nI (by omega) (by omega)) ?_
      rw [show Int32.toNatClampNeg (9) = 9 from rfl, e9T, h9]
      refine sj_bipush C (8) 37 rfl dX7_lay_35 (by decide) ?_
      refine sj_icmp_ne C 46 40 rfl rfl dX7_lay_37 (fun c_37 => ?_) (fun c_37 => ?_)
      · refine sj_aload_n C 47 rfl dX7_lay_46 rfl rfl ?_
        refine sj_callVv C 50 rfl dX7_lay_47 cv_X7_54 rfl (ct_X7_save _ (S := sj_lyT S h b r9) (sj_tS_mm hmz r9.2.1 r9.2.2.1 r9.2.2.2) q hq eT4) rfl rfl rfl ⟨_, _, kd_h, rfl, rfl, by decide⟩ ⟨rfl, rfl⟩ ?_
        rw [show sj_wFi (sj_sIa (sj_lyT S h b r9) (b 3) (sj_sv q (sj_ia S (b 1)) (sj_ia (sj_lyT S h b r9) (b 3)))) h 4 (nI (sj_qn q + 1)) = (sj_lyU S h b q (sj_ia S (b 1)) r9) from rfl]
        refine sj_bipush C (98) 52 rfl dX7_lay_50 (by decide) ?_
        refine sj_bipush C (42) 54 rfl dX7_lay_52 (by decide) ?_
        refine sj_aload_n C 55 rfl dX7_lay_54 rfl rfl ?_
        refine sj_getr C 58 rfl fd_X7_7 dX7_lay_55 kd_h rf_h_1 ?_
        refine sj_bipush C (9) 60 rfl dX7_lay_58 (by decide) ?_
        refine sj_iald C 61 rfl dX7_lay_60 kd_a1 (by show vp_in (nI 9) (sj_il S (b 1)); rw [il_a1]; exact vp_in_nI (by omega) (by omega)) ?_
        rw [show Int32.toNatClampNeg (9) = 9 from rfl, hU, h9]
        refine sj_imul C 62 rfl dX7_lay_61 ?_
        refine sj_iadd C 63 rfl dX7_lay_62 ?_
        rw [sj_i98y]
        refine sj_istore_n_2 C 64 rfl dX7_lay_63 rfl rfl ?_
        refine sj_aload_n C 65 rfl dX7_lay_64 rfl rfl ?_
        refine sj_getr C 68 rfl fd_X7_7 dX7_lay_65 kd_h rf_h_1 ?_
        refine sj_iload_n C 69 rfl dX7_lay_68 rfl rfl ?_
        refine sj_iconstv C (0) 70 rfl dX7_lay_69 rfl ?_
        refine sj_iadd C 71 rfl dX7_lay_70 ?_
        rw [Int32.add_zero]
        refine sj_iload_n C 72 rfl dX7_lay_71 rfl rfl ?_
        refine sj_iast C 73 rfl dX7_lay_72 kd_a1 (by show vp_in (nI (98 + 42 * ns)) (sj_il S (b 1)); rw [il_a1]; exact vp_in_nI (by omega) (by omega)) ?_
        refine sj_aload_n C 74 rfl dX7_lay_73 rfl rfl ?_
        refine sj_getr C 77 rfl fd_X7_7 dX7_lay_74 kd_h rf_h_1 ?_
        refine sj_iload_n C 78 rfl dX7_lay_77 rfl rfl ?_
        refine sj_iconstv C (1) 79 rfl dX7_lay_78 rfl ?_
        refine sj_iadd C 80 rfl dX7_lay_79 ?_
        rw [show nI (98 + 42 * ns) + 1 = nI (98 + 42 * ns + 1) from nI_1 _]
        refine sj_aload_n C 81 rfl dX7_lay_80 rfl rfl ?_
        refine sj_getI C 84 rfl fd_X7_136 dX7_lay_81 kd_h ?_
        rw [show sj_fi (sj_wIa (sj_lyU S h b q (sj_ia S (b 1)) r9) (b 1) (nI (98 + 42 * ns)).toNatClampNeg age) h 14 = nI r9.2.2.1 from eU14]
        refine sj_iast C 85 rfl dX7_lay_84 kd_a1 (by show vp_in (nI (98 + 42 * ns + 1)) (sj_il S (b 1)); rw [il_a1]; exact vp_in_nI (by omega) (by omega)) ?_
        refine sj_iconstv C (0) 86 rfl dX7_lay_85 rfl ?_
        refine sj_istore_n_3 C 87 rfl dX7_lay_86 rfl rfl ?_
        refine cut_87 _ ?_
        rw [sj_wIa_eq, sj_wIa_eq, sj_sIa_sIa, sj_ia_sIa, hU, nI_clamp (by omega), nI_clamp (by omega)]
        unfold sj_ly2
        rw [sj_cpo_0]
        rfl
      · exact absurd ((nI_eq (b := 8) (by omega) (by omega)).mp c_37) (by omega)
    · exact absurd c_19 (by rw [ht]; decide)
set_option maxRecDepth 100000 in
set_option maxHeartbeats 1600000 in
theorem ct_X7_work_1_b (l : Launch) {S : sj_St} {h : Nat} {b : Nat → Nat} {m : Nat → Int32} (hm : sj_mm S h b m) {n : Nat} {B : Nat → Int32} (hps : sj_pb S h b n B) (r9 : Int32 × Nat × Int32 × Int32 × Int32) (hrd : sj_wkt B n (sj_fi (sj_wFi S h 0 0) h 10) (sj_fi (sj_wFi S h 0 0) h 11) (sj_fi (sj_wFi S h 0 0) h 12) = r9) (hr : ¬ r9.1 = -1) : sj_Ctr l mX7_work [.ref h] S (sj_eq (some (.int 0)) (sj_wFi (sj_pW (sj_wFi S h 0 0) h r9) h 0 1)) := by
  refine sj_start ([some (.ref h), none, none]) (by decide +kernel) rfl rfl (fun X hX C hR => ?_)
  subst hX
  have hm0 := hm
  obtain ⟨hm', em⟩ := hm0
  subst em
  obtain ⟨kd_h, ⟨rf_h_1, kd_a1, il_a1⟩, ⟨rf_h_2, kd_a2, il_a2⟩, ⟨rf_h_3, kd_a3, il_a3⟩, ⟨rf_h_5, kd_a5, il_a5⟩, ⟨rf_h_7, kd_a7, il_a7⟩, ⟨rf_h_13, kd_a13, il_a13⟩, ⟨rf_h_15, kd_a15, il_a15⟩, hinj⟩ := hm'
  have hmz := sj_mm_f hm h 0 0
  obtain ⟨hn, hn60, hB⟩ := id hps
  subst hB
  have hmT : sj_mm (sj_pW (sj_wFi S h 0 0) h r9) h b (sj_ia S (b 1)) := sj_pS_mm hmz _ _ _ _
  refine sj_aload_n C 1 rfl dX7_work_0 rfl rfl ?_
  refine sj_iconstv C (0) 2 rfl dX7_work_1 rfl ?_
  refine sj_putI C 5 rfl fd_X7_31 dX7_work_2 rfl rfl kd_h ?_
  refine sj_aload_n C 6 rfl dX7_work_5 rfl rfl ?_
  refine sj_callVd C 9 rfl dX7_work_6 cv_X7_191 rfl (ct_X7_findWorksError_b _ hmz (sj_ps_0_b hps)) rfl rfl rfl ⟨_, _, kd_h, rfl, rfl, by decide⟩ ⟨rfl, rfl⟩ ?_
  rw [hrd]
  refine sj_iconstv C (-1) 10 rfl dX7_work_9 rfl ?_
  refine sj_icmp_eq C 19 13 rfl rfl dX7_work_10 (fun c_10 => ?_) (fun c_10 => ?_)
  · exact absurd c_10 hr
  · refine sj_aload_n C 14 rfl dX7_work_13 rfl rfl ?_
    refine sj_iconstv C (1) 15 rfl dX7_work_14 rfl ?_
    refine sj_callVd C 18 rfl dX7_work_15 cv_X7_46 rfl (ct_X7_fails _ (S := (sj_pW (sj_wFi S h 0 0) h r9)) hmT 1) rfl rfl rfl ⟨_, _, kd_h, rfl, rfl, by decide⟩ ⟨rfl, rfl⟩ ?_
    refine sj_iret C hR rfl rfl dX7_work_18 ?_
    exact ⟨rfl, rfl⟩
set_option maxRecDepth 100000 in
set_option maxHeartbeats 1600000 in
theorem ct_X7_work_0_b (l : Launch) {S : sj_St} {h : Nat} {b : Nat → Nat} {m : Nat → Int32} (hm : sj_mm S h b m) (hI : sj_inv m) {n : Nat} {B : Nat → Int32} (hps : sj_pb S h b n B) (r9 : Int32 × Nat × Int32 × Int32 × Int32) (hrd : sj_wkt B n (sj_fi (sj_wFi S h 0 0) h 10) (sj_fi (sj_wFi S h 0 0) h 11) (sj_fi (sj_wFi S h 0 0) h 12) = r9) (hr : r9.1 = -1) (q : Nat) (hq : q ≤ 6) (hq4 : sj_fi S h 4 = nI q) (V9 : sj_St) (hV : sj_wkV S h b q m r9 = V9) (R9 : (Nat → Int32) × Nat × Int32) (hR9 : sj_wkR V9 h m B n = R9) : sj_Ctr l mX7_work [.ref h] S (fun v T => v = some (.int (nI R9.2.1)) ∧ ∃ g p sg f1 f2, T = sj_wFi (sj_wL V9 h b (sj_wkE R9) g p sg f1 f2) h 8 0) := by
  refine sj_start ([some (.ref h), none, none]) (by decide +kernel) rfl rfl (fun X hX C hR => ?_)
  subst hX
  have hm0 := hm
  obtain ⟨hm', em⟩ := hm0
  subst em
  obtain ⟨kd_h, ⟨rf_h_1, kd_a1, il_a1⟩, ⟨rf_h_2, kd_a2, il_a2⟩, ⟨rf_h_3, kd_a3, il_a3⟩, ⟨rf_h_5, kd_a5, il_a5⟩, ⟨rf_h_7, kd_a7, il_a7⟩, ⟨rf_h_13, kd_a13, il_a13⟩, ⟨rf_h_15, kd_a15, il_a15⟩, hinj⟩ := hm'
  have hmz := sj_mm_f hm h 0 0
  obtain ⟨hn, hn60, hB⟩ := id hps
  subst hB
  have hmT : sj_mm (sj_pW (sj_wFi S h 0 0) h r9) h b (sj_ia S (b 1)) := sj_pS_mm hmz _ _ _ _
  have eT4 : sj_fi (sj_pW (sj_wFi S h 0 0) h r9) h 4 = nI q := (sj_pW_o _ h _ (Or.inl (by omega))).trans ((sj_fi_wFi_k S h _ (by omega)).trans hq4)
  obtain ⟨hmV, hV9, hpsV⟩ : sj_mm V9 h b (sj_ia S (b 1)) ∧ sj_fi V9 h 9 = nI 0 ∧ sj_ps V9 h b n (sj_ia S (b 7)) 0 := by
    subst hV
    have hV9 : sj_fi (sj_wkV S h b q (sj_ia S (b 1)) r9) h 9 = nI 0 := sj_fi_wFi _ h 9 _
    have hT8 : sj_fi (sj_pW (sj_wFi S h 0 0) h r9) h 8 = nI n := (sj_pW_o (sj_wFi S h 0 0) h r9 (j := 8) (Or.inl (by omega))).trans ((sj_fi_wFi_k S h _ (by omega)).trans hn)
    have hV8 : sj_fi (sj_wkV S h b q (sj_ia S (b 1)) r9) h 8 = nI n := by
      unfold sj_wkV
      rw [sj_fi_wFi_k _ h _ (by omega), sj_fi_wFi_k _ h _ (by omega)]
      exact hT8
    have hV1 : ∀ i, i < 16 → ¬ i = 3 → sj_ia (sj_wkV S h b q (sj_ia S (b 1)) r9) (b i) = sj_ia S (b i) := fun i hi h3 => by
      unfold sj_wkV
      have e1 : sj_ia (sj_sIa (sj_pW (sj_wFi S h 0 0) h r9) (b 3) (sj_sv q (sj_ia S (b 1)) (sj_ia (sj_pW (sj_wFi S h 0 0) h r9) (b 3)))) (b i) = sj_ia (sj_pW (sj_wFi S h 0 0) h r9) (b i) := sj_ia_sIa_ne (sj_pW (sj_wFi S h 0 0) h r9) _ (sj_mo_ne hm.1 (i := i) (j := 3) hi (by omega) h3)
      exact e1
    exact ⟨⟨hm.1, hV1 1 (by omega) (by omega)⟩, hV9, hV8, hn60, hV9, Nat.zero_le _, hV1 7 (by omega) (by omega)⟩
  unfold sj_wkR at hR9
  have cut_87 : ∀ m' g p sg f1 f2 (d : Nat) (why : Int32), R9 = (m', d, why) → sj_G X (sj_wL V9 h b m' g p sg f1 f2) 0 0 [some (.ref h), some (.int (nI d)), some (.int why)] 87 [] := by
    intro m' g p sg f1 f2 d why hres
    obtain ⟨kd_h, ⟨rf_h_1, kd_a1, il_a1⟩, -⟩ := id hmV.1
    refine sj_aload_n C 88 rfl dX7_work_87 rfl rfl ?_
    refine sj_getr C 91 rfl fd_X7_7 dX7_work_88 kd_h rf_h_1 ?_
    refine sj_bipush C (12) 93 rfl dX7_work_91 (by decide) ?_
    refine sj_iload_n C 94 rfl dX7_work_93 rfl rfl ?_
    refine sj_if_ne C 101 97 rfl rfl dX7_work_94 (fun c_94 => ?_) (fun c_94 => ?_)
    · refine sj_iload_n C 102 rfl dX7_work_101 rfl rfl ?_
      refine sj_iast C 103 rfl dX7_work_102 kd_a1 (by show vp_in (nI 12) (sj_il V9 (b 1)); rw [il_a1]; exact vp_in_nI (by omega) (by omega)) ?_
      refine sj_aload_n C 104 rfl dX7_work_103 rfl rfl ?_
      refine sj_getr C 107 rfl fd_X7_7 dX7_work_104 kd_h rf_h_1 ?_
      refine sj_bipush C (13) 109 rfl dX7_work_107 (by decide) ?_
      refine sj_iload_n C 110 rfl dX7_work_109 rfl rfl ?_
      refine sj_if_ne C 117 113 rfl rfl dX7_work_110 (fun c_110 => ?_) (fun c_110 => ?_)
      · refine sj_iload_n C 118 rfl dX7_work_117 rfl rfl ?_
        refine sj_iast C 119 rfl dX7_work_118 kd_a1 (by show vp_in (nI 13) (sj_il V9 (b 1)); rw [il_a1]; exact vp_in_nI (by omega) (by omega)) ?_
        refine sj_aload_n C 120 rfl dX7_work_119 rfl rfl ?_
        refine sj_iconstv C (0) 121 rfl dX7_work_120 rfl ?_
        refine sj_putI C 124 rfl fd_X7_139 dX7_work_121 rfl rfl kd_h ?_
        refine sj_iload_n C 125 rfl dX7_work_124 rfl rfl ?_
        refine sj_iret C hR rfl rfl dX7_work_125 ?_
        rw [hres]
        refine ⟨rfl, g, p, sg, f1, f2, ?_⟩
        rw [show (12 : Int32).toNatClampNeg = 12 from rfl, show (13 : Int32).toNatClampNeg = 13 from rfl, sj_wIa_eq, sj_wIa_eq, sj_ia_sIa, sj_sIa_sIa, (sj_wL_mm hmV.1 m' g p sg f1 f2).2, sj_wL_1 hmV.1]
        unfold sj_wkE
        rw [if_neg c_94, if_neg c_94]
      · refine sj_iconstv C (-1) 114 rfl dX7_work_113 rfl ?_
        refine sj_goto C 118 rfl dX7_work_114 ?_
        refine sj_iast C 119 rfl dX7_work_118 kd_a1 (by show vp_in (nI 13) (sj_il V9 (b 1)); rw [il_a1]; exact vp_in_nI (by omega) (by omega)) ?_
        refine sj_aload_n C 120 rfl dX7_work_119 rfl rfl ?_
        refine sj_iconstv C (0) 121 rfl dX7_work_120 rfl ?_
        refine sj_putI C 124 rfl fd_X7_139 dX7_work_121 rfl rfl kd_h ?_
        refine sj_iload_n C 125 rfl dX7_work_124 rfl rfl ?_
        refine sj_iret C hR rfl rfl dX7_work_125 ?_
        rw [hres]
        refine ⟨rfl, g, p, sg, f1, f2, ?_⟩
        rw [show (12 : Int32).toNatClampNeg = 12 from rfl, show (13 : Int32).toNatClampNeg = 13 from rfl, sj_wIa_eq, sj_wIa_eq, sj_ia_sIa, sj_sIa_sIa, (sj_wL_mm hmV.1 m' g p sg f1 f2).2, sj_wL_1 hmV.1]
        unfold sj_wkE
        exact absurd c_110 c_94
    · refine sj_iconstv C (-1) 98 rfl dX7_work_97 rfl ?_
      refine sj_goto C 102 rfl dX7_work_98 ?_
      refine sj_iast C 103 rfl dX7_work_102 kd_a1 (by show vp_in (nI 12) (sj_il V9 (b 1)); rw [il_a1]; exact vp_in_nI (by omega) (by omega)) ?_
      refine sj_aload_n C 104 rfl dX7_work_103 rfl rfl ?_
      refine sj_getr C 107 rfl fd_X7_7 dX7_work_104 kd_h rf_h_1 ?_
      refine sj_bipush C (13) 109 rfl dX7_work_107 (by decide) ?_
      refine sj_iload_n C 110 rfl dX7_work_109 rfl rfl ?_
      refine sj_if_ne C 117 113 rfl rfl dX7_work_110 (fun c_110 => ?_) (fun c_110 => ?_)
      · refine sj_iload_n C 118 rfl dX7_work_117 rfl rfl ?_
        refine sj_iast C 119 rfl dX7_work_118 kd_a1 (by show vp_in (nI 13) (sj_il V9 (b 1)); rw [il_a1]; exact vp_in_nI (by omega) (by omega)) ?_
        refine sj_aload_n C 120 rfl dX7_work_119 rfl rfl ?_
        refine sj_iconstv C (0) 121 rfl dX7_work_120 rfl ?_
        refine sj_putI C 124 rfl fd_X7_139 dX7_work_121 rfl rfl kd_h ?_
        refine sj_iload_n C 125 rfl dX7_work_124 rfl rfl ?_
        refine sj_iret C hR rfl rfl dX7_work_125 ?_
        rw [hres]
        refine ⟨rfl, g, p, sg, f1, f2, ?_⟩
        rw [show (12 : Int32).toNatClampNeg = 12 from rfl, show (13 : Int32).toNatClampNeg = 13 from rfl, sj_wIa_eq, sj_wIa_eq, sj_ia_sIa, sj_sIa_sIa, (sj_wL_mm hmV.1 m' g p sg f1 f2).2, sj_wL_1 hmV.1]
        unfold sj_wkE
        exact absurd c_94 c_110
      · refine sj_iconstv C (-1) 114 rfl dX7_work_113 rfl ?_
        refine sj_goto C 118 rfl dX7_work_114 ?_
        refine sj_iast C 119 rfl dX7_work_118 kd_a1 (by show vp_in (nI 13) (sj_il V9 (b 1)); rw [il_a1]; exact vp_in_nI (by omega) (by omega)) ?_
        refine sj_aload_n C 120 rfl dX7_work_119 rfl rfl ?_
        refine sj_iconstv C (0) 121 rfl dX7_work_120 rfl ?_
        refine sj_putI C 124 rfl fd_X7_139 dX7_work_121 rfl rfl kd_h ?_
        refine sj_iload_n C 125 rfl dX7_work_124 rfl rfl ?_
        refine sj_iret C hR rfl rfl dX7_work_125 ?_
        rw [hres]
        refine ⟨rfl, g, p, sg, f1, f2, ?_⟩
        rw [show (12 : Int32).toNatClampNeg = 12 from rfl, show (13 : Int32).toNatClampNeg = 13 from rfl, sj_wIa_eq, sj_wIa_eq, sj_ia_sIa, sj_sIa_sIa, (sj_wL_mm hmV.1 m' g p sg f1 f2).2, sj_wL_1 hmV.1]
        unfold sj_wkE
        rw [if_pos c_94, if_pos c_94]
  have cut_32 : ∀ j, ∀ m' g p sg f1 f2 (d : Nat), sj_inv m' → p ≤ n + 1 → n + 1 - p < j → sj_wkL (sj_ia S (b 7)) n j m' p f1 f2 d = R9 → sj_G X (sj_wL V9 h b m' g p sg f1 f2) 0 0 [some (.ref h), some (.int (nI d)), some (.int 0)] 32 [] := by
    refine sj_strong _ (fun j ih => ?_)
    intro m' g p sg f1 f2 d hI' hp hj hres
    obtain ⟨j, rfl⟩ : ∃ i, j = i + 1 := ⟨j - 1, by omega⟩
    obtain ⟨kd_h, ⟨rf_h_1, kd_a1, il_a1⟩, -⟩ := id hmV.1
    refine sj_iload_n C 33 rfl dX7_work_32 rfl rfl ?_
    refine sj_if_ne C 87 36 rfl rfl dX7_work_33 (fun c_33 => ?_) (fun c_33 => ?_)
    · exact absurd rfl c_33
    · skip
      refine sj_aload_n C 37 rfl dX7_work_36 rfl rfl ?_
      refine sj_getI C 40 rfl fd_X7_161 dX7_work_37 kd_h ?_
      refine sj_aload_n C 41 rfl dX7_work_40 rfl rfl ?_
      refine sj_getI C 44 rfl fd_X7_139 dX7_work_41 kd_h ?_
      rw [show sj_fi (sj_wL V9 h b m' g p sg f1 f2) h 9 = nI p from sj_pS_9 _ h _ _ _ _, show sj_fi (sj_wL V9 h b m' g p sg f1 f2) h 8 = nI n from (sj_pS_o _ h _ _ _ _ (Or.inl (by omega))).trans hpsV.1]
      refine sj_icmp_ge C 87 47 rfl rfl dX7_work_44 (fun c_44 => ?_) (fun c_44 => ?_)
      · exact cut_87 _ _ _ _ _ _ _ _ (hres.symm.trans (sj_wkL_1 ((nI_leI (by omega) (by omega)).mp c_44)))
      · have hnp : ¬ n ≤ p := fun h8 => c_44 (nI_le h8 (by omega))
        have hple : p ≤ n := by omega
        have hle := sj_prt_le (B := (sj_ia S (b 7))) hple
        refine sj_aload_n C 48 rfl dX7_work_47 rfl rfl ?_
        refine sj_callVd C 51 rfl dX7_work_48 cv_X7_188 rfl (ct_X7_readsPart_b _ (sj_wL_mb hmV.1 m' g) (sj_pb_of (sj_wL_pb hmV.1 hpsV m' g)) hple sg f1 f2) rfl rfl rfl ⟨_, _, kd_h, rfl, rfl, by decide⟩ ⟨rfl, rfl⟩ ?_
        rw [show sj_pR (sj_sIa (sj_sIa V9 (b 1) m') (b 15) g) h f1 f2 (sj_prt (sj_ia S (b 7)) n p) = (sj_wL V9 h b m' g (sj_prt (sj_ia S (b 7)) n p).2.1 (sj_prt (sj_ia S (b 7)) n p).2.2.1 ((sj_prt (sj_ia S (b 7)) n p).2.2.2.1.getD f1) ((sj_prt (sj_ia S (b 7)) n p).2.2.2.2.getD f2)) from rfl]
        refine sj_if_eq C 61 54 rfl rfl dX7_work_51 (fun c_51 => ?_) (fun c_51 => ?_)
        · refine sj_iconstv C (-1) 62 rfl dX7_work_61 rfl ?_
          refine sj_istore_n_2 C 63 rfl dX7_work_62 rfl rfl ?_
          refine sj_iload_n C 64 rfl dX7_work_63 rfl rfl ?_
          refine sj_if_ne C 74 67 rfl rfl dX7_work_64 (fun c_64 => ?_) (fun c_64 => ?_)
          · skip
            refine sj_aload_n C 75 rfl dX7_work_74 rfl rfl ?_
            refine sj_dup C 76 rfl dX7_work_75 rfl ?_
            refine sj_getI C 79 rfl fd_X7_161 dX7_work_76 kd_h ?_
            refine sj_iconstv C (1) 80 rfl dX7_work_79 rfl ?_
            rw [show ∀ m9 g9 sg9 a9 c9, sj_fi (sj_wL V9 h b m9 g9 (sj_prt (sj_ia S (b 7)) n p).2.1 sg9 a9 c9) h 9 = nI (sj_prt (sj_ia S (b 7)) n p).2.1 from fun m9 g9 sg9 a9 c9 => sj_pS_9 _ h _ _ _ _]
            refine sj_iadd C 81 rfl dX7_work_80 ?_
            rw [nI_1]
            refine sj_putI C 84 rfl fd_X7_161 dX7_work_81 rfl rfl kd_h ?_
            rw [sj_wL_9]
            refine sj_goto C 32 rfl dX7_work_84 ?_
            refine sj_iload_n C 33 rfl dX7_work_32 rfl rfl ?_
            refine sj_if_ne C 87 36 rfl rfl dX7_work_33 (fun c_33 => ?_) (fun c_33 => ?_)
            · exact cut_87 _ _ _ _ _ _ _ _ (hres.symm.trans (sj_wkL_2 hnp (sj_bi0.mp c_51)))
            · exact absurd c_33 c_64
          · exact absurd c_64 (by decide)
        · have hok : ¬ (sj_prt (sj_ia S (b 7)) n p).1 = false := fun h8 => c_51 (by rw [h8]; rfl)
          have hgo := hle.2.2 (sj_bin.mp c_51)
          refine sj_aload_n C 55 rfl dX7_work_54 rfl rfl ?_
          refine sj_callVp C 58 rfl dX7_work_55 cv_X7_194 rfl (ct_X7_whyNotPart _ (sj_wL_mm hmV.1 m' g _ _ _ _) hI') rfl rfl rfl ⟨_, _, kd_h, rfl, rfl, by decide⟩ ⟨rfl, rfl⟩ (fun v_55 S_55 hp_55 => ?_)
          obtain ⟨rfl, g_55, rfl⟩ := hp_55
          rw [sj_wL_15, show sj_fi (sj_wL V9 h b m' g (sj_prt (sj_ia S (b 7)) n p).2.1 (sj_prt (sj_ia S (b 7)) n p).2.2.1 ((sj_prt (sj_ia S (b 7)) n p).2.2.2.1.getD f1) ((sj_prt (sj_ia S (b 7)) n p).2.2.2.2.getD f2)) h 10 = (sj_prt (sj_ia S (b 7)) n p).2.2.1 from sj_pS_10 _ h _ _ _ _, show sj_fi (sj_wL V9 h b m' g (sj_prt (sj_ia S (b 7)) n p).2.1 (sj_prt (sj_ia S (b 7)) n p).2.2.1 ((sj_prt (sj_ia S (b 7)) n p).2.2.2.1.getD f1) ((sj_prt (sj_ia S (b 7)) n p).2.2.2.2.getD f2)) h 11 = ((sj_prt (sj_ia S (b 7)) n p).2.2.2.1.getD f1) from sj_pS_11 _ h _ _ _ _, show sj_fi (sj_wL V9 h b m' g (sj_prt (sj_ia S (b 7)) n p).2.1 (sj_prt (sj_ia S (b 7)) n p).2.2.1 ((sj_prt (sj_ia S (b 7)) n p).2.2.2.1.getD f1) ((sj_prt (sj_ia S (b 7)) n p).2.2.2.2.getD f2)) h 12 = ((sj_prt (sj_ia S (b 7)) n p).2.2.2.2.getD f2) from sj_pS_12 _ h _ _ _ _]
          refine sj_goto C 62 rfl dX7_work_58 ?_
          refine sj_istore_n_2 C 63 rfl dX7_work_62 rfl rfl ?_
          refine sj_iload_n C 64 rfl dX7_work_63 rfl rfl ?_
          refine sj_if_ne C 74 67 rfl rfl dX7_work_64 (fun c_64 => ?_) (fun c_64 => ?_)
          · skip
            refine sj_aload_n C 75 rfl dX7_work_74 rfl rfl ?_
            refine sj_dup C 76 rfl dX7_work_75 rfl ?_
            refine sj_getI C 79 rfl fd_X7_161 dX7_work_76 kd_h ?_
            refine sj_iconstv C (1) 80 rfl dX7_work_79 rfl ?_
            rw [show ∀ m9 g9 sg9 a9 c9, sj_fi (sj_wL V9 h b m9 g9 (sj_prt (sj_ia S (b 7)) n p).2.1 sg9 a9 c9) h 9 = nI (sj_prt (sj_ia S (b 7)) n p).2.1 from fun m9 g9 sg9 a9 c9 => sj_pS_9 _ h _ _ _ _]
            refine sj_iadd C 81 rfl dX7_work_80 ?_
            rw [nI_1]
            refine sj_putI C 84 rfl fd_X7_161 dX7_work_81 rfl rfl kd_h ?_
            rw [sj_wL_9]
            refine sj_goto C 32 rfl dX7_work_84 ?_
            refine sj_iload_n C 33 rfl dX7_work_32 rfl rfl ?_
            refine sj_if_ne C 87 36 rfl rfl dX7_work_33 (fun c_33 => ?_) (fun c_33 => ?_)
            · exact cut_87 _ _ _ _ _ _ _ _ (hres.symm.trans (sj_wkL_4 hnp hok c_64))
            · exact absurd c_33 c_64
          · skip
            refine sj_aload_n C 68 rfl dX7_work_67 rfl rfl ?_
            have hw9 : sj_wnp m' (sj_fi (sj_wL V9 h b m' g_55 (sj_prt (sj_ia S (b 7)) n p).2.1 (sj_prt (sj_ia S (b 7)) n p).2.2.1 ((sj_prt (sj_ia S (b 7)) n p).2.2.2.1.getD f1) ((sj_prt (sj_ia S (b 7)) n p).2.2.2.2.getD f2)) h 10) (sj_fi (sj_wL V9 h b m' g_55 (sj_prt (sj_ia S (b 7)) n p).2.1 (sj_prt (sj_ia S (b 7)) n p).2.2.1 ((sj_prt (sj_ia S (b 7)) n p).2.2.2.1.getD f1) ((sj_prt (sj_ia S (b 7)) n p).2.2.2.2.getD f2)) h 11) (sj_fi (sj_wL V9 h b m' g_55 (sj_prt (sj_ia S (b 7)) n p).2.1 (sj_prt (sj_ia S (b 7)) n p).2.2.1 ((sj_prt (sj_ia S (b 7)) n p).2.2.2.1.getD f1) ((sj_prt (sj_ia S (b 7)) n p).2.2.2.2.getD f2)) h 12) = 0 := by
              rw [show sj_fi (sj_wL V9 h b m' g_55 (sj_prt (sj_ia S (b 7)) n p).2.1 (sj_prt (sj_ia S (b 7)) n p).2.2.1 ((sj_prt (sj_ia S (b 7)) n p).2.2.2.1.getD f1) ((sj_prt (sj_ia S (b 7)) n p).2.2.2.2.getD f2)) h 10 = (sj_prt (sj_ia S (b 7)) n p).2.2.1 from sj_pS_10 _ h _ _ _ _, show sj_fi (sj_wL V9 h b m' g_55 (sj_prt (sj_ia S (b 7)) n p).2.1 (sj_prt (sj_ia S (b 7)) n p).2.2.1 ((sj_prt (sj_ia S (b 7)) n p).2.2.2.1.getD f1) ((sj_prt (sj_ia S (b 7)) n p).2.2.2.2.getD f2)) h 11 = ((sj_prt (sj_ia S (b 7)) n p).2.2.2.1.getD f1) from sj_pS_11 _ h _ _ _ _, show sj_fi (sj_wL V9 h b m' g_55 (sj_prt (sj_ia S (b 7)) n p).2.1 (sj_prt (sj_ia S (b 7)) n p).2.2.1 ((sj_prt (sj_ia S (b 7)) n p).2.2.2.1.getD f1) ((sj_prt (sj_ia S (b 7)) n p).2.2.2.2.getD f2)) h 12 = ((sj_prt (sj_ia S (b 7)) n p).2.2.2.2.getD f2) from sj_pS_12 _ h _ _ _ _]
              exact c_64
            have hyy : (sj_prt (sj_ia S (b 7)) n p).2.2.1 = 121 → 0 ≤ ((sj_prt (sj_ia S (b 7)) n p).2.2.2.1.getD f1) ∧ ((sj_prt (sj_ia S (b 7)) n p).2.2.2.1.getD f1) ≤ 99 := fun h8 => by
              obtain ⟨v, e1, e2, e3⟩ := sj_prt_y (sj_bin.mp c_51) h8
              rw [e1]
              exact ⟨e2, e3⟩
            refine sj_callVp C 71 rfl dX7_work_68 cv_X7_197 rfl (ct_X7_doPart _ (sj_wL_mm hmV.1 m' g_55 _ _ _ _) hI' hw9) rfl rfl rfl ⟨_, _, kd_h, rfl, rfl, by decide⟩ ⟨rfl, rfl⟩ (fun v_68 S_68 hp_68 => ?_)
            obtain ⟨rfl, g_68, rfl⟩ := hp_68
            rw [sj_wL_do hmV.1, show sj_fi (sj_wL V9 h b m' g_55 (sj_prt (sj_ia S (b 7)) n p).2.1 (sj_prt (sj_ia S (b 7)) n p).2.2.1 ((sj_prt (sj_ia S (b 7)) n p).2.2.2.1.getD f1) ((sj_prt (sj_ia S (b 7)) n p).2.2.2.2.getD f2)) h 10 = (sj_prt (sj_ia S (b 7)) n p).2.2.1 from sj_pS_10 _ h _ _ _ _, show sj_fi (sj_wL V9 h b m' g_55 (sj_prt (sj_ia S (b 7)) n p).2.1 (sj_prt (sj_ia S (b 7)) n p).2.2.1 ((sj_prt (sj_ia S (b 7)) n p).2.2.2.1.getD f1) ((sj_prt (sj_ia S (b 7)) n p).2.2.2.2.getD f2)) h 11 = ((sj_prt (sj_ia S (b 7)) n p).2.2.2.1.getD f1) from sj_pS_11 _ h _ _ _ _, show sj_fi (sj_wL V9 h b m' g_55 (sj_prt (sj_ia S (b 7)) n p).2.1 (sj_prt (sj_ia S (b 7)) n p).2.2.1 ((sj_prt (sj_ia S (b 7)) n p).2.2.2.1.getD f1) ((sj_prt (sj_ia S (b 7)) n p).2.2.2.2.getD f2)) h 12 = ((sj_prt (sj_ia S (b 7)) n p).2.2.2.2.getD f2) from sj_pS_12 _ h _ _ _ _]
            refine sj_iinc_1 C 74 rfl dX7_work_71 rfl rfl ?_
            rw [sj_n1]
            refine sj_aload_n C 75 rfl dX7_work_74 rfl rfl ?_
            refine sj_dup C 76 rfl dX7_work_75 rfl ?_
            refine sj_getI C 79 rfl fd_X7_161 dX7_work_76 kd_h ?_
            refine sj_iconstv C (1) 80 rfl dX7_work_79 rfl ?_
            rw [show ∀ m9 g9 sg9 a9 c9, sj_fi (sj_wL V9 h b m9 g9 (sj_prt (sj_ia S (b 7)) n p).2.1 sg9 a9 c9) h 9 = nI (sj_prt (sj_ia S (b 7)) n p).2.1 from fun m9 g9 sg9 a9 c9 => sj_pS_9 _ h _ _ _ _]
            refine sj_iadd C 81 rfl dX7_work_80 ?_
            rw [nI_1]
            refine sj_putI C 84 rfl fd_X7_161 dX7_work_81 rfl rfl kd_h ?_
            rw [sj_wL_9]
            refine sj_goto C 32 rfl dX7_work_84 ?_
            rw [c_64]
            exact ih j (by omega) _ _ _ _ _ _ (d + 1) (sj_inv_dpt hI' c_64 hyy) (by omega) (by omega) ((sj_wkL_3 hnp hok c_64).symm.trans hres)
  refine sj_aload_n C 1 rfl dX7_work_0 rfl rfl ?_
  refine sj_iconstv C (0) 2 rfl dX7_work_1 rfl ?_
  refine sj_putI C 5 rfl fd_X7_31 dX7_work_2 rfl rfl kd_h ?_
  refine sj_aload_n C 6 rfl dX7_work_5 rfl rfl ?_
  refine sj_callVd C 9 rfl dX7_work_6 cv_X7_191 rfl (ct_X7_findWorksError_b _ hmz (sj_ps_0_b hps)) rfl rfl rfl ⟨_, _, kd_h, rfl, rfl, by decide⟩ ⟨rfl, rfl⟩ ?_
  rw [hrd]
  refine sj_iconstv C (-1) 10 rfl dX7_work_9 rfl ?_
  refine sj_icmp_eq C 19 13 rfl rfl dX7_work_10 (fun c_10 => ?_) (fun c_10 => ?_)
  · refine sj_aload_n C 20 rfl dX7_work_19 rfl rfl ?_
    refine sj_callVv C 23 rfl dX7_work_20 cv_X7_54 rfl (ct_X7_save _ (S := (sj_pW (sj_wFi S h 0 0) h r9)) hmT q hq eT4) rfl rfl rfl ⟨_, _, kd_h, rfl, rfl, by decide⟩ ⟨rfl, rfl⟩ ?_
    refine sj_aload_n C 24 rfl dX7_work_23 rfl rfl ?_
    refine sj_iconstv C (0) 25 rfl dX7_work_24 rfl ?_
    refine sj_putI C 28 rfl fd_X7_161 dX7_work_25 rfl rfl kd_h ?_
    rw [show sj_wFi (sj_wFi (sj_sIa (sj_pW (sj_wFi S h 0 0) h r9) (b 3) (sj_sv q (sj_ia S (b 1)) (sj_ia (sj_pW (sj_wFi S h 0 0) h r9) (b 3)))) h 4 (nI (sj_qn q + 1))) h 9 0 = sj_wkV S h b q (sj_ia S (b 1)) r9 from rfl, hV]
    refine sj_iconstv C (0) 29 rfl dX7_work_28 rfl ?_
    refine sj_istore_n_1 C 30 rfl dX7_work_29 rfl rfl ?_
    refine sj_iconstv C (0) 31 rfl dX7_work_30 rfl ?_
    refine sj_istore_n_2 C 32 rfl dX7_work_31 rfl rfl ?_
    have h9 := cut_32 (n + 2) (sj_ia S (b 1)) (sj_ia V9 (b 15)) 0 (sj_fi V9 h 10) (sj_fi V9 h 11) (sj_fi V9 h 12) 0 hI (by omega) (by omega) hR9
    rw [sj_wL_0 hmV hV9] at h9
    exact h9
  · exact absurd hr c_10
