/-! THE REFERENCE: works as a text -/
def sj_pS (S : sj_St) (h p : Nat) (sg f1 f2 : Int32) : sj_St := sj_wFi (sj_wFi (sj_wFi (sj_wFi S h 9 (nI p)) h 10 sg) h 11 f1) h 12 f2
theorem sj_pS_9 (S : sj_St) (h p : Nat) (sg f1 f2 : Int32) : sj_fi (sj_pS S h p sg f1 f2) h 9 = nI p := (sj_fi_wFi_k _ h _ (by omega)).trans ((sj_fi_wFi_k _ h _ (by omega)).trans ((sj_fi_wFi_k _ h _ (by omega)).trans (sj_fi_wFi S h 9 _)))
theorem sj_pS_10 (S : sj_St) (h p : Nat) (sg f1 f2 : Int32) : sj_fi (sj_pS S h p sg f1 f2) h 10 = sg := (sj_fi_wFi_k _ h _ (by omega)).trans ((sj_fi_wFi_k _ h _ (by omega)).trans (sj_fi_wFi _ h 10 _))
theorem sj_pS_11 (S : sj_St) (h p : Nat) (sg f1 f2 : Int32) : sj_fi (sj_pS S h p sg f1 f2) h 11 = f1 := (sj_fi_wFi_k _ h _ (by omega)).trans (sj_fi_wFi _ h 11 _)
theorem sj_pS_12 (S : sj_St) (h p : Nat) (sg f1 f2 : Int32) : sj_fi (sj_pS S h p sg f1 f2) h 12 = f2 := sj_fi_wFi _ h 12 _
theorem sj_pS_o (S : sj_St) (h p : Nat) (sg f1 f2 : Int32) {j : Nat} (hj : j < 9 ∨ 12 < j) : sj_fi (sj_pS S h p sg f1 f2) h j = sj_fi S h j := (sj_fi_wFi_k _ h _ (by omega)).trans ((sj_fi_wFi_k _ h _ (by omega)).trans ((sj_fi_wFi_k _ h _ (by omega)).trans (sj_fi_wFi_k S h _ (by omega))))
theorem sj_pS_w12 (S : sj_St) (h p : Nat) (sg f1 f2 v : Int32) : sj_wFi (sj_pS S h p sg f1 f2) h 12 v = sj_pS S h p sg f1 v := sj_wFi_wFi _ h 12 _ _
theorem sj_pS_w11 (S : sj_St) (h p : Nat) (sg f1 f2 v : Int32) : sj_wFi (sj_pS S h p sg f1 f2) h 11 v = sj_pS S h p sg v f2 := by
  unfold sj_pS
  rw [sj_wFi_comm _ h (by omega), sj_wFi_wFi]
theorem sj_pS_w10 (S : sj_St) (h p : Nat) (sg f1 f2 v : Int32) : sj_wFi (sj_pS S h p sg f1 f2) h 10 v = sj_pS S h p v f1 f2 := by
  unfold sj_pS
  rw [sj_wFi_comm _ h (by omega), sj_wFi_comm _ h (k := 11) (j := 10) (by omega), sj_wFi_wFi]
theorem sj_pS_w9 (S : sj_St) (h p q : Nat) (sg f1 f2 : Int32) : sj_wFi (sj_pS S h p sg f1 f2) h 9 (nI q) = sj_pS S h q sg f1 f2 := by
  unfold sj_pS
  rw [sj_wFi_comm _ h (by omega), sj_wFi_comm _ h (k := 11) (j := 9) (by omega), sj_wFi_comm _ h (k := 10) (j := 9) (by omega), sj_wFi_wFi]
theorem sj_pS_id {S : sj_St} {h p : Nat} (hp : sj_fi S h 9 = nI p) : sj_pS S h p (sj_fi S h 10) (sj_fi S h 11) (sj_fi S h 12) = S := by
  unfold sj_pS
  rw [sj_wFi_id hp, sj_wFi_id rfl, sj_wFi_id rfl, sj_wFi_id rfl]
theorem sj_pS_ps {S : sj_St} {h : Nat} {b : Nat → Nat} {n p0 : Nat} {B : Nat → Int32} (hps : sj_ps S h b n B p0) {p : Nat} (hp : p ≤ n) (sg f1 f2 : Int32) : sj_ps (sj_pS S h p sg f1 f2) h b n B p := ⟨(sj_pS_o S h p sg f1 f2 (Or.inl (by omega))).trans hps.1, hps.2.1, sj_pS_9 S h p sg f1 f2, hp, hps.2.2.2.2⟩
theorem sj_pS_mm {S : sj_St} {h : Nat} {b : Nat → Nat} {m : Nat → Int32} (hm : sj_mm S h b m) (p : Nat) (sg f1 f2 : Int32) : sj_mm (sj_pS S h p sg f1 f2) h b m := hm
abbrev sj_P5 : Type := Bool × Nat × Int32 × Option Int32 × Option Int32
def sj_p2 (B : Nat → Int32) (n : Nat) (sg r1 : Int32) (q : Nat) : sj_P5 :=
  if r1 = -1 ∨ sg = 121 ∨ sg = 100 then (decide (¬ r1 = -1), q, sg, some r1, none)
  else if sj_nx B n q = 47 then (decide (¬ (sj_rdn B n 0 7 (sj_tk B n 47 q)).1 = -1), (sj_rdn B n 0 7 (sj_tk B n 47 q)).2, sg, some r1, some (sj_rdn B n 0 7 (sj_tk B n 47 q)).1)
  else (false, sj_tk B n 47 q, sg, some r1, none)
/-- a part from p on: whether it is one, where the reading stands, its sign and its numbers -/
def sj_prt (B : Nat → Int32) (n p : Nat) : sj_P5 :=
  if sj_nx B n p = 108 ∨ sj_nx B n p = 117 ∨ sj_nx B n p = 121 ∨ sj_nx B n p = 100 then
    if sj_nx B n p = 121 then sj_p2 B n (sj_nx B n p) (sj_rdn B n 1 99 (p + 1)).1 (sj_rdn B n 1 99 (p + 1)).2
    else sj_p2 B n (sj_nx B n p) (sj_rdn B n 0 7 (p + 1)).1 (sj_rdn B n 0 7 (p + 1)).2
  else (false, p, sj_nx B n p, none, none)
theorem sj_sg_lt {B : Nat → Int32} {n p : Nat} (h : sj_nx B n p = 108 ∨ sj_nx B n p = 117 ∨ sj_nx B n p = 121 ∨ sj_nx B n p = 100) : p < n := sj_nx_lt (B := B) (fun h0 => by
  rw [h0] at h
  rcases h with h | h | h | h <;> exact absurd h (by decide))
theorem sj_rdn_ge (B : Nat → Int32) (n : Nat) (a z : Int32) (p : Nat) : p ≤ (sj_rdn B n a z p).2 := by
  unfold sj_rdn
  by_cases h : sj_wi (sj_nx B n p - 48) a 9 = false ∨ z < sj_nx B n p - 48
  · rw [if_pos h]
    exact Nat.le_refl _
  · rw [if_neg h]
    by_cases h3 : 0 < sj_nx B n p - 48 ∧ sj_wi (sj_nx B n (p + 1)) 48 57 = true ∧ 10 * (sj_nx B n p - 48) + sj_nx B n (p + 1) - 48 ≤ z
    · rw [if_pos h3]
      show p ≤ p + 2
      omega
    · rw [if_neg h3]
      show p ≤ p + 1
      omega
theorem sj_tk_ge (B : Nat → Int32) (n : Nat) (c : Int32) (p : Nat) : p ≤ sj_tk B n c p := by
  unfold sj_tk
  by_cases h : sj_nx B n p = c
  · rw [if_pos h]
    omega
  · rw [if_neg h]
    exact Nat.le_refl _
theorem sj_p2_le {B : Nat → Int32} {n : Nat} {sg r1 : Int32} {q : Nat} (hq : q ≤ n) : q ≤ (sj_p2 B n sg r1 q).2.1 ∧ (sj_p2 B n sg r1 q).2.1 ≤ n := by
  unfold sj_p2
  by_cases c1 : r1 = -1 ∨ sg = 121 ∨ sg = 100
  · rw [if_pos c1]
    exact ⟨Nat.le_refl _, hq⟩
  · rw [if_neg c1]
    have h1 : sj_tk B n 47 q ≤ n := sj_tk_le (by decide) hq
    have h2 := sj_tk_ge B n 47 q
    by_cases c2 : sj_nx B n q = 47
    · rw [if_pos c2]
      exact ⟨Nat.le_trans h2 (sj_rdn_ge B n 0 7 _), sj_rdn_le (by decide) h1⟩
    · rw [if_neg c2]
      exact ⟨h2, h1⟩
theorem sj_prt_le {B : Nat → Int32} {n p : Nat} (hp : p ≤ n) : p ≤ (sj_prt B n p).2.1 ∧ (sj_prt B n p).2.1 ≤ n ∧ ((sj_prt B n p).1 = true → p < (sj_prt B n p).2.1) := by
  unfold sj_prt
  by_cases c1 : sj_nx B n p = 108 ∨ sj_nx B n p = 117 ∨ sj_nx B n p = 121 ∨ sj_nx B n p = 100
  · have hlt := sj_sg_lt c1
    rw [if_pos c1]
    by_cases c2 : sj_nx B n p = 121
    · rw [if_pos c2]
      have h1 := sj_p2_le (B := B) (sg := sj_nx B n p) (r1 := (sj_rdn B n 1 99 (p + 1)).1) (sj_rdn_le (B := B) (a := 1) (z := 99) (p := p + 1) (by decide) hlt)
      have h2 := sj_rdn_ge B n 1 99 (p + 1)
      exact ⟨by omega, h1.2, fun _ => by omega⟩
    · rw [if_neg c2]
      have h1 := sj_p2_le (B := B) (sg := sj_nx B n p) (r1 := (sj_rdn B n 0 7 (p + 1)).1) (sj_rdn_le (B := B) (a := 0) (z := 7) (p := p + 1) (by decide) hlt)
      have h2 := sj_rdn_ge B n 0 7 (p + 1)
      exact ⟨by omega, h1.2, fun _ => by omega⟩
  · rw [if_neg c1]
    exact ⟨Nat.le_refl _, hp, fun h => by cases h⟩
def sj_pR (S : sj_St) (h : Nat) (f1 f2 : Int32) (r : sj_P5) : sj_St := sj_pS S h r.2.1 r.2.2.1 (r.2.2.2.1.getD f1) (r.2.2.2.2.getD f2)
set_option maxRecDepth 100000 in
set_option maxHeartbeats 400000 in
theorem ct_X7_readsPart (l : Launch) {S : sj_St} {h : Nat} {b : Nat → Nat} {m : Nat → Int32} (hm : sj_mm S h b m) {n p0 : Nat} {B : Nat → Int32} (hps : sj_ps S h b n B p0) {p : Nat} (hp : p ≤ n) (sg f1 f2 : Int32) : sj_Ctr l mX7_readsPart [.ref h] (sj_pS S h p sg f1 f2) (sj_eq (some (.int (sj_bi (sj_prt B n p).1))) (sj_pR S h f1 f2 (sj_prt B n p))) := by
  refine sj_start ([some (.ref h)]) (by decide +kernel) rfl rfl (fun X hX C hR => ?_)
  subst hX
  have hm0 := hm
  obtain ⟨hm', em⟩ := hm0
  subst em
  obtain ⟨kd_h, ⟨rf_h_1, kd_a1, il_a1⟩, ⟨rf_h_2, kd_a2, il_a2⟩, ⟨rf_h_3, kd_a3, il_a3⟩, ⟨rf_h_5, kd_a5, il_a5⟩, ⟨rf_h_7, kd_a7, il_a7⟩, ⟨rf_h_13, kd_a13, il_a13⟩, ⟨rf_h_15, kd_a15, il_a15⟩, hinj⟩ := hm'
  obtain ⟨hn, hn60, hp0, hpn0, hB⟩ := id hps
  subst hB
  have cut_86 : ∀ (r1 : Int32) (q : Nat), q ≤ n → (sj_prt (sj_ia S (b 7)) n p) = sj_p2 (sj_ia S (b 7)) n (sj_nx (sj_ia S (b 7)) n p) r1 q → sj_G X (sj_pS S h q (sj_nx (sj_ia S (b 7)) n p) r1 f2) 0 0 [some (.ref h)] 86 [] := by
    intro r1 q hq hres
    refine sj_aload_n C 87 rfl dX7_readsPart_86 rfl rfl ?_
    refine sj_getI C 90 rfl fd_X7_182 dX7_readsPart_87 kd_h ?_
    rw [sj_pS_11]
    refine sj_iconstv C (-1) 91 rfl dX7_readsPart_90 rfl ?_
    refine sj_icmp_eq C 112 94 rfl rfl dX7_readsPart_91 (fun c_91 => ?_) (fun c_91 => ?_)
    · refine sj_aload_n C 113 rfl dX7_readsPart_112 rfl rfl ?_
      refine sj_getI C 116 rfl fd_X7_182 dX7_readsPart_113 kd_h ?_
      rw [sj_pS_11]
      refine sj_iconstv C (-1) 117 rfl dX7_readsPart_116 rfl ?_
      refine sj_icmp_eq C 124 120 rfl rfl dX7_readsPart_117 (fun c_117 => ?_) (fun c_117 => ?_)
      · refine sj_iconstv C (0) 125 rfl dX7_readsPart_124 rfl ?_
        refine sj_zret C hR rfl rfl rfl dX7_readsPart_125 ?_
        have e8 : (sj_prt (sj_ia S (b 7)) n p) = (decide (¬ r1 = -1), q, (sj_nx (sj_ia S (b 7)) n p), some r1, none) := hres.trans (if_pos (Or.inl c_91))
        rw [e8, decide_eq_false (p := ¬ r1 = -1) (fun h8 => h8 c_117)]
        exact ⟨rfl, rfl⟩
      · refine sj_iconstv C (1) 121 rfl dX7_readsPart_120 rfl ?_
        refine sj_goto C 125 rfl dX7_readsPart_121 ?_
        refine sj_zret C hR rfl rfl rfl dX7_readsPart_125 ?_
        have e8 : (sj_prt (sj_ia S (b 7)) n p) = (decide (¬ r1 = -1), q, (sj_nx (sj_ia S (b 7)) n p), some r1, none) := hres.trans (if_pos (Or.inl c_91))
        rw [e8, decide_eq_true (p := ¬ r1 = -1) c_117]
        exact ⟨rfl, rfl⟩
    · refine sj_aload_n C 95 rfl dX7_readsPart_94 rfl rfl ?_
      refine sj_getI C 98 rfl fd_X7_179 dX7_readsPart_95 kd_h ?_
      rw [sj_pS_10]
      refine sj_bipush C (121) 100 rfl dX7_readsPart_98 (by decide) ?_
      refine sj_icmp_eq C 112 103 rfl rfl dX7_readsPart_100 (fun c_100 => ?_) (fun c_100 => ?_)
      · refine sj_aload_n C 113 rfl dX7_readsPart_112 rfl rfl ?_
        refine sj_getI C 116 rfl fd_X7_182 dX7_readsPart_113 kd_h ?_
        rw [sj_pS_11]
        refine sj_iconstv C (-1) 117 rfl dX7_readsPart_116 rfl ?_
        refine sj_icmp_eq C 124 120 rfl rfl dX7_readsPart_117 (fun c_117 => ?_) (fun c_117 => ?_)
        · refine sj_iconstv C (0) 125 rfl dX7_readsPart_124 rfl ?_
          refine sj_zret C hR rfl rfl rfl dX7_readsPart_125 ?_
          have e8 : (sj_prt (sj_ia S (b 7)) n p) = (decide (¬ r1 = -1), q, (sj_nx (sj_ia S (b 7)) n p), some r1, none) := hres.trans (if_pos (Or.inr (Or.inl c_100)))
          rw [e8, decide_eq_false (p := ¬ r1 = -1) (fun h8 => h8 c_117)]
          exact ⟨rfl, rfl⟩
        · refine sj_iconstv C (1) 121 rfl dX7_readsPart_120 rfl ?_
          refine sj_goto C 125 rfl dX7_readsPart_121 ?_
          refine sj_zret C hR rfl rfl rfl dX7_readsPart_125 ?_
          have e8 : (sj_prt (sj_ia S (b 7)) n p) = (decide (¬ r1 = -1), q, (sj_nx (sj_ia S (b 7)) n p), some r1, none) := hres.trans (if_pos (Or.inr (Or.inl c_100)))
          rw [e8, decide_eq_true (p := ¬ r1 = -1) c_117]
          exact ⟨rfl, rfl⟩
      · refine sj_aload_n C 104 rfl dX7_readsPart_103 rfl rfl ?_
        refine sj_getI C 107 rfl fd_X7_179 dX7_readsPart_104 kd_h ?_
        rw [sj_pS_10]
        refine sj_bipush C (100) 109 rfl dX7_readsPart_107 (by decide) ?_
        refine sj_icmp_ne C 126 112 rfl rfl dX7_readsPart_109 (fun c_109 => ?_) (fun c_109 => ?_)
        · refine sj_aload_n C 127 rfl dX7_readsPart_126 rfl rfl ?_
          refine sj_bipush C (47) 129 rfl dX7_readsPart_127 (by decide) ?_
          refine sj_callVd C 132 rfl dX7_readsPart_129 cv_X7_167 rfl (ct_X7_takes _ (sj_pS_mm hm q _ r1 f2) (sj_pS_ps hps hq _ r1 f2) 47) rfl rfl rfl ⟨_, _, kd_h, rfl, rfl, by decide⟩ ⟨rfl, rfl⟩ ?_
          rw [sj_pS_w9]
          refine sj_if_ne C 137 135 rfl rfl dX7_readsPart_132 (fun c_132 => ?_) (fun c_132 => ?_)
          · have hq47 : sj_tk (sj_ia S (b 7)) n 47 q ≤ n := sj_tk_le (by decide) hq
            refine sj_aload_n C 138 rfl dX7_readsPart_137 rfl rfl ?_
            refine sj_aload_n C 139 rfl dX7_readsPart_138 rfl rfl ?_
            refine sj_iconstv C (0) 140 rfl dX7_readsPart_139 rfl ?_
            refine sj_bipush C (7) 142 rfl dX7_readsPart_140 (by decide) ?_
            refine sj_callVd C 145 rfl dX7_readsPart_142 cv_X7_170 rfl (ct_X7_readNumber _ (sj_pS_mm hm _ _ r1 f2) (sj_pS_ps hps hq47 _ r1 f2) 0 7 (by decide)) rfl rfl rfl ⟨_, _, kd_h, rfl, rfl, by decide⟩ ⟨rfl, rfl⟩ ?_
            rw [sj_pS_w9]
            refine sj_putI C 148 rfl fd_X7_185 dX7_readsPart_145 rfl rfl kd_h ?_
            rw [sj_pS_w12]
            refine sj_aload_n C 149 rfl dX7_readsPart_148 rfl rfl ?_
            refine sj_getI C 152 rfl fd_X7_185 dX7_readsPart_149 kd_h ?_
            rw [sj_pS_12]
            refine sj_iconstv C (-1) 153 rfl dX7_readsPart_152 rfl ?_
            refine sj_icmp_eq C 160 156 rfl rfl dX7_readsPart_153 (fun c_153 => ?_) (fun c_153 => ?_)
            · refine sj_iconstv C (0) 161 rfl dX7_readsPart_160 rfl ?_
              refine sj_zret C hR rfl rfl rfl dX7_readsPart_161 ?_
              have e8 : (sj_prt (sj_ia S (b 7)) n p) = (decide (¬ (sj_rdn (sj_ia S (b 7)) n 0 7 (sj_tk (sj_ia S (b 7)) n 47 q)).1 = -1), (sj_rdn (sj_ia S (b 7)) n 0 7 (sj_tk (sj_ia S (b 7)) n 47 q)).2, (sj_nx (sj_ia S (b 7)) n p), some r1, some (sj_rdn (sj_ia S (b 7)) n 0 7 (sj_tk (sj_ia S (b 7)) n 47 q)).1) := hres.trans ((if_neg (fun h8 => h8.elim c_91 (fun h8 => h8.elim c_100 c_109))).trans (if_pos (of_decide_eq_true (sj_bin.mp c_132))))
              rw [e8, decide_eq_false (p := ¬ (sj_rdn (sj_ia S (b 7)) n 0 7 (sj_tk (sj_ia S (b 7)) n 47 q)).1 = -1) (fun h8 => h8 c_153)]
              exact ⟨rfl, rfl⟩
            · refine sj_iconstv C (1) 157 rfl dX7_readsPart_156 rfl ?_
              refine sj_goto C 161 rfl dX7_readsPart_157 ?_
              refine sj_zret C hR rfl rfl rfl dX7_readsPart_161 ?_
              have e8 : (sj_prt (sj_ia S (b 7)) n p) = (decide (¬ (sj_rdn (sj_ia S (b 7)) n 0 7 (sj_tk (sj_ia S (b 7)) n 47 q)).1 = -1), (sj_rdn (sj_ia S (b 7)) n 0 7 (sj_tk (sj_ia S (b 7)) n 47 q)).2, (sj_nx (sj_ia S (b 7)) n p), some r1, some (sj_rdn (sj_ia S (b 7)) n 0 7 (sj_tk (sj_ia S (b 7)) n 47 q)).1) := hres.trans ((if_neg (fun h8 => h8.elim c_91 (fun h8 => h8.elim c_100 c_109))).trans (if_pos (of_decide_eq_true (sj_bin.mp c_132))))
              rw [e8, decide_eq_true (p := ¬ (sj_rdn (sj_ia S (b 7)) n 0 7 (sj_tk (sj_ia S (b 7)) n 47 q)).1 = -1) c_153]
              exact ⟨rfl, rfl⟩
          · refine sj_iconstv C (0) 136 rfl dX7_readsPart_135 rfl ?_
            refine sj_zret C hR rfl rfl rfl dX7_readsPart_136 ?_
            have e8 : (sj_prt (sj_ia S (b 7)) n p) = (false, sj_tk (sj_ia S (b 7)) n 47 q, (sj_nx (sj_ia S (b 7)) n p), some r1, none) := hres.trans ((if_neg (fun h8 => h8.elim c_91 (fun h8 => h8.elim c_100 c_109))).trans (if_neg (of_decide_eq_false (sj_bi0.mp c_132))))
            rw [e8]
            exact ⟨rfl, rfl⟩
        · refine sj_aload_n C 113 rfl dX7_readsPart_112 rfl rfl ?_
          refine sj_getI C 116 rfl fd_X7_182 dX7_readsPart_113 kd_h ?_
          rw [sj_pS_11]
          refine sj_iconstv C (-1) 117 rfl dX7_readsPart_116 rfl ?_
          refine sj_icmp_eq C 124 120 rfl rfl dX7_readsPart_117 (fun c_117 => ?_) (fun c_117 => ?_)
          · refine sj_iconstv C (0) 125 rfl dX7_readsPart_124 rfl ?_
            refine sj_zret C hR rfl rfl rfl dX7_readsPart_125 ?_
            have e8 : (sj_prt (sj_ia S (b 7)) n p) = (decide (¬ r1 = -1), q, (sj_nx (sj_ia S (b 7)) n p), some r1, none) := hres.trans (if_pos (Or.inr (Or.inr c_109)))
            rw [e8, decide_eq_false (p := ¬ r1 = -1) (fun h8 => h8 c_117)]
            exact ⟨rfl, rfl⟩
          · refine sj_iconstv C (1) 121 rfl dX7_readsPart_120 rfl ?_
            refine sj_goto C 125 rfl dX7_readsPart_121 ?_
            refine sj_zret C hR rfl rfl rfl dX7_readsPart_125 ?_
            have e8 : (sj_prt (sj_ia S (b 7)) n p) = (decide (¬ r1 = -1), q, (sj_nx (sj_ia S (b 7)) n p), some r1, none) := hres.trans (if_pos (Or.inr (Or.inr c_109)))
            rw [e8, decide_eq_true (p := ¬ r1 = -1) c_117]
            exact ⟨rfl, rfl⟩
  have cut_46 : ((sj_nx (sj_ia S (b 7)) n p) = 108 ∨ (sj_nx (sj_ia S (b 7)) n p) = 117 ∨ (sj_nx (sj_ia S (b 7)) n p) = 121 ∨ (sj_nx (sj_ia S (b 7)) n p) = 100) → sj_G X (sj_pS S h p (sj_nx (sj_ia S (b 7)) n p) f1 f2) 0 0 [some (.ref h)] 46 [] := by
    intro hsg
    have hlt := sj_sg_lt hsg
    refine sj_aload_n C 47 rfl dX7_readsPart_46 rfl rfl ?_
    refine sj_dup C 48 rfl dX7_readsPart_47 rfl ?_
    refine sj_getI C 51 rfl fd_X7_161 dX7_readsPart_48 kd_h ?_
    rw [sj_pS_9]
    refine sj_iconstv C (1) 52 rfl dX7_readsPart_51 rfl ?_
    refine sj_iadd C 53 rfl dX7_readsPart_52 ?_
    rw [nI_1]
    refine sj_putI C 56 rfl fd_X7_161 dX7_readsPart_53 rfl rfl kd_h ?_
    rw [sj_pS_w9]
    refine sj_aload_n C 57 rfl dX7_readsPart_56 rfl rfl ?_
    refine sj_aload_n C 58 rfl dX7_readsPart_57 rfl rfl ?_
    refine sj_getI C 61 rfl fd_X7_179 dX7_readsPart_58 kd_h ?_
    rw [sj_pS_10]
    refine sj_bipush C (121) 63 rfl dX7_readsPart_61 (by decide) ?_
    refine sj_icmp_ne C 76 66 rfl rfl dX7_readsPart_63 (fun c_63 => ?_) (fun c_63 => ?_)
    · refine sj_aload_n C 77 rfl dX7_readsPart_76 rfl rfl ?_
      refine sj_iconstv C (0) 78 rfl dX7_readsPart_77 rfl ?_
      refine sj_bipush C (7) 80 rfl dX7_readsPart_78 (by decide) ?_
      refine sj_callVd C 83 rfl dX7_readsPart_80 cv_X7_170 rfl (ct_X7_readNumber _ (sj_pS_mm hm (p + 1) _ f1 f2) (sj_pS_ps hps hlt _ f1 f2) 0 7 (by decide)) rfl rfl rfl ⟨_, _, kd_h, rfl, rfl, by decide⟩ ⟨rfl, rfl⟩ ?_
      rw [sj_pS_w9]
      refine sj_putI C 86 rfl fd_X7_182 dX7_readsPart_83 rfl rfl kd_h ?_
      rw [sj_pS_w11]
      exact cut_86 _ _ (sj_rdn_le (by decide) hlt) ((if_pos hsg).trans (if_neg c_63))
    · refine sj_aload_n C 67 rfl dX7_readsPart_66 rfl rfl ?_
      refine sj_iconstv C (1) 68 rfl dX7_readsPart_67 rfl ?_
      refine sj_bipush C (99) 70 rfl dX7_readsPart_68 (by decide) ?_
      refine sj_callVd C 73 rfl dX7_readsPart_70 cv_X7_170 rfl (ct_X7_readNumber _ (sj_pS_mm hm (p + 1) _ f1 f2) (sj_pS_ps hps hlt _ f1 f2) 1 99 (by decide)) rfl rfl rfl ⟨_, _, kd_h, rfl, rfl, by decide⟩ ⟨rfl, rfl⟩ ?_
      rw [sj_pS_w9]
      refine sj_goto C 83 rfl dX7_readsPart_73 ?_
      refine sj_putI C 86 rfl fd_X7_182 dX7_readsPart_83 rfl rfl kd_h ?_
      rw [sj_pS_w11]
      exact cut_86 _ _ (sj_rdn_le (by decide) hlt) ((if_pos hsg).trans (if_pos c_63))
  refine sj_aload_n C 1 rfl dX7_readsPart_0 rfl rfl ?_
  refine sj_aload_n C 2 rfl dX7_readsPart_1 rfl rfl ?_
  refine sj_callVd C 5 rfl dX7_readsPart_2 cv_X7_164 rfl (ct_X7_next _ (sj_pS_mm hm p sg f1 f2) (sj_pS_ps hps hp sg f1 f2)) rfl rfl rfl ⟨_, _, kd_h, rfl, rfl, by decide⟩ ⟨rfl, rfl⟩ ?_
  refine sj_putI C 8 rfl fd_X7_179 dX7_readsPart_5 rfl rfl kd_h ?_
  rw [sj_pS_w10]
  refine sj_aload_n C 9 rfl dX7_readsPart_8 rfl rfl ?_
  refine sj_getI C 12 rfl fd_X7_179 dX7_readsPart_9 kd_h ?_
  rw [sj_pS_10]
  refine sj_bipush C (108) 14 rfl dX7_readsPart_12 (by decide) ?_
  refine sj_icmp_eq C 46 17 rfl rfl dX7_readsPart_14 (fun c_14 => ?_) (fun c_14 => ?_)
  · exact cut_46 (Or.inl c_14)
  · refine sj_aload_n C 18 rfl dX7_readsPart_17 rfl rfl ?_
    refine sj_getI C 21 rfl fd_X7_179 dX7_readsPart_18 kd_h ?_
    rw [sj_pS_10]
    refine sj_bipush C (117) 23 rfl dX7_readsPart_21 (by decide) ?_
    refine sj_icmp_eq C 46 26 rfl rfl dX7_readsPart_23 (fun c_23 => ?_) (fun c_23 => ?_)
    · exact cut_46 (Or.inr (Or.inl c_23))
    · refine sj_aload_n C 27 rfl dX7_readsPart_26 rfl rfl ?_
      refine sj_getI C 30 rfl fd_X7_179 dX7_readsPart_27 kd_h ?_
      rw [sj_pS_10]
      refine sj_bipush C (121) 32 rfl dX7_readsPart_30 (by decide) ?_
      refine sj_icmp_eq C 46 35 rfl rfl dX7_readsPart_32 (fun c_32 => ?_) (fun c_32 => ?_)
      · exact cut_46 (Or.inr (Or.inr (Or.inl c_32)))
      · refine sj_aload_n C 36 rfl dX7_readsPart_35 rfl rfl ?_
        refine sj_getI C 39 rfl fd_X7_179 dX7_readsPart_36 kd_h ?_
        rw [sj_pS_10]
        refine sj_bipush C (100) 41 rfl dX7_readsPart_39 (by decide) ?_
        refine sj_icmp_eq C 46 44 rfl rfl dX7_readsPart_41 (fun c_41 => ?_) (fun c_41 => ?_)
        · exact cut_46 (Or.inr (Or.inr (Or.inr c_41)))
        · refine sj_iconstv C (0) 45 rfl dX7_readsPart_44 rfl ?_
          refine sj_zret C hR rfl rfl rfl dX7_readsPart_45 ?_
          have e8 : (sj_prt (sj_ia S (b 7)) n p) = (false, p, (sj_nx (sj_ia S (b 7)) n p), none, none) := if_neg (fun h8 => h8.elim c_14 (fun h8 => h8.elim c_23 (fun h8 => h8.elim c_32 c_41)))
          rw [e8]
          exact ⟨rfl, rfl⟩
/-- works from p on, with the numbers read last: -1 or the place of the error; the place, the sign and the numbers behind it -/
def sj_wkx (B : Nat → Int32) (n : Nat) : Nat → Nat → Int32 → Int32 → Int32 → Int32 × Nat × Int32 × Int32 × Int32
  | 0, p, sg, f1, f2 => (-1, p, sg, f1, f2)
  | j + 1, p, _, f1, f2 =>
    if (sj_prt B n p).1 = false then (nI (sj_prt B n p).2.1, (sj_prt B n p).2.1, (sj_prt B n p).2.2.1, (sj_prt B n p).2.2.2.1.getD f1, (sj_prt B n p).2.2.2.2.getD f2)
    else if (sj_prt B n p).2.1 = n then (-1, (sj_prt B n p).2.1, (sj_prt B n p).2.2.1, (sj_prt B n p).2.2.2.1.getD f1, (sj_prt B n p).2.2.2.2.getD f2)
    else if sj_nx B n (sj_prt B n p).2.1 = 59 then sj_wkx B n j (sj_tk B n 59 (sj_prt B n p).2.1) (sj_prt B n p).2.2.1 ((sj_prt B n p).2.2.2.1.getD f1) ((sj_prt B n p).2.2.2.2.getD f2)
    else (nI (sj_tk B n 59 (sj_prt B n p).2.1), sj_tk B n 59 (sj_prt B n p).2.1, (sj_prt B n p).2.2.1, (sj_prt B n p).2.2.2.1.getD f1, (sj_prt B n p).2.2.2.2.getD f2)
theorem sj_wkx_1 {B : Nat → Int32} {n j p : Nat} {sg f1 f2 : Int32} (h1 : (sj_prt B n p).1 = false) : sj_wkx B n (j + 1) p sg f1 f2 = (nI (sj_prt B n p).2.1, (sj_prt B n p).2.1, (sj_prt B n p).2.2.1, (sj_prt B n p).2.2.2.1.getD f1, (sj_prt B n p).2.2.2.2.getD f2) := if_pos h1
theorem sj_wkx_2 {B : Nat → Int32} {n j p : Nat} {sg f1 f2 : Int32} (h1 : ¬ (sj_prt B n p).1 = false) (h2 : (sj_prt B n p).2.1 = n) : sj_wkx B n (j + 1) p sg f1 f2 = (-1, (sj_prt B n p).2.1, (sj_prt B n p).2.2.1, (sj_prt B n p).2.2.2.1.getD f1, (sj_prt B n p).2.2.2.2.getD f2) := (if_neg h1).trans (if_pos h2)
theorem sj_wkx_3 {B : Nat → Int32} {n j p : Nat} {sg f1 f2 : Int32} (h1 : ¬ (sj_prt B n p).1 = false) (h2 : ¬ (sj_prt B n p).2.1 = n) (h3 : sj_nx B n (sj_prt B n p).2.1 = 59) : sj_wkx B n (j + 1) p sg f1 f2 = sj_wkx B n j (sj_tk B n 59 (sj_prt B n p).2.1) (sj_prt B n p).2.2.1 ((sj_prt B n p).2.2.2.1.getD f1) ((sj_prt B n p).2.2.2.2.getD f2) := (if_neg h1).trans ((if_neg h2).trans (if_pos h3))
theorem sj_wkx_4 {B : Nat → Int32} {n j p : Nat} {sg f1 f2 : Int32} (h1 : ¬ (sj_prt B n p).1 = false) (h2 : ¬ (sj_prt B n p).2.1 = n) (h3 : ¬ sj_nx B n (sj_prt B n p).2.1 = 59) : sj_wkx B n (j + 1) p sg f1 f2 = (nI (sj_tk B n 59 (sj_prt B n p).2.1), sj_tk B n 59 (sj_prt B n p).2.1, (sj_prt B n p).2.2.1, (sj_prt B n p).2.2.2.1.getD f1, (sj_prt B n p).2.2.2.2.getD f2) := (if_neg h1).trans ((if_neg h2).trans (if_neg h3))
def sj_wkt (B : Nat → Int32) (n : Nat) (sg f1 f2 : Int32) : Int32 × Nat × Int32 × Int32 × Int32 := sj_wkx B n (n + 1) 0 sg f1 f2
def sj_pW (S : sj_St) (h : Nat) (r : Int32 × Nat × Int32 × Int32 × Int32) : sj_St := sj_pS S h r.2.1 r.2.2.1 r.2.2.2.1 r.2.2.2.2
theorem sj_pS_id0 (S : sj_St) (h : Nat) : sj_pS S h 0 (sj_fi S h 10) (sj_fi S h 11) (sj_fi S h 12) = sj_wFi S h 9 0 := by
  have e := sj_pS_id (S := sj_wFi S h 9 0) (h := h) (p := 0) (sj_fi_wFi S h 9 _)
  rw [sj_fi_wFi_k S h _ (by omega), sj_fi_wFi_k S h _ (by omega), sj_fi_wFi_k S h _ (by omega)] at e
  unfold sj_pS at e ⊢
  rw [sj_wFi_wFi] at e
  exact e
set_option maxRecDepth 100000 in
set_option maxHeartbeats 400000 in
theorem ct_X7_findWorksError (l : Launch) {S : sj_St} {h : Nat} {b : Nat → Nat} {m : Nat → Int32} (hm : sj_mm S h b m) {n p0 : Nat} {B : Nat → Int32} (hps : sj_ps S h b n B p0) : sj_Ctr l mX7_findWorksError [.ref h] S (sj_eq (some (.int (sj_wkt B n (sj_fi S h 10) (sj_fi S h 11) (sj_fi S h 12)).1)) (sj_pW S h (sj_wkt B n (sj_fi S h 10) (sj_fi S h 11) (sj_fi S h 12)))) := by
  refine sj_start ([some (.ref h)]) (by decide +kernel) rfl rfl (fun X hX C hR => ?_)
  subst hX
  have hm0 := hm
  obtain ⟨hm', em⟩ := hm0
  subst em
  obtain ⟨kd_h, ⟨rf_h_1, kd_a1, il_a1⟩, ⟨rf_h_2, kd_a2, il_a2⟩, ⟨rf_h_3, kd_a3, il_a3⟩, ⟨rf_h_5, kd_a5, il_a5⟩, ⟨rf_h_7, kd_a7, il_a7⟩, ⟨rf_h_13, kd_a13, il_a13⟩, ⟨rf_h_15, kd_a15, il_a15⟩, hinj⟩ := hm'
  obtain ⟨hn, hn60, hp0, hpn0, hB⟩ := id hps
  subst hB
  have cut_5 : ∀ j, ∀ p sg f1 f2, p ≤ n → n - p < j → sj_wkx (sj_ia S (b 7)) n j p sg f1 f2 = (sj_wkt (sj_ia S (b 7)) n (sj_fi S h 10) (sj_fi S h 11) (sj_fi S h 12)) → sj_G X (sj_pS S h p sg f1 f2) 0 0 [some (.ref h)] 5 [] := by
    refine sj_strong _ (fun j ih => ?_)
    intro p sg f1 f2 hp hj hres
    obtain ⟨j, rfl⟩ : ∃ i, j = i + 1 := ⟨j - 1, by omega⟩
    have hle := sj_prt_le (B := (sj_ia S (b 7))) hp
    refine sj_aload_n C 6 rfl dX7_findWorksError_5 rfl rfl ?_
    refine sj_callVd C 9 rfl dX7_findWorksError_6 cv_X7_188 rfl (ct_X7_readsPart _ hm hps hp sg f1 f2) rfl rfl rfl ⟨_, _, kd_h, rfl, rfl, by decide⟩ ⟨rfl, rfl⟩ ?_
    rw [show sj_pR S h f1 f2 (sj_prt (sj_ia S (b 7)) n p) = sj_pS S h (sj_prt (sj_ia S (b 7)) n p).2.1 (sj_prt (sj_ia S (b 7)) n p).2.2.1 ((sj_prt (sj_ia S (b 7)) n p).2.2.2.1.getD f1) ((sj_prt (sj_ia S (b 7)) n p).2.2.2.2.getD f2) from rfl]
    refine sj_if_eq C 39 12 rfl rfl dX7_findWorksError_9 (fun c_9 => ?_) (fun c_9 => ?_)
    · refine sj_aload_n C 40 rfl dX7_findWorksError_39 rfl rfl ?_
      refine sj_getI C 43 rfl fd_X7_161 dX7_findWorksError_40 kd_h ?_
      rw [sj_pS_9]
      refine sj_iret C hR rfl rfl dX7_findWorksError_43 ?_
      have e8 := hres.symm.trans (sj_wkx_1 (sj_bi0.mp c_9))
      rw [e8]
      exact ⟨rfl, rfl⟩
    · have hok : ¬ (sj_prt (sj_ia S (b 7)) n p).1 = false := fun h8 => c_9 (by rw [h8]; rfl)
      refine sj_aload_n C 13 rfl dX7_findWorksError_12 rfl rfl ?_
      refine sj_getI C 16 rfl fd_X7_161 dX7_findWorksError_13 kd_h ?_
      refine sj_aload_n C 17 rfl dX7_findWorksError_16 rfl rfl ?_
      refine sj_getI C 20 rfl fd_X7_139 dX7_findWorksError_17 kd_h ?_
      rw [sj_pS_9, sj_pS_o S h _ _ _ _ (j := 8) (Or.inl (by omega)), hn]
      refine sj_icmp_ne C 25 23 rfl rfl dX7_findWorksError_20 (fun c_20 => ?_) (fun c_20 => ?_)
      · have hpn9 : ¬ (sj_prt (sj_ia S (b 7)) n p).2.1 = n := fun h8 => c_20 (by rw [h8])
        refine sj_aload_n C 26 rfl dX7_findWorksError_25 rfl rfl ?_
        refine sj_bipush C (59) 28 rfl dX7_findWorksError_26 (by decide) ?_
        refine sj_callVd C 31 rfl dX7_findWorksError_28 cv_X7_167 rfl (ct_X7_takes _ (sj_pS_mm hm _ _ _ _) (sj_pS_ps hps hle.2.1 _ _ _) 59) rfl rfl rfl ⟨_, _, kd_h, rfl, rfl, by decide⟩ ⟨rfl, rfl⟩ ?_
        rw [sj_pS_w9]
        refine sj_if_ne C 5 34 rfl rfl dX7_findWorksError_31 (fun c_31 => ?_) (fun c_31 => ?_)
        · have hgo := hle.2.2 (sj_bin.mp c_9)
          have htk := sj_tk_ge (sj_ia S (b 7)) n 59 (sj_prt (sj_ia S (b 7)) n p).2.1
          exact ih j (by omega) _ _ _ _ (sj_tk_le (by decide) hle.2.1) (by omega) ((sj_wkx_3 hok hpn9 (of_decide_eq_true (sj_bin.mp c_31))).symm.trans hres)
        · refine sj_aload_n C 35 rfl dX7_findWorksError_34 rfl rfl ?_
          refine sj_getI C 38 rfl fd_X7_161 dX7_findWorksError_35 kd_h ?_
          rw [sj_pS_9]
          refine sj_iret C hR rfl rfl dX7_findWorksError_38 ?_
          have e8 := hres.symm.trans (sj_wkx_4 hok hpn9 (of_decide_eq_false (sj_bi0.mp c_31)))
          rw [e8]
          exact ⟨rfl, rfl⟩
      · have hpn9 : (sj_prt (sj_ia S (b 7)) n p).2.1 = n := (nI_eq (by omega) (by omega)).mp c_20
        refine sj_iconstv C (-1) 24 rfl dX7_findWorksError_23 rfl ?_
        refine sj_iret C hR rfl rfl dX7_findWorksError_24 ?_
        have e8 := hres.symm.trans (sj_wkx_2 hok hpn9)
        rw [e8]
        exact ⟨rfl, rfl⟩
  refine sj_aload_n C 1 rfl dX7_findWorksError_0 rfl rfl ?_
  refine sj_iconstv C (0) 2 rfl dX7_findWorksError_1 rfl ?_
  refine sj_putI C 5 rfl fd_X7_161 dX7_findWorksError_2 rfl rfl kd_h ?_
  have h9 := cut_5 (n + 1) 0 (sj_fi S h 10) (sj_fi S h 11) (sj_fi S h 12) (Nat.zero_le _) (by omega) rfl
  rw [sj_pS_id0] at h9
  exact h9
theorem sj_ps_0 {S : sj_St} {h : Nat} {b : Nat → Nat} {n p : Nat} {B : Nat → Int32} {v : Int32} (hps : sj_ps S h b n B p) : sj_ps (sj_wFi S h 0 v) h b n B p := ⟨(sj_fi_wFi_k S h _ (by omega)).trans hps.1, hps.2.1, (sj_fi_wFi_k S h _ (by omega)).trans hps.2.2.1, hps.2.2.2⟩
set_option maxRecDepth 100000 in
set_option maxHeartbeats 400000 in
theorem ct_X7_firstError_w (l : Launch) {S : sj_St} {h : Nat} {b : Nat → Nat} {m : Nat → Int32} (hm : sj_mm S h b m) {n p0 : Nat} {B : Nat → Int32} (hps : sj_ps S h b n B p0) : sj_Ctr l mX7_firstError [.ref h, .int 1] S (sj_eq (some (.int (if (sj_wkt B n (sj_fi (sj_wFi S h 0 0) h 10) (sj_fi (sj_wFi S h 0 0) h 11) (sj_fi (sj_wFi S h 0 0) h 12)).1 = -1 then nI n else (sj_wkt B n (sj_fi (sj_wFi S h 0 0) h 10) (sj_fi (sj_wFi S h 0 0) h 11) (sj_fi (sj_wFi S h 0 0) h 12)).1))) (sj_pW (sj_wFi S h 0 0) h (sj_wkt B n (sj_fi (sj_wFi S h 0 0) h 10) (sj_fi (sj_wFi S h 0 0) h 11) (sj_fi (sj_wFi S h 0 0) h 12)))) := by
  refine sj_start ([some (.ref h), some (.int 1), none]) (by decide +kernel) rfl rfl (fun X hX C hR => ?_)
  subst hX
  have hm0 := hm
  obtain ⟨hm', em⟩ := hm0
  subst em
  obtain ⟨kd_h, ⟨rf_h_1, kd_a1, il_a1⟩, ⟨rf_h_2, kd_a2, il_a2⟩, ⟨rf_h_3, kd_a3, il_a3⟩, ⟨rf_h_5, kd_a5, il_a5⟩, ⟨rf_h_7, kd_a7, il_a7⟩, ⟨rf_h_13, kd_a13, il_a13⟩, ⟨rf_h_15, kd_a15, il_a15⟩, hinj⟩ := hm'
  obtain ⟨hn, hn60, hp0, hpn0, hB⟩ := id hps
  subst hB
  refine sj_aload_n C 1 rfl dX7_firstError_0 rfl rfl ?_
  refine sj_iconstv C (0) 2 rfl dX7_firstError_1 rfl ?_
  refine sj_putI C 5 rfl fd_X7_31 dX7_firstError_2 rfl rfl kd_h ?_
  refine sj_iload_n C 6 rfl dX7_firstError_5 rfl rfl ?_
  refine sj_if_eq C 16 9 rfl rfl dX7_firstError_6 (fun c_6 => ?_) (fun c_6 => ?_)
  · exact absurd c_6 (by decide)
  · refine sj_aload_n C 10 rfl dX7_firstError_9 rfl rfl ?_
    refine sj_callVd C 13 rfl dX7_firstError_10 cv_X7_191 rfl (ct_X7_findWorksError _ (sj_mm_f hm h 0 0) (sj_ps_0 hps)) rfl rfl rfl ⟨_, _, kd_h, rfl, rfl, by decide⟩ ⟨rfl, rfl⟩ ?_
    refine sj_goto C 20 rfl dX7_firstError_13 ?_
    refine sj_istore_n_2 C 21 rfl dX7_firstError_20 rfl rfl ?_
    refine sj_iload_n C 22 rfl dX7_firstError_21 rfl rfl ?_
    refine sj_iconstv C (-1) 23 rfl dX7_firstError_22 rfl ?_
    refine sj_icmp_ne C 33 26 rfl rfl dX7_firstError_23 (fun c_23 => ?_) (fun c_23 => ?_)
    · refine sj_iload_n C 34 rfl dX7_firstError_33 rfl rfl ?_
      refine sj_iret C hR rfl rfl dX7_firstError_34 ?_
      refine ⟨congrArg (fun z => some (Value.int z)) ?_, rfl⟩
      rw [if_neg c_23]
    · refine sj_aload_n C 27 rfl dX7_firstError_26 rfl rfl ?_
      refine sj_getI C 30 rfl fd_X7_139 dX7_firstError_27 kd_h ?_
      refine sj_goto C 34 rfl dX7_firstError_30 ?_
      refine sj_iret C hR rfl rfl dX7_firstError_34 ?_
      refine ⟨congrArg (fun z => some (Value.int z)) ?_, rfl⟩
      rw [if_pos c_23]
      exact (sj_pS_o _ h _ _ _ _ (j := 8) (Or.inl (by omega))).trans ((sj_fi_wFi_k S h _ (by omega)).trans hn)
set_option maxRecDepth 100000 in
set_option maxHeartbeats 400000 in
theorem ct_X7_firstError_s (l : Launch) {S : sj_St} {h : Nat} {b : Nat → Nat} {m : Nat → Int32} (hm : sj_mm S h b m) {n p0 : Nat} {B : Nat → Int32} (hps : sj_ps S h b n B p0) : sj_Ctr l mX7_firstError [.ref h, .int 0] S (sj_eq (some (.int (if (sj_sht B n (sj_ia (sj_wFi S h 0 0) (b 13))).1 = -1 then nI n else (sj_sht B n (sj_ia (sj_wFi S h 0 0) (b 13))).1))) (sj_tS (sj_wFi S h 0 0) h b (sj_sht B n (sj_ia (sj_wFi S h 0 0) (b 13))).2.1 (sj_sht B n (sj_ia (sj_wFi S h 0 0) (b 13))).2.2.1 (sj_sht B n (sj_ia (sj_wFi S h 0 0) (b 13))).2.2.2)) := by
  refine sj_start ([some (.ref h), some (.int 0), none]) (by decide +kernel) rfl rfl (fun X hX C hR => ?_)
  subst hX
  have hm0 := hm
  obtain ⟨hm', em⟩ := hm0
  subst em
  obtain ⟨kd_h, ⟨rf_h_1, kd_a1, il_a1⟩, ⟨rf_h_2, kd_a2, il_a2⟩, ⟨rf_h_3, kd_a3, il_a3⟩, ⟨rf_h_5, kd_a5, il_a5⟩, ⟨rf_h_7, kd_a7, il_a7⟩, ⟨rf_h_13, kd_a13, il_a13⟩, ⟨rf_h_15, kd_a15, il_a15⟩, hinj⟩ := hm'
  obtain ⟨hn, hn60, hp0, hpn0, hB⟩ := id hps
  subst hB
  refine sj_aload_n C 1 rfl dX7_firstError_0 rfl rfl ?_
  refine sj_iconstv C (0) 2 rfl dX7_firstError_1 rfl ?_
  refine sj_putI C 5 rfl fd_X7_31 dX7_firstError_2 rfl rfl kd_h ?_
  refine sj_iload_n C 6 rfl dX7_firstError_5 rfl rfl ?_
  refine sj_if_eq C 16 9 rfl rfl dX7_firstError_6 (fun c_6 => ?_) (fun c_6 => ?_)
  · refine sj_aload_n C 17 rfl dX7_firstError_16 rfl rfl ?_
    refine sj_callVd C 20 rfl dX7_firstError_17 cv_X7_176 rfl (ct_X7_findSheetError _ (sj_mm_f hm h 0 0) (sj_ps_0 hps)) rfl rfl rfl ⟨_, _, kd_h, rfl, rfl, by decide⟩ ⟨rfl, rfl⟩ ?_
    refine sj_istore_n_2 C 21 rfl dX7_firstError_20 rfl rfl ?_
    refine sj_iload_n C 22 rfl dX7_firstError_21 rfl rfl ?_
    refine sj_iconstv C (-1) 23 rfl dX7_firstError_22 rfl ?_
    refine sj_icmp_ne C 33 26 rfl rfl dX7_firstError_23 (fun c_23 => ?_) (fun c_23 => ?_)
    · refine sj_iload_n C 34 rfl dX7_firstError_33 rfl rfl ?_
      refine sj_iret C hR rfl rfl dX7_firstError_34 ?_
      refine ⟨congrArg (fun z => some (Value.int z)) ?_, rfl⟩
      rw [if_neg c_23]
    · refine sj_aload_n C 27 rfl dX7_firstError_26 rfl rfl ?_
      refine sj_getI C 30 rfl fd_X7_139 dX7_firstError_27 kd_h ?_
      refine sj_goto C 34 rfl dX7_firstError_30 ?_
      refine sj_iret C hR rfl rfl dX7_firstError_34 ?_
      refine ⟨congrArg (fun z => some (Value.int z)) ?_, rfl⟩
      rw [if_pos c_23]
      exact (sj_tS_o _ h b _ _ _ (j := 8) (by omega) (by omega)).trans ((sj_fi_wFi_k S h _ (by omega)).trans hn)
  · exact absurd rfl c_6
