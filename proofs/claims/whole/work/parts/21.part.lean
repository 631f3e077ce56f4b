/-! THE REFERENCE: works as a text -/
def sj_pS (S : sj_St) (h p : Nat) (sg f1 f2 : Int32) : sj_St := sj_wFi (sj_wFi (sj_wFi (sj_wFi S h 9 (nI p)) h 10 sg) h 11 f1) h 12 f2
theorem sj_pS_9 (S : sj_St) (h p : Nat) (sg f1 f2 : Int32) : sj_fi (sj_pS S h p sg f1 f2) h 9 = nI p := (sj_fi_wFi_k _ h _ (by omega)).trans ((sj_fi_wFi_k _ h _ (by omega)).trans ((sj_fi_wFi_k _ h _ (by omega)).trans (sj_fi_wFi S h 9 _)))
theorem sj_pS_10 (S : sj_St) (h p : Nat) (sg f1 f2 : Int32) : sj_fi (sj_pS S h p sg f1 f2) h 10 = sg := (sj_fi_wFi_k _ h _ (by omega)).trans ((sj_fi_wFi_k _ h _ (by omega)).trans (sj_fi_wFi _ h 10 _))
theorem sj_pS_11 (S : sj_St) (h p : Nat) (sg f1 f2 : Int32) : sj_fi (sj_pS S h p sg f1 f2) h 11 = f1 := (sj_fi_wFi_k _ h _ (by omega)).trans (sj_fi_wFi _ h 11 _)
theorem sj_pS_12 (S : sj_St) (h p : Nat) (sg f1 f2 : Int32) : sj_fi (sj_pS S h p sg f1 f2) h 12 = f2 := sj_fi_wFi _ h 12 _
theorem sj_pS_o (S : sj_St) (h p : Nat) (sg f1 f2 : Int32) {j : Nat} (hj : j < 9 ∨ 12 < j) : sj_fi (sj_pS S h p sg f1 f2) h j = sj_fi S h j := (sj_fi_wFi_k _ h _ (by omega)).trans ((sj_fi_wFi_k _ h _ (by omega)).trans ((sj_fi_wFi_k _ h _ (by omega)).trans (sj_fi_wFi_k S h _ (by omega))))
theorem sj_pS_w12 (S : sj_St) (h p : Nat) (sg f1 f2 v : Int32) : sj_wFi (sj_pS S h p sg f1 f2) h 12 v = sj_pS S h p sg f1 v := sj_wFi_wFi _ h 12 _ _
theorem sj_pS_w11 (S : sj_St) (h p : Nat) (sg f1 f2 v : Int32) : sj_wFi (sj_pS S h p sg f1 f2) h 11 v = sj_pS S h p sg v f2 := by
  unfold sj_pS
  rw [sj_wFi_comm _ h (by omega), sj_wFi_wFi]
theorem sj_pS_w10 (S : sj_St) (h p : Nat) (sg f1 f2 v : Int32) : sj_wFi (sj_pS S h p sg f1 f2) h 10 v = sj_pS S h p v f1 f2 := by
  unfold sj_pS
  rw [sj_wFi_comm _ h (by omega), sj_wFi_comm _ h (k := 11) (j := 10) (by omega), sj_wFi_wFi]
theorem sj_pS_w9 (S : sj_St) (h p q : Nat) (sg f1 f2 : Int32) : sj_wFi (sj_pS S h p sg f1 f2) h 9 (nI q) = sj_pS S h q sg f1 f2 := by
  unfold sj_pS
  rw [sj_wFi_comm _ h (by omega), sj_wFi_comm _ h (k := 11) (j := 9) (by omega), sj_wFi_comm _ h (k := 10) (j := 9) (by omega), sj_wFi_wFi]
theorem sj_pS_id {S : sj_St} {h p : Nat} (hp : sj_fi S h 9 = nI p) : sj_pS S h p (sj_fi S h 10) (sj_fi S h 11) (sj_fi S h 12) = S := by
  unfold sj_pS
  rw [sj_wFi_id hp, sj_wFi_id rfl, sj_wFi_id rfl, sj_wFi_id rfl]
theorem sj_pS_ps {S : sj_St} {h : Nat} {b : Nat → Nat} {n p0 : Nat} {B : Nat → Int32} (hps : sj_ps S h b n B p0) {p : Nat} (hp : p ≤ n) (sg f1 f2 : Int32) : sj_ps (sj_pS S h p sg f1 f2) h b n B p := ⟨(sj_pS_o S h p sg f1 f2 (Or.inl (by omega))).trans hps.1, hps.2.1, sj_pS_9 S h p sg f1 f2, hp, hps.2.2.2.2⟩
theorem sj_pS_mm {S : sj_St} {h : Nat} {b : Nat → Nat} {m : Nat → Int32} (hm : sj_mm S h b m) (p : Nat) (sg f1 f2 : Int32) : sj_mm (sj_pS S h p sg f1 f2) h b m := hm
abbrev sj_P5 : Type := Bool × Nat × Int32 × Option Int32 × Option Int32
def sj_p2 (B : Nat → Int32) (n : Nat) (sg r1 : Int32) (q : Nat) : sj_P5 :=
  if r1 = -1 ∨ sg = 121 ∨ sg = 100 then (decide (¬ r1 = -1), q, sg, some r1, none)
  else if sj_nx B n q = 47 then (decide (¬ (sj_rdn B n 0 7 (sj_tk B n 47 q)).1 = -1), (sj_rdn B n 0 7 (sj_tk B n 47 q)).2, sg, some r1, some (sj_rdn B n 0 7 (sj_tk B n 47 q)).1)
  else (false, sj_tk B n 47 q, sg, some r1, none)
/-- a part from p on: whether it is one, where the reading stands, its sign and its numbers -/
def sj_prt (B : Nat → Int32) (n p : Nat) : sj_P5 :=
  if sj_nx B n p = 108 ∨ sj_nx B n p = 117 ∨ sj_nx B n p = 121 ∨ sj_nx B n p = 100 then
    if sj_nx B n p = 121 then sj_p2 B n (sj_nx B n p) (sj_rdn B n 1 99 (p + 1)).1 (sj_rdn B n 1 99 (p + 1)).2
    else sj_p2 B n (sj_nx B n p) (sj_rdn B n 0 7 (p + 1)).1 (sj_rdn B n 0 7 (p + 1)).2
  else (false, p, sj_nx B n p, none, none)
theorem sj_sg_lt {B : Nat → Int32} {n p : Nat} (h : sj_nx B n p = 108 ∨ sj_nx B n p = 117 ∨ sj_nx B n p = 121 ∨ sj_nx B n p = 100) : p < n := sj_nx_lt (B := B) (fun h0 => by
  rw [h0] at h
  rcases h with h | h | h | h <;> exact absurd h (by decide))
theorem sj_rdn_ge (B : Nat → Int32) (n : Nat) (a z : Int32) (p : Nat) : p ≤ (sj_rdn B n a z p).2 := by
  unfold sj_rdn
  by_cases h : sj_wi (sj_nx B n p - 48) a 9 = false ∨ z < sj_nx B n p - 48
  · rw [if_pos h]
    exact Nat.le_refl _
  · rw [if_neg h]
    by_cases h3 : 0 < sj_nx B n p - 48 ∧ sj_wi (sj_nx B n (p + 1)) 48 57 = true ∧ 10 * (sj_nx B n p - 48) + sj_nx B n (p + 1) - 48 ≤ z
    · rw [if_pos h3]
      show p ≤ p + 2
      omega
    · rw [if_neg h3]
      show p ≤ p + 1
      omega
theorem sj_tk_ge (B : Nat → Int32) (n : Nat) (c : Int32) (p : Nat) : p ≤ sj_tk B n c p := by
  unfold sj_tk
  by_cases h : sj_nx B n p = c
  · rw [if_pos h]
    omega
  · rw [if_neg h]
    exact Nat.le_refl _
theorem sj_p2_le {B : Nat → Int32} {n : Nat} {sg r1 : Int32} {q : Nat} (hq : q ≤ n) : q ≤ (sj_p2 B n sg r1 q).2.1 ∧ (sj_p2 B n sg r1 q).2.1 ≤ n := by
  unfold sj_p2
  by_cases c1 : r1 = -1 ∨ sg = 121 ∨ sg = 100
  · rw [if_pos c1]
    exact ⟨Nat.le_refl _, hq⟩
  · rw [if_neg c1]
    have h1 : sj_tk B n 47 q ≤ n := sj_tk_le (by decide) hq
    have h2 := sj_tk_ge B n 47 q
    by_cases c2 : sj_nx B n q = 47
    · rw [if_pos c2]
      exact ⟨Nat.le_trans h2 (sj_rdn_ge B n 0 7 _), sj_rdn_le (by decide) h1⟩
    · rw [if_neg c2]
      exact ⟨h2, h1⟩
theorem sj_prt_le {B : Nat → Int32} {n p : Nat} (hp : p ≤ n) : p ≤ (sj_prt B n p).2.1 ∧ (sj_prt B n p).2.1 ≤ n ∧ ((sj_prt B n p).1 = true → p < (sj_prt B n p).2.1) := by
  unfold sj_prt
  by_cases c1 : sj_nx B n p = 108 ∨ sj_nx B n p = 117 ∨ sj_nx B n p = 121 ∨ sj_nx B n p = 100
  · have hlt := sj_sg_lt c1
    rw [if_pos c1]
    by_cases c2 : sj_nx B n p = 121
    · rw [if_pos c2]
      have h1 := sj_p2_le (B := B) (sg := sj_nx B n p) (r1 := (sj_rdn B n 1 99 (p + 1)).1) (sj_rdn_le (B := B) (a := 1) (z := 99) (p := p + 1) (by decide) hlt)
      have h2 := sj_rdn_ge B n 1 99 (p + 1)
      exact ⟨by omega, h1.2, fun _ => by omega⟩
    · rw [if_neg c2]
      have h1 := sj_p2_le (B := B) (sg := sj_nx B n p) (r1 := (sj_rdn B n 0 7 (p + 1)).1) (sj_rdn_le (B := B) (a := 0) (z := 7) (p := p + 1) (by decide) hlt)
      have h2 := sj_rdn_ge B n 0 7 (p + 1)
      exact ⟨by omega, h1.2, fun _ => by omega⟩
  · rw [if_neg c1]
    exact ⟨Nat.le_refl _, hp, fun h => by cases h⟩
def sj_pR (S : sj_St) (h : Nat) (f1 f2 : Int32) (r : sj_P5) : sj_St := sj_pS S h r.2.1 r.2.2.1 (r.2.2.2.1.getD f1) (r.2.2.2.2.getD f2)
set_option maxRecDepth 100000 in
set_option maxHeartbeats 400000 in
theorem ct_X7_readsPart (l : Launch) {S : sj_St} {h : Nat} {b : Nat → Nat} {m : Nat → Int32} (hm : sj_mm S h b m) {n p0 : Nat} {B : Nat → Int32} (hps : sj_ps S h b n B p0) {p : Nat} (hp : p ≤ n) (sg f1 f2 : Int32) : sj_Ctr l mX7_readsPart [.ref h] (sj_pS S h p sg f1 f2) (sj_eq (some (.int (sj_bi (sj_prt B n p).1))) (sj_pR S h f1 f2 (sj_prt B n p))) := by
  refine sj_start ([some (.ref h)]) (by decide +kernel) rfl rfl (fun X hX C hR => ?_)
  subst hX
  have hm0 := hm
  obtain ⟨hm', em⟩ := hm0
  subst em
  obtain ⟨kd_h, ⟨rf_h_1, kd_a1, il_a1⟩, ⟨rf_h_2, kd_a2, il_a2⟩, ⟨rf_h_3, kd_a3, il_a3⟩, ⟨rf_h_5, kd_a5, il_a5⟩, ⟨rf_h_7, kd_a7, il_a7⟩, ⟨rf_h_13, kd_a13, il_a13⟩, ⟨rf_h_15, kd_a15, il_a15⟩, hinj⟩ := hm'
  obtain ⟨hn, hn60, hp0, hpn0, hB⟩ := id hps
  subst hB
  have cut_86 : ∀ (r1 : Int32) (q : Nat), q ≤ n → (sj_prt (sj_ia S (b 7)) n p) = sj_p2 (sj_ia S (b 7)) n (sj_nx (sj_ia S (b 7)) n p) r1 q → sj_G X (sj_pS S h q (sj_nx (sj_ia S (b 7)) n p) r1 f2) 0 0 [some (.ref h)] 86 [] := by
    intro r1 q hq hres
    refine sj_aload_n C 87 rfl dX7_readsPart_86 rfl rfl ?_
    refine sj_getI C 90 rfl fd_X7_182 dX7_readsPart_87 kd_h ?_
    rw [sj_pS_11]
    refine sj_iconstv C (-1) 91 rfl dX7_readsPart_90 rfl ?_
    refine sj_icmp_eq C 112 94 rfl rfl dX7_readsPart_91 (fun c_91 => ?_) (fun c_91 => ?_)
    · refine sj_aload_n C 113 rfl dX7_readsPart_112 rfl rfl ?_
      refine sj_getI C 116 rfl fd_X7_182 dX7_readsPart_113 kd_h ?_
      rw [sj_pS_11]
      refine sj_iconstv C (-1) 117 rfl dX7_readsPart_116 rfl ?_
      refine sj_icmp_eq C 124 120 rfl rfl dX7_readsPart_117 (fun c_117 => ?_) (fun c_117 => ?_)
      · refine sj_iconstv C (0) 125 rfl dX7_readsPart_124 rfl ?_
        refine sj_zret C hR rfl rfl rfl dX7_readsPart_125 ?_
        have e8 : (sj_prt (sj_ia S (b 7)) n p) = (decide (¬ r1 = -1), q, (sj_nx (sj_ia S (b 7)) n p), some r1, none) := hres.trans (if_pos (Or.inl c_91))
        rw [e8, decide_eq_false (p := ¬ r1 = -1) (fun h8 => h8 c_117)]
        exact ⟨rfl, rfl⟩
      · refine sj_iconstv C (1) 121 rfl dX7_readsPart_120 rfl ?_
        refine sj_goto C 125 rfl dX7_readsPart_121 ?_
        refine sj_zret C hR rfl rfl rfl dX7_readsPart_125 ?_
        have e8 : (sj_prt (sj_ia S (b 7)) n p) = (decide (¬ r1 = -1), q, (sj_nx (sj_ia S (b 7)) n p), some r1, none) := hres.trans (if_pos (Or.inl c_91))
        rw [e8, decide_eq_true (p := ¬ r1 = -1) c_117]
        exact ⟨rfl, rfl⟩
    · refine sj_aload_n C 95 rfl dX7_readsPart_94 rfl rfl ?_
      refine sj_getI C 98 rfl fd_X7_179 dX7_readsPart_95 kd_h ?_
      rw [sj_pS_10]
      refine sj_bipush C (121) 100 rfl dX7_readsPart_98 (by decide) ?_
      refine sj_icmp_eq C 112 103 rfl rfl dX7_readsPart_100 (fun c_100 => ?_) (fun c_100 => ?_)
      · refine sj_aload_n C 113 rfl dX7_readsPart_112 rfl rfl ?_
        refine sj_getI C 116 rfl fd_X7_182 dX7_readsPart_113 kd_h ?_
        rw [sj_pS_11]
        refine sj_iconstv C (-1) 117 rfl dX7_readsPart_116 rfl ?_
        refine sj_icmp_eq C 124 120 rfl rfl dX7_readsPart_117 (fun c_117 => ?_) (fun c_117 => ?_)
        · refine sj_iconstv C (0) 125 rfl dX7_readsPart_124 rfl ?_
          refine sj_zret C hR rfl rfl rfl dX7_readsPart_125 ?_
          have e8 : (sj_prt (sj_ia S (b 7)) n p) = (decide (¬ r1 = -1), q, (sj_nx (sj_ia S (b 7)) n p), some r1, none) := hres.trans (if_pos (Or.inr (Or.inl c_100)))
          rw [e8, decide_eq_false (p := ¬ r1 = -1) (fun h8 => h8 c_117)]
          exact ⟨rfl, rfl⟩
        · refine sj_iconstv C (1) 121 rfl dX7_readsPart_120 rfl ?_
          refine sj_goto C 125 rfl dX7_readsPart_121 ?_
          refine sj_zret C hR rfl rfl rfl dX7_readsPart_125 ?_
          have e8 : (sj_prt (sj_ia S (b 7)) n p) = (decide (¬ r1 = -1), q, (sj_nx (sj_ia S (b 7)) n p), some r1, none) := hres.trans (if_pos (Or.inr (Or.inl c_100)))
          rw [e8, decide_eq_true (p := ¬ r1 = -1) c_117]
          exact ⟨rfl, rfl⟩
      · refine sj_aload_n C 104 rfl dX7_readsPart_103 rfl rfl ?_
        refine sj_getI C 107 rfl fd_X7_179 dX7_readsPart_104 kd_h ?_
        rw [sj_pS_10]
        refine sj_bipush C (100) 109 rfl dX7_readsPart_107 (by decide) ?_
        refine sj_icmp_ne C 126 112 rfl rfl dX7_readsPart_109 (fun c_109 => ?_) (fun c_109 => ?_)
        · refine sj_aload_n C 127 rfl dX7_readsPart_126 rfl rfl ?_
          refine sj_bipush C (47) 129 rfl dX7_readsPart_127 (by decide) ?_
          refine sj_callVd C 132 rfl dX7_readsPart_129 cv_X7_167 rfl (ct_X7_takes _ (sj_pS_mm hm q _ r1 f2) (sj_pS_ps hps hq _ r1 f2) 47) rfl rfl rfl ⟨_, _, kd_h, rfl, rfl, by decide⟩ ⟨rfl, rfl⟩ ?_
          rw [sj_pS_w9]
          refine sj_if_ne C 137 135 rfl rfl dX7_readsPart_132 (fun c_132 => ?_) (fun c_132 => ?_)
          · have hq47 : sj_tk (sj_ia S (b 7)) n 47 q ≤ n := sj_tk_le (by decide) hq
            refine sj_aload_n C 138 rfl dX7_readsPart_137 rfl rfl ?_
            refine sj_aload_n C 139 rfl dX7_readsPart_138 rfl rfl ?_
            refine sj_iconstv C (0) 140 rfl dX7_readsPart_139 rfl ?_
            refine sj_bipush C (7) 142 rfl dX7_readsPart_140 (by decide) ?_
            refine sj_callVd C 145 rfl dX7_readsPart_142 cv_X7_170 rfl (ct_X7_readNumber _ (sj_pS_mm hm _ _ r1 f2) (sj_pS_ps hps hq47 _ r1 f2) 0 7 (by decide)) rfl rfl rfl ⟨_, _, kd_h, rfl, rfl, by decide⟩ ⟨rfl, rfl⟩ ?_
            rw [sj_pS_w9]
            refine sj_putI C 148 rfl fd_X7_185 dX7_readsPart_145 rfl rfl kd_h ?_
            rw [sj_pS_w12]
            refine sj_aload_n C 149 rfl dX7_readsPart_148 rfl rfl ?_
            refine sj_getI C 152 rfl fd_X7_185 dX7_readsPart_149 kd_h ?_
            rw [sj_pS_12]
            refine sj_iconstv C (-1) 153 rfl dX7_readsPart_152 rfl ?_
            refine sj_icmp_eq C 160 156 rfl rfl dX7_readsPart_153 (fun c_153 => ?_) (fun c_153 => ?_)
            · refine sj_iconstv C (0) 161 rfl dX7_readsPart_160 rfl ?_
              refine sj_zret C hR rfl rfl rfl dX7_readsPart_161 ?_
              have e8 : (sj_prt (sj_ia S (b 7)) n p) = (decide (¬ (sj_rdn (sj_ia S (b 7)) n 0 7 (sj_tk (sj_ia S (b 7)) n 47 q)).1 = -1), (sj_rdn (sj_ia S (b 7)) n 0 7 (sj_tk (sj_ia S (b 7)) n 47 q)).2, (sj_nx (sj_ia S (b 7)) n p), some r1, some (sj_rdn (sj_ia S (b 7)) n 0 7 (sj_tk (sj_ia S (b 7)) n 47 q)).1) := hres.trans ((if_neg (fun h8 => h8.elim c_91 (fun h8 => h8.elim c_100 c_109))).trans (if_pos (of_decide_eq_true (sj_bin.mp c_132))))
              rw [e8, decide_eq_false (p := ¬ (sj_rdn (sj_ia S (b 7)) n 0 7 (sj_tk (sj_ia S (b 7)) n 47 q)).1 = -1) (fun h8 => h8 c_153)]
              exact ⟨rfl, rfl⟩
            · refine sj_iconstv C (1) 157 rfl dX7_readsPart_156 rfl ?_
              refine sj_goto C 161 rfl dX7_readsPart_157 ?_
              refine sj_zret C hR rfl rfl rfl dX7_readsPart_161 ?_
              have e8 : (sj_prt (sj_ia S (b 7)) n p) = (decide (¬ (sj_rdn (sj_ia S (b 7)) n 0 7 (sj_tk (sj_ia S (b 7)) n 47 q)).1 = -1), (sj_rdn (sj_ia S (b 7)) n 0 7 (sj_tk (sj_ia S (b 7)) n 47 q)).2, (sj_nx (sj_ia S (b 7)) n p), some r1, some (sj_rdn (sj_ia S (b 7)) n 0 7 (sj_tk (sj_ia S (b 7)) n 47 q)).1) := hres.trans ((if_neg (fun h8 => h8.elim c_91 (fun h8 => h8.elim c_100 c_109))).trans (if_pos (of_decide_eq_true (sj_bin.mp c_132))))
              rw [e8, decide_eq_true (p := ¬ (sj_rdn (sj_ia S (b 7)) n 0 7 (sj_tk (sj_ia S (b 7)) n 47 q)).1 = -1) c_153]
              exact ⟨rfl, rfl⟩
          · refine sj_iconstv C (0) 136 rfl dX7_readsPart_135 rfl ?_
            refine sj_zret C hR rfl rfl rfl dX7_readsPart_136 ?_
            have e8 : (sj_prt (sj_ia S (b 7)) n p) = (false, sj_tk (sj_ia S (b 7)) n 47 q, (sj_nx (sj_ia S (b 7)) n p), some r1, none) := hres.trans ((if_neg (fun h8 => h8.elim c_91 (fun h8 => h8.elim c_100 c_109))).trans (if_neg (of_decide_eq_false (sj_bi0.mp c_132))))
            rw [e8]
            exact ⟨rfl, rfl⟩
        · refine sj_aload_n C 113 rfl dX7_readsPart_112 rfl rfl ?_
          refine sj_getI C 116 rfl fd_X7_182 dX7_readsPart_113 kd_h ?_
          rw [sj_pS_11]
          refine sj_iconstv C (-1) 117 rfl dX7_readsPart_116 rfl ?_
          refine sj_icmp_eq C 124 120 rfl rfl dX7_readsPart_117 (fun c_117 => ?_) (fun c_117 => ?_)
          · refine sj_iconstv C (0) 125 rfl dX7_readsPart_124 rfl ?_
            refine sj_zret C hR rfl rfl rfl dX7_readsPart_125 ?_
            have e8 : (sj_prt (sj_ia S (b 7)) n p) = (decide (¬ r1 = -1), q, (sj_nx (sj_ia S (b 7)) n p), some r1, none) := hres.trans (if_pos (Or.inr (Or.inr c_109)))
            rw [e8, decide_eq_false (p := ¬ r1 = -1) (fun h8 => h8 c_117)]
            exact ⟨rfl, rfl⟩
          · refine sj_iconstv C (1) 121 rfl dX7_readsPart_120 rfl ?_
            refine sj_goto C 125 rfl dX7_readsPart_121 ?_
            refine sj_zret C hR rfl rfl rfl dX7_readsPart_125 ?_
            have e8 : (sj_prt (sj_ia S (b 7)) n p) = (decide (¬ r1 = -1), q, (sj_nx (sj_ia S (b 7)) n p), some r1, none) := hres.trans (if_pos (Or.inr (Or.inr c_109)))
            rw [e8, decide_eq_true (p := ¬ r1 = -1) c_117]
            exact ⟨rfl, rfl⟩
  have cut_46 : ((sj_nx (sj_ia S (b 7)) n p) = 108 ∨ (sj_nx (sj_ia S (b 7)) n p) = 117 ∨ (sj_nx (sj_ia S (b 7)) n p) = 121 ∨ (sj_nx (sj_ia S (b 7)) n p) = 100) → sj_G X (sj_pS S h p (sj_nx (sj_ia S (b 7)) n p) f1 f2) 0 0 [some (.ref h)] 46 [] := by
    intro hsg
    have hlt := sj_sg_lt hsg
    refine sj_aload_n C 47 rfl dX7_readsPart_46 rfl rfl ?_
    refine sj_dup C 48 rfl dX7_readsPart_47 rfl ?_
    refine sj_getI C 51 rfl fd_X7_161 dX7_readsPart_48 kd_h ?_
    rw [sj_pS_9]
    refine sj_iconstv C (1) 52 rfl dX7_readsPart_51 rfl ?_
    refine sj_iadd C 53 rfl dX7_readsPart_52 ?_
    rw [nI_1]
    refine sj_putI C 56 rfl fd_X7_161 dX7_readsPart_53 rfl rfl kd_h ?_
    rw [sj_pS_w9]
    refine sj_aload_n C 57 rfl dX7_readsPart_56 rfl rfl ?_
    refine sj_aload_n C 58 rfl dX7_readsPart_57 rfl rfl ?_
    refine sj_getI C 61 rfl fd_X7_179 dX7_readsPart_58 kd_h ?_
    rw [sj_pS_10]
    refine sj_bipush C (121) 63 rfl dX7_readsPart_61 (by decide) ?_
    refine sj_icmp_ne C 76 66 rfl rfl dX7_readsPart_63 (fun c_63 => ?_) (fun c_63 => ?_)
    · refine sj_aload_n C 77 rfl dX7_readsPart_76 rfl rfl ?_
      refine sj_iconstv C (0) 78 rfl dX7_readsPart_77 rfl ?_
      refine sj_bipush C (7) 80 rfl dX7_readsPart_78 (by decide) ?_
      refine sj_callVd C 83 rfl dX7_readsPart_80 cv_X7_170 rfl (ct_X7_readNumber _ (sj_pS_mm hm (p + 1) _ f1 f2) (sj_pS_ps hps hlt _ f1 f2) 0 7 (by decide)) rfl rfl rfl ⟨_, _, kd_h, rfl, rfl, by decide⟩ ⟨rfl, rfl⟩ ?_
      rw [sj_pS_w9]
      refine sj_putI C 86 rfl fd_X7_182 dX7_readsPart_83 rfl rfl kd_h ?_
      rw [sj_pS_w11]
      exact cut_86 _ _ (sj_rdn_le (by decide) hlt) ((if_pos hsg).trans (if_neg c_63))
    · refine sj_aload_n C 67 rfl dX7_readsPart_66 rfl rfl ?_
      refine sj_iconstv C (1) 68 rfl dX7_readsPart_67 rfl ?_
      refine sj_bipush C (99) 70 rfl dX7_readsPart_68 (by decide) ?_
      refine sj_callVd C 73 rfl dX7_readsPart_70 cv_X7_170 rfl (ct_X7_readNumber _ (sj_pS_mm hm (p + 1) _ f1 f2) (sj_pS_ps hps hlt _ f1 f2) 1 99 (by decide)) rfl rfl rfl ⟨_, _, kd_h, rfl, rfl, by decide⟩ ⟨rfl, rfl⟩ ?_
      rw [sj_pS_w9]
      refine sj_goto C 83 rfl dX7_readsPart_73 ?_
      refine sj_putI C 86 rfl fd_X7_182 dX7_readsPart_83 rfl rfl kd_h ?_
      rw [sj_pS_w11]
      exact cut_86 _ _ (sj_rdn_le (by decide) hlt) ((if_pos hsg).trans (if_pos c_63))
  refine sj_aload_n C 1 rfl dX7_readsPart_0 rfl rfl ?_
  refine sj_aload_n C 2 rfl dX7_readsPart_1 rfl rfl ?_
  refine sj_callVd C 5 rfl dX7_readsPart_2 cv_X7_164 rfl (ct_X7_next _ (sj_pS_mm hm p sg f1 f2) (sj_pS_ps hps hp sg f1 f2)) rfl rfl rfl ⟨_, _, kd_h, rfl, rfl, by decide⟩ ⟨rfl, rfl⟩ ?_
  refine sj_putI C 8 rfl fd_X7_179 dX7_readsPart_5 rfl rfl kd_h ?_
  rw [sj_pS_w10]
  refine sj_aload_n C 9 rfl dX7_readsPart_8 rfl rfl ?_
  refine sj_getI C 12 rfl fd_X7_179 dX7_readsPart_9 kd_h ?_
  rw [sj_pS_10]
  refine sj_bipush C (108) 14 rfl dX7_readsPart_12 (by decide) ?_
  refine sj_icmp_eq C 46 17 rfl rfl dX7_readsPart_14 (fun c_14 => ?_) (fun c_14 => ?_)
  · exact cut_46 (Or.inl c_14)
  · refine sj_aload_n C 18 rfl dX7_readsPart_17 rfl rfl ?_
    refine sj_getI C 21 rfl fd_X7_179 dX7_readsPart_18 kd_h ?_
    rw [sj_pS_10]
    refine sj_bipush C (117) 23 rfl dX7_readsPart_21 (by decide) ?_
    refine sj_icmp_eq C 46 26 rfl rfl dX7_readsPart_23 (fun c_23 => ?_) (fun c_23 => ?_)
    · exact cut_46 (Or.inr (Or.inl c_23))
    · refine sj_aload_n C 27 rfl dX7_readsPart_26 rfl rfl ?_
      refine sj_getI C 30 rfl fd_X7_179 dX7_readsPart_27 kd_h ?_
      rw [sj_pS_10]
      refine sj_bipush C (121) 32 rfl dX7_readsPart_30 (by decide) ?_
      refine sj_icmp_eq C 46 35 rfl rfl dX7_readsPart_32 (fun c_32 => ?_) (fun c_32 => ?_)
      · exact cut_46 (Or.inr (Or.inr (Or.inl c_32)))
      · refine sj_aload_n C 36 rfl dX7_readsPart_35 rfl rfl ?_
        refine sj_getI C 39 rfl fd_X7_179 dX7_readsPart_36 kd_h ?_
        rw [sj_pS_10]
        refine sj_bipush C (100) 41 rfl dX7_readsPart_39 (by decide) ?_
        refine sj_icmp_eq C 46 44 rfl rfl dX7_readsPart_41 (fun c_41 => ?_) (fun c_41 => ?_)
        · exact cut_46 (Or.inr (Or.inr (Or.inr c_41)))
        · refine sj_iconstv C (0) 45 rfl dX7_readsPart_44 rfl ?_
          refine sj_zret C hR rfl rfl rfl dX7_readsPart_45 ?_
          have e8 : (sj_prt (sj_ia S (b 7)) n p) = (false, p, (sj_nx (sj_ia S (b 7)) n p), none, none) := if_neg (fun h8 => h8.elim c_14 (fun h8 => h8.elim c_23 (fun h8 => h8.elim c_32 c_41)))
          rw [e8]
          exact ⟨rfl, rfl⟩
