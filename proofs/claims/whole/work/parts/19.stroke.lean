/-! THE REFERENCE: a stroke, a sheet as a text -/
abbrev sj_W5 : Type := Int32 × Int32 × Int32 × Int32 × Int32
def sj_u3 (B : Nat → Int32) (n : Nat) (sl hg lp : Int32) (p : Nat) : Bool × Nat × Option sj_W5 :=
  if (sj_rdn B n 1 9 p).1 = -1 then (false, (sj_rdn B n 1 9 p).2, some (sl, hg, lp, -1, 0))
  else if sj_nx B n (sj_rdn B n 1 9 p).2 = 126 then (decide (¬ (sj_rdn B n 1 9 (sj_tk B n 126 (sj_rdn B n 1 9 p).2)).1 = -1), (sj_rdn B n 1 9 (sj_tk B n 126 (sj_rdn B n 1 9 p).2)).2, some (sl, hg, lp, (sj_rdn B n 1 9 p).1, (sj_rdn B n 1 9 (sj_tk B n 126 (sj_rdn B n 1 9 p).2)).1))
  else (true, sj_tk B n 126 (sj_rdn B n 1 9 p).2, some (sl, hg, lp, (sj_rdn B n 1 9 p).1, 0))
def sj_u2b (B : Nat → Int32) (n : Nat) (sl hg lp : Int32) (p : Nat) : Bool × Nat × Option sj_W5 :=
  if sj_nx B n p = 112 then sj_u3 B n sl hg lp (sj_tk B n 112 p) else (false, sj_tk B n 112 p, none)
def sj_u2 (B : Nat → Int32) (n : Nat) (sl : Int32) (p : Nat) : Bool × Nat × Option sj_W5 :=
  if (sj_rdn B n 1 60 p).1 = -1 then (false, (sj_rdn B n 1 60 p).2, none)
  else sj_u2b B n sl (sj_rdn B n 1 60 p).1 (sj_bi (decide (sj_nx B n (sj_rdn B n 1 60 p).2 = 111))) (sj_tk B n 111 (sj_rdn B n 1 60 p).2)
def sj_u1 (B : Nat → Int32) (n : Nat) (lo : Bool) (p : Nat) : Bool × Nat × Option sj_W5 :=
  if (sj_rdn B n (sj_bi lo) 45 p).1 = -1 then (false, (sj_rdn B n (sj_bi lo) 45 p).2, none)
  else if sj_nx B n (sj_rdn B n (sj_bi lo) 45 p).2 = 58 then sj_u2 B n (if lo then -(sj_rdn B n (sj_bi lo) 45 p).1 else (sj_rdn B n (sj_bi lo) 45 p).1) (sj_tk B n 58 (sj_rdn B n (sj_bi lo) 45 p).2)
  else (false, sj_tk B n 58 (sj_rdn B n (sj_bi lo) 45 p).2, none)
/-- a stroke from p on: whether it is one, where the reading stands, and what is noted of it -/
def sj_rst (B : Nat → Int32) (n p : Nat) : Bool × Nat × Option sj_W5 := sj_u1 B n (decide (sj_nx B n p = 45)) (sj_tk B n 45 p)
def sj_wst (f : Nat → Int32) (k : Nat) (w : sj_W5) : Nat → Int32 := upd (upd (upd (upd (upd f (5 * k) w.1) (5 * k + 1) w.2.1) (5 * k + 2) w.2.2.1) (5 * k + 3) w.2.2.2.1) (5 * k + 4) w.2.2.2.2
def sj_rsS (S : sj_St) (h : Nat) (b : Nat → Nat) (k : Nat) (r : Bool × Nat × Option sj_W5) : sj_St := match r.2.2 with
  | none => sj_wFi S h 9 (nI r.2.1)
  | some w => sj_wFi (sj_sIa (sj_wFi S h 9 (nI r.2.1)) (b 13) (sj_wst (sj_ia S (b 13)) k w)) h 14 (nI (k + 1))
theorem sj_bi_le (b : Bool) : 0 ≤ sj_bi b := by cases b <;> decide
set_option maxRecDepth 100000 in
set_option maxHeartbeats 400000 in
theorem ct_X7_readsStroke (l : Launch) {S : sj_St} {h : Nat} {b : Nat → Nat} {m : Nat → Int32} (hm : sj_mm S h b m) {n p : Nat} {B : Nat → Int32} (hps : sj_ps S h b n B p) (k : Nat) (hk : k < 8) (hk14 : sj_fi S h 14 = nI k) : sj_Ctr l mX7_readsStroke [.ref h] S (sj_eq (some (.int (sj_bi (sj_rst B n p).1))) (sj_rsS S h b k (sj_rst B n p))) := by
  refine sj_start ([some (.ref h), none, none, none, none, none, none, none, none]) (by decide +kernel) rfl rfl (fun X hX C hR => ?_)
  subst hX
  have hm0 := hm
  obtain ⟨hm', em⟩ := hm0
  subst em
  obtain ⟨kd_h, ⟨rf_h_1, kd_a1, il_a1⟩, ⟨rf_h_2, kd_a2, il_a2⟩, ⟨rf_h_3, kd_a3, il_a3⟩, ⟨rf_h_5, kd_a5, il_a5⟩, ⟨rf_h_7, kd_a7, il_a7⟩, ⟨rf_h_13, kd_a13, il_a13⟩, ⟨rf_h_15, kd_a15, il_a15⟩, hinj⟩ := hm'
  obtain ⟨hn, hn60, hp, hpn, hB⟩ := id hps
  subst hB
  have efi14 : ∀ (q : Nat) (T : sj_St), sj_fi T = sj_fi (sj_wFi S h 9 (nI q)) → sj_fi T h 14 = nI k := fun q T hT => by
    rw [hT]
    exact (sj_fi_wFi_k S h _ (by omega)).trans hk14
  have cut_143 : ∀ (lo lp : Bool) (sl hg pr v7 tr : Int32) (q : Nat), sj_rst (sj_ia S (b 7)) n p = (decide (¬ pr = -1) && decide (¬ tr = -1), q, some (if lo then -sl else sl, hg, sj_bi lp, pr, tr)) → sj_G X (sj_wFi S h 9 (nI (q))) 0 0 [some (.ref h), some (.int (nI (5 * k))), some (.int (sj_bi lo)), some (.int (sl)), some (.int (hg)), some (.int (sj_bi lp)), some (.int (pr)), some (.int (v7)), some (.int (tr))] 143 [] := by
    intro lo lp sl hg pr v7 tr q hres
    refine sj_aload_n C 144 rfl dX7_readsStroke_143 rfl rfl ?_
    refine sj_getr C 147 rfl fd_X7_25 dX7_readsStroke_144 kd_h rf_h_13 ?_
    refine sj_iload_n C 148 rfl dX7_readsStroke_147 rfl rfl ?_
    refine sj_iconstv C (0) 149 rfl dX7_readsStroke_148 rfl ?_
    refine sj_iadd C 150 rfl dX7_readsStroke_149 ?_
    rw [Int32.add_zero]
    refine sj_iload_n C 151 rfl dX7_readsStroke_150 rfl rfl ?_
    refine sj_if_eq C 159 154 rfl rfl dX7_readsStroke_151 (fun c_151 => ?_) (fun c_151 => ?_)
    · refine sj_iload_n C 160 rfl dX7_readsStroke_159 rfl rfl ?_
      refine sj_iast C 161 rfl dX7_readsStroke_160 kd_a13 (by show vp_in (nI (5 * k)) (sj_il S (b 13)); rw [il_a13]; exact vp_in_nI (by omega) (by omega)) ?_
      refine sj_aload_n C 162 rfl dX7_readsStroke_161 rfl rfl ?_
      refine sj_getr C 165 rfl fd_X7_25 dX7_readsStroke_162 kd_h rf_h_13 ?_
      refine sj_iload_n C 166 rfl dX7_readsStroke_165 rfl rfl ?_
      refine sj_iconstv C (1) 167 rfl dX7_readsStroke_166 rfl ?_
      refine sj_iadd C 168 rfl dX7_readsStroke_167 ?_
      rw [show nI (5 * k) + 1 = nI (5 * k + 1) from nI_add _ 1]
      refine sj_iload C 170 rfl dX7_readsStroke_168 rfl ?_
      refine sj_iast C 171 rfl dX7_readsStroke_170 kd_a13 (by show vp_in (nI (5 * k + 1)) (sj_il S (b 13)); rw [il_a13]; exact vp_in_nI (by omega) (by omega)) ?_
      refine sj_aload_n C 172 rfl dX7_readsStroke_171 rfl rfl ?_
      refine sj_getr C 175 rfl fd_X7_25 dX7_readsStroke_172 kd_h rf_h_13 ?_
      refine sj_iload_n C 176 rfl dX7_readsStroke_175 rfl rfl ?_
      refine sj_iconstv C (2) 177 rfl dX7_readsStroke_176 rfl ?_
      refine sj_iadd C 178 rfl dX7_readsStroke_177 ?_
      rw [show nI (5 * k) + 2 = nI (5 * k + 2) from nI_add _ 2]
      refine sj_iload C 180 rfl dX7_readsStroke_178 rfl ?_
      refine sj_if_eq C 187 183 rfl rfl dX7_readsStroke_180 (fun c_180 => ?_) (fun c_180 => ?_)
      · refine sj_iconstv C (0) 188 rfl dX7_readsStroke_187 rfl ?_
        refine sj_iast C 189 rfl dX7_readsStroke_188 kd_a13 (by show vp_in (nI (5 * k + 2)) (sj_il S (b 13)); rw [il_a13]; exact vp_in_nI (by omega) (by omega)) ?_
        refine sj_aload_n C 190 rfl dX7_readsStroke_189 rfl rfl ?_
        refine sj_getr C 193 rfl fd_X7_25 dX7_readsStroke_190 kd_h rf_h_13 ?_
        refine sj_iload_n C 194 rfl dX7_readsStroke_193 rfl rfl ?_
        refine sj_iconstv C (3) 195 rfl dX7_readsStroke_194 rfl ?_
        refine sj_iadd C 196 rfl dX7_readsStroke_195 ?_
        rw [show nI (5 * k) + 3 = nI (5 * k + 3) from nI_add _ 3]
        refine sj_iload C 198 rfl dX7_readsStroke_196 rfl ?_
        refine sj_iast C 199 rfl dX7_readsStroke_198 kd_a13 (by show vp_in (nI (5 * k + 3)) (sj_il S (b 13)); rw [il_a13]; exact vp_in_nI (by omega) (by omega)) ?_
        refine sj_aload_n C 200 rfl dX7_readsStroke_199 rfl rfl ?_
        refine sj_getr C 203 rfl fd_X7_25 dX7_readsStroke_200 kd_h rf_h_13 ?_
        refine sj_iload_n C 204 rfl dX7_readsStroke_203 rfl rfl ?_
        refine sj_iconstv C (4) 205 rfl dX7_readsStroke_204 rfl ?_
        refine sj_iadd C 206 rfl dX7_readsStroke_205 ?_
        rw [show nI (5 * k) + 4 = nI (5 * k + 4) from nI_add _ 4]
        refine sj_iload C 208 rfl dX7_readsStroke_206 rfl ?_
        refine sj_iast C 209 rfl dX7_readsStroke_208 kd_a13 (by show vp_in (nI (5 * k + 4)) (sj_il S (b 13)); rw [il_a13]; exact vp_in_nI (by omega) (by omega)) ?_
        refine sj_aload_n C 210 rfl dX7_readsStroke_209 rfl rfl ?_
        refine sj_dup C 211 rfl dX7_readsStroke_210 rfl ?_
        refine sj_getI C 214 rfl fd_X7_136 dX7_readsStroke_211 kd_h ?_
        refine sj_iconstv C (1) 215 rfl dX7_readsStroke_214 rfl ?_
        refine sj_iadd C 216 rfl dX7_readsStroke_215 ?_
        rw [efi14 q, nI_1]
        rotate_left
        · rfl
        refine sj_putI C 219 rfl fd_X7_136 dX7_readsStroke_216 rfl rfl kd_h ?_
        refine sj_iload C 221 rfl dX7_readsStroke_219 rfl ?_
        refine sj_iconstv C (-1) 222 rfl dX7_readsStroke_221 rfl ?_
        refine sj_icmp_eq C 235 225 rfl rfl dX7_readsStroke_222 (fun c_222 => ?_) (fun c_222 => ?_)
        · refine sj_iconstv C (0) 236 rfl dX7_readsStroke_235 rfl ?_
          refine sj_zret C hR rfl rfl rfl dX7_readsStroke_236 ?_
          rw [hres, decide_eq_false (p := ¬ pr = -1) (fun h8 => h8 c_222)]
          refine ⟨rfl, ?_⟩
          rw [sj_bi0.mp c_151, sj_bi0.mp c_180]
          show _ = sj_wFi (sj_sIa (sj_wFi S h 9 (nI (q))) (b 13) (sj_wst (sj_ia S (b 13)) k _)) h 14 (nI (k + 1))
          simp only [nI_clamp (show 5 * k < 2 ^ 31 by omega), nI_clamp (show 5 * k + 1 < 2 ^ 31 by omega), nI_clamp (show 5 * k + 2 < 2 ^ 31 by omega), nI_clamp (show 5 * k + 3 < 2 ^ 31 by omega), nI_clamp (show 5 * k + 4 < 2 ^ 31 by omega), sj_wIa_eq, sj_sIa_sIa, sj_ia_sIa]
          rfl
        · refine sj_iload C 227 rfl dX7_readsStroke_225 rfl ?_
          refine sj_iconstv C (-1) 228 rfl dX7_readsStroke_227 rfl ?_
          refine sj_icmp_eq C 235 231 rfl rfl dX7_readsStroke_228 (fun c_228 => ?_) (fun c_228 => ?_)
          · refine sj_iconstv C (0) 236 rfl dX7_readsStroke_235 rfl ?_
            refine sj_zret C hR rfl rfl rfl dX7_readsStroke_236 ?_
            rw [hres, decide_eq_true (p := ¬ pr = -1) c_222, decide_eq_false (p := ¬ tr = -1) (fun h8 => h8 c_228)]
            refine ⟨rfl, ?_⟩
            rw [sj_bi0.mp c_151, sj_bi0.mp c_180]
            show _ = sj_wFi (sj_sIa (sj_wFi S h 9 (nI (q))) (b 13) (sj_wst (sj_ia S (b 13)) k _)) h 14 (nI (k + 1))
            simp only [nI_clamp (show 5 * k < 2 ^ 31 by omega), nI_clamp (show 5 * k + 1 < 2 ^ 31 by omega), nI_clamp (show 5 * k + 2 < 2 ^ 31 by omega), nI_clamp (show 5 * k + 3 < 2 ^ 31 by omega), nI_clamp (show 5 * k + 4 < 2 ^ 31 by omega), sj_wIa_eq, sj_sIa_sIa, sj_ia_sIa]
            rfl
          · refine sj_iconstv C (1) 232 rfl dX7_readsStroke_231 rfl ?_
            refine sj_goto C 236 rfl dX7_readsStroke_232 ?_
            refine sj_zret C hR rfl rfl rfl dX7_readsStroke_236 ?_
            rw [hres, decide_eq_true (p := ¬ pr = -1) c_222, decide_eq_true (p := ¬ tr = -1) c_228]
            refine ⟨rfl, ?_⟩
            rw [sj_bi0.mp c_151, sj_bi0.mp c_180]
            show _ = sj_wFi (sj_sIa (sj_wFi S h 9 (nI (q))) (b 13) (sj_wst (sj_ia S (b 13)) k _)) h 14 (nI (k + 1))
            simp only [nI_clamp (show 5 * k < 2 ^ 31 by omega), nI_clamp (show 5 * k + 1 < 2 ^ 31 by omega), nI_clamp (show 5 * k + 2 < 2 ^ 31 by omega), nI_clamp (show 5 * k + 3 < 2 ^ 31 by omega), nI_clamp (show 5 * k + 4 < 2 ^ 31 by omega), sj_wIa_eq, sj_sIa_sIa, sj_ia_sIa]
            rfl
      · refine sj_iconstv C (1) 184 rfl dX7_readsStroke_183 rfl ?_
        refine sj_goto C 188 rfl dX7_readsStroke_184 ?_
        refine sj_iast C 189 rfl dX7_readsStroke_188 kd_a13 (by show vp_in (nI (5 * k + 2)) (sj_il S (b 13)); rw [il_a13]; exact vp_in_nI (by omega) (by omega)) ?_
        refine sj_aload_n C 190 rfl dX7_readsStroke_189 rfl rfl ?_
        refine sj_getr C 193 rfl fd_X7_25 dX7_readsStroke_190 kd_h rf_h_13 ?_
        refine sj_iload_n C 194 rfl dX7_readsStroke_193 rfl rfl ?_
        refine sj_iconstv C (3) 195 rfl dX7_readsStroke_194 rfl ?_
        refine sj_iadd C 196 rfl dX7_readsStroke_195 ?_
        rw [show nI (5 * k) + 3 = nI (5 * k + 3) from nI_add _ 3]
        refine sj_iload C 198 rfl dX7_readsStroke_196 rfl ?_
        refine sj_iast C 199 rfl dX7_readsStroke_198 kd_a13 (by show vp_in (nI (5 * k + 3)) (sj_il S (b 13)); rw [il_a13]; exact vp_in_nI (by omega) (by omega)) ?_
        refine sj_aload_n C 200 rfl dX7_readsStroke_199 rfl rfl ?_
        refine sj_getr C 203 rfl fd_X7_25 dX7_readsStroke_200 kd_h rf_h_13 ?_
        refine sj_iload_n C 204 rfl dX7_readsStroke_203 rfl rfl ?_
        refine sj_iconstv C (4) 205 rfl dX7_readsStroke_204 rfl ?_
        refine sj_iadd C 206 rfl dX7_readsStroke_205 ?_
        rw [show nI (5 * k) + 4 = nI (5 * k + 4) from nI_add _ 4]
        refine sj_iload C 208 rfl dX7_readsStroke_206 rfl ?_
        refine sj_iast C 209 rfl dX7_readsStroke_208 kd_a13 (by show vp_in (nI (5 * k + 4)) (sj_il S (b 13)); rw [il_a13]; exact vp_in_nI (by omega) (by omega)) ?_
        refine sj_aload_n C 210 rfl dX7_readsStroke_209 rfl rfl ?_
        refine sj_dup C 211 rfl dX7_readsStroke_210 rfl ?_
        refine sj_getI C 214 rfl fd_X7_136 dX7_readsStroke_211 kd_h ?_
        refine sj_iconstv C (1) 215 rfl dX7_readsStroke_214 rfl ?_
        refine sj_iadd C 216 rfl dX7_readsStroke_215 ?_
        rw [efi14 q, nI_1]
        rotate_left
        · rfl
        refine sj_putI C 219 rfl fd_X7_136 dX7_readsStroke_216 rfl rfl kd_h ?_
        refine sj_iload C 221 rfl dX7_readsStroke_219 rfl ?_
        refine sj_iconstv C (-1) 222 rfl dX7_readsStroke_221 rfl ?_
        refine sj_icmp_eq C 235 225 rfl rfl dX7_readsStroke_222 (fun c_222 => ?_) (fun c_222 => ?_)
        · refine sj_iconstv C (0) 236 rfl dX7_readsStroke_235 rfl ?_
          refine sj_zret C hR rfl rfl rfl dX7_readsStroke_236 ?_
          rw [hres, decide_eq_false (p := ¬ pr = -1) (fun h8 => h8 c_222)]
          refine ⟨rfl, ?_⟩
          rw [sj_bi0.mp c_151, sj_bin.mp c_180]
          show _ = sj_wFi (sj_sIa (sj_wFi S h 9 (nI (q))) (b 13) (sj_wst (sj_ia S (b 13)) k _)) h 14 (nI (k + 1))
          simp only [nI_clamp (show 5 * k < 2 ^ 31 by omega), nI_clamp (show 5 * k + 1 < 2 ^ 31 by omega), nI_clamp (show 5 * k + 2 < 2 ^ 31 by omega), nI_clamp (show 5 * k + 3 < 2 ^ 31 by omega), nI_clamp (show 5 * k + 4 < 2 ^ 31 by omega), sj_wIa_eq, sj_sIa_sIa, sj_ia_sIa]
          rfl
        · refine sj_iload C 227 rfl dX7_readsStroke_225 rfl ?_
          refine sj_iconstv C (-1) 228 rfl dX7_readsStroke_227 rfl ?_
          refine sj_icmp_eq C 235 231 rfl rfl dX7_readsStroke_228 (fun c_228 => ?_) (fun c_228 => ?_)
          · refine sj_iconstv C (0) 236 rfl dX7_readsStroke_235 rfl ?_
            refine sj_zret C hR rfl rfl rfl dX7_readsStroke_236 ?_
            rw [hres, decide_eq_true (p := ¬ pr = -1) c_222, decide_eq_false (p := ¬ tr = -1) (fun h8 => h8 c_228)]
            refine ⟨rfl, ?_⟩
            rw [sj_bi0.mp c_151, sj_bin.mp c_180]
            show _ = sj_wFi (sj_sIa (sj_wFi S h 9 (nI (q))) (b 13) (sj_wst (sj_ia S (b 13)) k _)) h 14 (nI (k + 1))
            simp only [nI_clamp (show 5 * k < 2 ^ 31 by omega), nI_clamp (show 5 * k + 1 < 2 ^ 31 by omega), nI_clamp (show 5 * k + 2 < 2 ^ 31 by omega), nI_clamp (show 5 * k + 3 < 2 ^ 31 by omega), nI_clamp (show 5 * k + 4 < 2 ^ 31 by omega), sj_wIa_eq, sj_sIa_sIa, sj_ia_sIa]
            rfl
          · refine sj_iconstv C (1) 232 rfl dX7_readsStroke_231 rfl ?_
            refine sj_goto C 236 rfl dX7_readsStroke_232 ?_
            refine sj_zret C hR rfl rfl rfl dX7_readsStroke_236 ?_
            rw [hres, decide_eq_true (p := ¬ pr = -1) c_222, decide_eq_true (p := ¬ tr = -1) c_228]
            refine ⟨rfl, ?_⟩
            rw [sj_bi0.mp c_151, sj_bin.mp c_180]
            show _ = sj_wFi (sj_sIa (sj_wFi S h 9 (nI (q))) (b 13) (sj_wst (sj_ia S (b 13)) k _)) h 14 (nI (k + 1))
            simp only [nI_clamp (show 5 * k < 2 ^ 31 by omega), nI_clamp (show 5 * k + 1 < 2 ^ 31 by omega), nI_clamp (show 5 * k + 2 < 2 ^ 31 by omega), nI_clamp (show 5 * k + 3 < 2 ^ 31 by omega), nI_clamp (show 5 * k + 4 < 2 ^ 31 by omega), sj_wIa_eq, sj_sIa_sIa, sj_ia_sIa]
            rfl
    · refine sj_iload_n C 155 rfl dX7_readsStroke_154 rfl rfl ?_
      refine sj_ineg C 156 rfl dX7_readsStroke_155 ?_
      refine sj_goto C 160 rfl dX7_readsStroke_156 ?_
      refine sj_iast C 161 rfl dX7_readsStroke_160 kd_a13 (by show vp_in (nI (5 * k)) (sj_il S (b 13)); rw [il_a13]; exact vp_in_nI (by omega) (by omega)) ?_
      refine sj_aload_n C 162 rfl dX7_readsStroke_161 rfl rfl ?_
      refine sj_getr C 165 rfl fd_X7_25 dX7_readsStroke_162 kd_h rf_h_13 ?_
      refine sj_iload_n C 166 rfl dX7_readsStroke_165 rfl rfl ?_
      refine sj_iconstv C (1) 167 rfl dX7_readsStroke_166 rfl ?_
      refine sj_iadd C 168 rfl dX7_readsStroke_167 ?_
      rw [show nI (5 * k) + 1 = nI (5 * k + 1) from nI_add _ 1]
      refine sj_iload C 170 rfl dX7_readsStroke_168 rfl ?_
      refine sj_iast C 171 rfl dX7_readsStroke_170 kd_a13 (by show vp_in (nI (5 * k + 1)) (sj_il S (b 13)); rw [il_a13]; exact vp_in_nI (by omega) (by omega)) ?_
      refine sj_aload_n C 172 rfl dX7_readsStroke_171 rfl rfl ?_
      refine sj_getr C 175 rfl fd_X7_25 dX7_readsStroke_172 kd_h rf_h_13 ?_
      refine sj_iload_n C 176 rfl dX7_readsStroke_175 rfl rfl ?_
      refine sj_iconstv C (2) 177 rfl dX7_readsStroke_176 rfl ?_
      refine sj_iadd C 178 rfl dX7_readsStroke_177 ?_
      rw [show nI (5 * k) + 2 = nI (5 * k + 2) from nI_add _ 2]
      refine sj_iload C 180 rfl dX7_readsStroke_178 rfl ?_
      refine sj_if_eq C 187 183 rfl rfl dX7_readsStroke_180 (fun c_180 => ?_) (fun c_180 => ?_)
      · refine sj_iconstv C (0) 188 rfl dX7_readsStroke_187 rfl ?_
        refine sj_iast C 189 rfl dX7_readsStroke_188 kd_a13 (by show vp_in (nI (5 * k + 2)) (sj_il S (b 13)); rw [il_a13]; exact vp_in_nI (by omega) (by omega)) ?_
        refine sj_aload_n C 190 rfl dX7_readsStroke_189 rfl rfl ?_
        refine sj_getr C 193 rfl fd_X7_25 dX7_readsStroke_190 kd_h rf_h_13 ?_
        refine sj_iload_n C 194 rfl dX7_readsStroke_193 rfl rfl ?_
        refine sj_iconstv C (3) 195 rfl dX7_readsStroke_194 rfl ?_
        refine sj_iadd C 196 rfl dX7_readsStroke_195 ?_
        rw [show nI (5 * k) + 3 = nI (5 * k + 3) from nI_add _ 3]
        refine sj_iload C 198 rfl dX7_readsStroke_196 rfl ?_
        refine sj_iast C 199 rfl dX7_readsStroke_198 kd_a13 (by show vp_in (nI (5 * k + 3)) (sj_il S (b 13)); rw [il_a13]; exact vp_in_nI (by omega) (by omega)) ?_
        refine sj_aload_n C 200 rfl dX7_readsStroke_199 rfl rfl ?_
        refine sj_getr C 203 rfl fd_X7_25 dX7_readsStroke_200 kd_h rf_h_13 ?_
        refine sj_iload_n C 204 rfl dX7_readsStroke_203 rfl rfl ?_
        refine sj_iconstv C (4) 205 rfl dX7_readsStroke_204 rfl ?_
        refine sj_iadd C 206 rfl dX7_readsStroke_205 ?_
        rw [show nI (5 * k) + 4 = nI (5 * k + 4) from nI_add _ 4]
        refine sj_iload C 208 rfl dX7_readsStroke_206 rfl ?_
        refine sj_iast C 209 rfl dX7_readsStroke_208 kd_a13 (by show vp_in (nI (5 * k + 4)) (sj_il S (b 13)); rw [il_a13]; exact vp_in_nI (by omega) (by omega)) ?_
        refine sj_aload_n C 210 rfl dX7_readsStroke_209 rfl rfl ?_
        refine sj_dup C 211 rfl dX7_readsStroke_210 rfl ?_
        refine sj_getI C 214 rfl fd_X7_136 dX7_readsStroke_211 kd_h ?_
        refine sj_iconstv C (1) 215 rfl dX7_readsStroke_214 rfl ?_
        refine sj_iadd C 216 rfl dX7_readsStroke_215 ?_
        rw [efi14 q, nI_1]
        rotate_left
        · rfl
        refine sj_putI C 219 rfl fd_X7_136 dX7_readsStroke_216 rfl rfl kd_h ?_
        refine sj_iload C 221 rfl dX7_readsStroke_219 rfl ?_
        refine sj_iconstv C (-1) 222 rfl dX7_readsStroke_221 rfl ?_
        refine sj_icmp_eq C 235 225 rfl rfl dX7_readsStroke_222 (fun c_222 => ?_) (fun c_222 => ?_)
        · refine sj_iconstv C (0) 236 rfl dX7_readsStroke_235 rfl ?_
          refine sj_zret C hR rfl rfl rfl dX7_readsStroke_236 ?_
          rw [hres, decide_eq_false (p := ¬ pr = -1) (fun h8 => h8 c_222)]
          refine ⟨rfl, ?_⟩
          rw [sj_bin.mp c_151, sj_bi0.mp c_180]
          show _ = sj_wFi (sj_sIa (sj_wFi S h 9 (nI (q))) (b 13) (sj_wst (sj_ia S (b 13)) k _)) h 14 (nI (k + 1))
          simp only [nI_clamp (show 5 * k < 2 ^ 31 by omega), nI_clamp (show 5 * k + 1 < 2 ^ 31 by omega), nI_clamp (show 5 * k + 2 < 2 ^ 31 by omega), nI_clamp (show 5 * k + 3 < 2 ^ 31 by omega), nI_clamp (show 5 * k + 4 < 2 ^ 31 by omega), sj_wIa_eq, sj_sIa_sIa, sj_ia_sIa]
          rfl
        · refine sj_iload C 227 rfl dX7_readsStroke_225 rfl ?_
          refine sj_iconstv C (-1) 228 rfl dX7_readsStroke_227 rfl ?_
          refine sj_icmp_eq C 235 231 rfl rfl dX7_readsStroke_228 (fun c_228 => ?_) (fun c_228 => ?_)
          · refine sj_iconstv C (0) 236 rfl dX7_readsStroke_235 rfl ?_
            refine sj_zret C hR rfl rfl rfl dX7_readsStroke_236 ?_
            rw [hres, decide_eq_true (p := ¬ pr = -1) c_222, decide_eq_false (p := ¬ tr = -1) (fun h8 => h8 c_228)]
            refine ⟨rfl, ?_⟩
            rw [sj_bin.mp c_151, sj_bi0.mp c_180]
            show _ = sj_wFi (sj_sIa (sj_wFi S h 9 (nI (q))) (b 13) (sj_wst (sj_ia S (b 13)) k _)) h 14 (nI (k + 1))
            simp only [nI_clamp (show 5 * k < 2 ^ 31 by omega), nI_clamp (show 5 * k + 1 < 2 ^ 31 by omega), nI_clamp (show 5 * k + 2 < 2 ^ 31 by omega), nI_clamp (show 5 * k + 3 < 2 ^ 31 by omega), nI_clamp (show 5 * k + 4 < 2 ^ 31 by omega), sj_wIa_eq, sj_sIa_sIa, sj_ia_sIa]
            rfl
          · refine sj_iconstv C (1) 232 rfl dX7_readsStroke_231 rfl ?_
            refine sj_goto C 236 rfl dX7_readsStroke_232 ?_
            refine sj_zret C hR rfl rfl rfl dX7_readsStroke_236 ?_
            rw [hres, decide_eq_true (p := ¬ pr = -1) c_222, decide_eq_true (p := ¬ tr = -1) c_228]
            refine ⟨rfl, ?_⟩
            rw [sj_bin.mp c_151, sj_bi0.mp c_180]
            show _ = sj_wFi (sj_sIa (sj_wFi S h 9 (nI (q))) (b 13) (sj_wst (sj_ia S (b 13)) k _)) h 14 (nI (k + 1))
            simp only [nI_clamp (show 5 * k < 2 ^ 31 by omega), nI_clamp (show 5 * k + 1 < 2 ^ 31 by omega), nI_clamp (show 5 * k + 2 < 2 ^ 31 by omega), nI_clamp (show 5 * k + 3 < 2 ^ 31 by omega), nI_clamp (show 5 * k + 4 < 2 ^ 31 by omega), sj_wIa_eq, sj_sIa_sIa, sj_ia_sIa]
            rfl
      · refine sj_iconstv C (1) 184 rfl dX7_readsStroke_183 rfl ?_
        refine sj_goto C 188 rfl dX7_readsStroke_184 ?_
        refine sj_iast C 189 rfl dX7_readsStroke_188 kd_a13 (by show vp_in (nI (5 * k + 2)) (sj_il S (b 13)); rw [il_a13]; exact vp_in_nI (by omega) (by omega)) ?_
        refine sj_aload_n C 190 rfl dX7_readsStroke_189 rfl rfl ?_
        refine sj_getr C 193 rfl fd_X7_25 dX7_readsStroke_190 kd_h rf_h_13 ?_
        refine sj_iload_n C 194 rfl dX7_readsStroke_193 rfl rfl ?_
        refine sj_iconstv C (3) 195 rfl dX7_readsStroke_194 rfl ?_
        refine sj_iadd C 196 rfl dX7_readsStroke_195 ?_
        rw [show nI (5 * k) + 3 = nI (5 * k + 3) from nI_add _ 3]
        refine sj_iload C 198 rfl dX7_readsStroke_196 rfl ?_
        refine sj_iast C 199 rfl dX7_readsStroke_198 kd_a13 (by show vp_in (nI (5 * k + 3)) (sj_il S (b 13)); rw [il_a13]; exact vp_in_nI (by omega) (by omega)) ?_
        refine sj_aload_n C 200 rfl dX7_readsStroke_199 rfl rfl ?_
        refine sj_getr C 203 rfl fd_X7_25 dX7_readsStroke_200 kd_h rf_h_13 ?_
        refine sj_iload_n C 204 rfl dX7_readsStroke_203 rfl rfl ?_
        refine sj_iconstv C (4) 205 rfl dX7_readsStroke_204 rfl ?_
        refine sj_iadd C 206 rfl dX7_readsStroke_205 ?_
        rw [show nI (5 * k) + 4 = nI (5 * k + 4) from nI_add _ 4]
        refine sj_iload C 208 rfl dX7_readsStroke_206 rfl ?_
        refine sj_iast C 209 rfl dX7_readsStroke_208 kd_a13 (by show vp_in (nI (5 * k + 4)) (sj_il S (b 13)); rw [il_a13]; exact vp_in_nI (by omega) (by omega)) ?_
        refine sj_aload_n C 210 rfl dX7_readsStroke_209 rfl rfl ?_
        refine sj_dup C 211 rfl dX7_readsStroke_210 rfl ?_
        refine sj_getI C 214 rfl fd_X7_136 dX7_readsStroke_211 kd_h ?_
        refine sj_iconstv C (1) 215 rfl dX7_readsStroke_214 rfl ?_
        refine sj_iadd C 216 rfl dX7_readsStroke_215 ?_
        rw [efi14 q, nI_1]
        rotate_left
        · rfl
        refine sj_putI C 219 rfl fd_X7_136 dX7_readsStroke_216 rfl rfl kd_h ?_
        refine sj_iload C 221 rfl dX7_readsStroke_219 rfl ?_
        refine sj_iconstv C (-1) 222 rfl dX7_readsStroke_221 rfl ?_
        refine sj_icmp_eq C 235 225 rfl rfl dX7_readsStroke_222 (fun c_222 => ?_) (fun c_222 => ?_)
        · refine sj_iconstv C (0) 236 rfl dX7_readsStroke_235 rfl ?_
          refine sj_zret C hR rfl rfl rfl dX7_readsStroke_236 ?_
          rw [hres, decide_eq_false (p := ¬ pr = -1) (fun h8 => h8 c_222)]
          refine ⟨rfl, ?_⟩
          rw [sj_bin.mp c_151, sj_bin.mp c_180]
          show _ = sj_wFi (sj_sIa (sj_wFi S h 9 (nI (q))) (b 13) (sj_wst (sj_ia S (b 13)) k _)) h 14 (nI (k + 1))
          simp only [nI_clamp (show 5 * k < 2 ^ 31 by omega), nI_clamp (show 5 * k + 1 < 2 ^ 31 by omega), nI_clamp (show 5 * k + 2 < 2 ^ 31 by omega), nI_clamp (show 5 * k + 3 < 2 ^ 31 by omega), nI_clamp (show 5 * k + 4 < 2 ^ 31 by omega), sj_wIa_eq, sj_sIa_sIa, sj_ia_sIa]
          rfl
        · refine sj_iload C 227 rfl dX7_readsStroke_225 rfl ?_
          refine sj_iconstv C (-1) 228 rfl dX7_readsStroke_227 rfl ?_
          refine sj_icmp_eq C 235 231 rfl rfl dX7_readsStroke_228 (fun c_228 => ?_) (fun c_228 => ?_)
          · refine sj_iconstv C (0) 236 rfl dX7_readsStroke_235 rfl ?_
            refine sj_zret C hR rfl rfl rfl dX7_readsStroke_236 ?_
            rw [hres, decide_eq_true (p := ¬ pr = -1) c_222, decide_eq_false (p := ¬ tr = -1) (fun h8 => h8 c_228)]
            refine ⟨rfl, ?_⟩
            rw [sj_bin.mp c_151, sj_bin.mp c_180]
            show _ = sj_wFi (sj_sIa (sj_wFi S h 9 (nI (q))) (b 13) (sj_wst (sj_ia S (b 13)) k _)) h 14 (nI (k + 1))
            simp only [nI_clamp (show 5 * k < 2 ^ 31 by omega), nI_clamp (show 5 * k + 1 < 2 ^ 31 by omega), nI_clamp (show 5 * k + 2 < 2 ^ 31 by omega), nI_clamp (show 5 * k + 3 < 2 ^ 31 by omega), nI_clamp (show 5 * k + 4 < 2 ^ 31 by omega), sj_wIa_eq, sj_sIa_sIa, sj_ia_sIa]
            rfl
          · refine sj_iconstv C (1) 232 rfl dX7_readsStroke_231 rfl ?_
            refine sj_goto C 236 rfl dX7_readsStroke_232 ?_
            refine sj_zret C hR rfl rfl rfl dX7_readsStroke_236 ?_
            rw [hres, decide_eq_true (p := ¬ pr = -1) c_222, decide_eq_true (p := ¬ tr = -1) c_228]
            refine ⟨rfl, ?_⟩
            rw [sj_bin.mp c_151, sj_bin.mp c_180]
            show _ = sj_wFi (sj_sIa (sj_wFi S h 9 (nI (q))) (b 13) (sj_wst (sj_ia S (b 13)) k _)) h 14 (nI (k + 1))
            simp only [nI_clamp (show 5 * k < 2 ^ 31 by omega), nI_clamp (show 5 * k + 1 < 2 ^ 31 by omega), nI_clamp (show 5 * k + 2 < 2 ^ 31 by omega), nI_clamp (show 5 * k + 3 < 2 ^ 31 by omega), nI_clamp (show 5 * k + 4 < 2 ^ 31 by omega), sj_wIa_eq, sj_sIa_sIa, sj_ia_sIa]
            rfl
  have cut_94 : ∀ (lo lp : Bool) (sl hg : Int32) (q : Nat), q ≤ n → sj_rst (sj_ia S (b 7)) n p = sj_u3 (sj_ia S (b 7)) n (if lo then -sl else sl) hg (sj_bi lp) q → ∀ o6 o7 o8, sj_G X (sj_wFi S h 9 (nI (q))) 0 0 [some (.ref h), some (.int (nI (5 * k))), some (.int (sj_bi lo)), some (.int (sl)), some (.int (hg)), some (.int (sj_bi lp)), o6, o7, o8] 94 [] := by
    intro lo lp sl hg q hq hres o6 o7 o8
    refine sj_aload_n C 95 rfl dX7_readsStroke_94 rfl rfl ?_
    refine sj_iconstv C (1) 96 rfl dX7_readsStroke_95 rfl ?_
    refine sj_bipush C (9) 98 rfl dX7_readsStroke_96 (by decide) ?_
    refine sj_callVd C 101 rfl dX7_readsStroke_98 cv_X7_170 rfl (ct_X7_readNumber _ (sj_mm_f hm h 9 _) (sj_ps_f hps hq) 1 9 (by decide)) rfl rfl rfl ⟨_, _, kd_h, rfl, rfl, by decide⟩ ⟨rfl, rfl⟩ ?_
    rw [sj_wFi_wFi]
    refine sj_istore_6 C 103 rfl dX7_readsStroke_101 rfl rfl ?_
    refine sj_iload C 105 rfl dX7_readsStroke_103 rfl ?_
    refine sj_iconstv C (-1) 106 rfl dX7_readsStroke_105 rfl ?_
    refine sj_icmp_eq C 122 109 rfl rfl dX7_readsStroke_106 (fun c_106 => ?_) (fun c_106 => ?_)
    · refine sj_iconstv C (0) 123 rfl dX7_readsStroke_122 rfl ?_
      refine sj_istore_7 C 125 rfl dX7_readsStroke_123 rfl rfl ?_
      refine sj_iload C 127 rfl dX7_readsStroke_125 rfl ?_
      refine sj_if_eq C 140 130 rfl rfl dX7_readsStroke_127 (fun c_127 => ?_) (fun c_127 => ?_)
      · skip
        refine sj_iconstv C (0) 141 rfl dX7_readsStroke_140 rfl ?_
        refine sj_istore_8 C 143 rfl dX7_readsStroke_141 rfl rfl ?_
        refine cut_143 lo lp sl hg _ _ _ _ ?_
        rw [hres]
        unfold sj_u3
        rw [if_pos c_106, c_106]
        rfl
      · exact absurd rfl c_127
    · have hle9 : (sj_rdn (sj_ia S (b 7)) n 1 9 q).2 ≤ n := sj_rdn_le (by decide) hq
      refine sj_aload_n C 110 rfl dX7_readsStroke_109 rfl rfl ?_
      refine sj_bipush C (126) 112 rfl dX7_readsStroke_110 (by decide) ?_
      refine sj_callVd C 115 rfl dX7_readsStroke_112 cv_X7_167 rfl (ct_X7_takes _ (sj_mm_f hm h 9 _) (sj_ps_f hps hle9) 126) rfl rfl rfl ⟨_, _, kd_h, rfl, rfl, by decide⟩ ⟨rfl, rfl⟩ ?_
      rw [sj_wFi_wFi]
      refine sj_if_eq C 122 118 rfl rfl dX7_readsStroke_115 (fun c_115 => ?_) (fun c_115 => ?_)
      · refine sj_iconstv C (0) 123 rfl dX7_readsStroke_122 rfl ?_
        refine sj_istore_7 C 125 rfl dX7_readsStroke_123 rfl rfl ?_
        refine sj_iload C 127 rfl dX7_readsStroke_125 rfl ?_
        refine sj_if_eq C 140 130 rfl rfl dX7_readsStroke_127 (fun c_127 => ?_) (fun c_127 => ?_)
        · skip
          refine sj_iconstv C (0) 141 rfl dX7_readsStroke_140 rfl ?_
          refine sj_istore_8 C 143 rfl dX7_readsStroke_141 rfl rfl ?_
          refine cut_143 lo lp sl hg _ _ _ _ ?_
          rw [hres]
          unfold sj_u3
          rw [if_neg c_106, if_neg (fun h8 => by rw [decide_eq_true h8] at c_115; exact absurd c_115 (by decide)), decide_eq_true c_106]
          rfl
        · exact absurd rfl c_127
      · refine sj_iconstv C (1) 119 rfl dX7_readsStroke_118 rfl ?_
        refine sj_goto C 123 rfl dX7_readsStroke_119 ?_
        refine sj_istore_7 C 125 rfl dX7_readsStroke_123 rfl rfl ?_
        refine sj_iload C 127 rfl dX7_readsStroke_125 rfl ?_
        refine sj_if_eq C 140 130 rfl rfl dX7_readsStroke_127 (fun c_127 => ?_) (fun c_127 => ?_)
        · exact absurd c_127 (by decide)
        · have hle126 : sj_tk (sj_ia S (b 7)) n 126 (sj_rdn (sj_ia S (b 7)) n 1 9 q).2 ≤ n := sj_tk_le (by decide) hle9
          refine sj_aload_n C 131 rfl dX7_readsStroke_130 rfl rfl ?_
          refine sj_iconstv C (1) 132 rfl dX7_readsStroke_131 rfl ?_
          refine sj_bipush C (9) 134 rfl dX7_readsStroke_132 (by decide) ?_
          refine sj_callVd C 137 rfl dX7_readsStroke_134 cv_X7_170 rfl (ct_X7_readNumber _ (sj_mm_f hm h 9 _) (sj_ps_f hps hle126) 1 9 (by decide)) rfl rfl rfl ⟨_, _, kd_h, rfl, rfl, by decide⟩ ⟨rfl, rfl⟩ ?_
          rw [sj_wFi_wFi]
          refine sj_goto C 141 rfl dX7_readsStroke_137 ?_
          refine sj_istore_8 C 143 rfl dX7_readsStroke_141 rfl rfl ?_
          refine cut_143 lo lp sl hg _ _ _ _ ?_
          rw [hres]
          unfold sj_u3
          rw [if_neg c_106, if_pos (of_decide_eq_true (sj_bin.mp c_115)), decide_eq_true c_106]
          rfl
  have cut_77 : ∀ (lo lp : Bool) (sl hg v5 : Int32) (q : Nat), v5 = sj_bi lp → q ≤ n → ¬ hg = -1 → sj_rst (sj_ia S (b 7)) n p = sj_u2b (sj_ia S (b 7)) n (if lo then -sl else sl) hg (sj_bi lp) q → ∀ o6 o7 o8, sj_G X (sj_wFi S h 9 (nI (q))) 0 0 [some (.ref h), some (.int (nI (5 * k))), some (.int (sj_bi lo)), some (.int (sl)), some (.int (hg)), some (.int (v5)), o6, o7, o8] 77 [] := by
    intro lo lp sl hg v5 q hv5 hq hhg hres o6 o7 o8
    subst hv5
    refine sj_iload C 79 rfl dX7_readsStroke_77 rfl ?_
    refine sj_iconstv C (-1) 80 rfl dX7_readsStroke_79 rfl ?_
    refine sj_icmp_eq C 92 83 rfl rfl dX7_readsStroke_80 (fun c_80 => ?_) (fun c_80 => ?_)
    · exact absurd c_80 hhg
    · skip
      refine sj_aload_n C 84 rfl dX7_readsStroke_83 rfl rfl ?_
      refine sj_bipush C (112) 86 rfl dX7_readsStroke_84 (by decide) ?_
      refine sj_callVd C 89 rfl dX7_readsStroke_86 cv_X7_167 rfl (ct_X7_takes _ (sj_mm_f hm h 9 _) (sj_ps_f hps hq) 112) rfl rfl rfl ⟨_, _, kd_h, rfl, rfl, by decide⟩ ⟨rfl, rfl⟩ ?_
      rw [sj_wFi_wFi]
      refine sj_if_ne C 94 92 rfl rfl dX7_readsStroke_89 (fun c_89 => ?_) (fun c_89 => ?_)
      · exact cut_94 lo lp sl hg _ (sj_tk_le (by decide) hq) (hres.trans (if_pos (of_decide_eq_true (sj_bin.mp c_89)))) _ _ _
      · skip
        refine sj_iconstv C (0) 93 rfl dX7_readsStroke_92 rfl ?_
        refine sj_zret C hR rfl rfl rfl dX7_readsStroke_93 ?_
        rw [hres]
        unfold sj_u2b
        rw [if_neg (of_decide_eq_false (sj_bi0.mp c_89))]
        exact ⟨rfl, rfl⟩
  have cut_46 : ∀ (lo : Bool) (sl : Int32) (q : Nat), q ≤ n → sj_rst (sj_ia S (b 7)) n p = sj_u2 (sj_ia S (b 7)) n (if lo then -sl else sl) q → ∀ o4 o5 o6 o7 o8, sj_G X (sj_wFi S h 9 (nI (q))) 0 0 [some (.ref h), some (.int (nI (5 * k))), some (.int (sj_bi lo)), some (.int (sl)), o4, o5, o6, o7, o8] 46 [] := by
    intro lo sl q hq hres o4 o5 o6 o7 o8
    refine sj_aload_n C 47 rfl dX7_readsStroke_46 rfl rfl ?_
    refine sj_iconstv C (1) 48 rfl dX7_readsStroke_47 rfl ?_
    refine sj_bipush C (60) 50 rfl dX7_readsStroke_48 (by decide) ?_
    refine sj_callVd C 53 rfl dX7_readsStroke_50 cv_X7_170 rfl (ct_X7_readNumber _ (sj_mm_f hm h 9 _) (sj_ps_f hps hq) 1 60 (by decide)) rfl rfl rfl ⟨_, _, kd_h, rfl, rfl, by decide⟩ ⟨rfl, rfl⟩ ?_
    rw [sj_wFi_wFi]
    refine sj_istore_4 C 55 rfl dX7_readsStroke_53 rfl rfl ?_
    refine sj_iload C 57 rfl dX7_readsStroke_55 rfl ?_
    refine sj_iconstv C (-1) 58 rfl dX7_readsStroke_57 rfl ?_
    refine sj_icmp_eq C 74 61 rfl rfl dX7_readsStroke_58 (fun c_58 => ?_) (fun c_58 => ?_)
    · refine sj_iconstv C (0) 75 rfl dX7_readsStroke_74 rfl ?_
      refine sj_istore_5 C 77 rfl dX7_readsStroke_75 rfl rfl ?_
      refine sj_iload C 79 rfl dX7_readsStroke_77 rfl ?_
      refine sj_iconstv C (-1) 80 rfl dX7_readsStroke_79 rfl ?_
      refine sj_icmp_eq C 92 83 rfl rfl dX7_readsStroke_80 (fun c_80 => ?_) (fun c_80 => ?_)
      · skip
        refine sj_iconstv C (0) 93 rfl dX7_readsStroke_92 rfl ?_
        refine sj_zret C hR rfl rfl rfl dX7_readsStroke_93 ?_
        rw [hres]
        unfold sj_u2
        rw [if_pos c_58]
        exact ⟨rfl, rfl⟩
      · exact absurd c_58 c_80
    · refine sj_aload_n C 62 rfl dX7_readsStroke_61 rfl rfl ?_
      refine sj_bipush C (111) 64 rfl dX7_readsStroke_62 (by decide) ?_
      refine sj_callVd C 67 rfl dX7_readsStroke_64 cv_X7_167 rfl (ct_X7_takes _ (sj_mm_f hm h 9 _) (sj_ps_f hps (sj_rdn_le (by decide) hq)) 111) rfl rfl rfl ⟨_, _, kd_h, rfl, rfl, by decide⟩ ⟨rfl, rfl⟩ ?_
      rw [sj_wFi_wFi]
      refine sj_if_eq C 74 70 rfl rfl dX7_readsStroke_67 (fun c_67 => ?_) (fun c_67 => ?_)
      · refine sj_iconstv C (0) 75 rfl dX7_readsStroke_74 rfl ?_
        refine sj_istore_5 C 77 rfl dX7_readsStroke_75 rfl rfl ?_
        exact cut_77 lo (decide (sj_nx (sj_ia S (b 7)) n (sj_rdn (sj_ia S (b 7)) n 1 60 q).2 = 111)) sl _ _ _ c_67.symm (sj_tk_le (by decide) (sj_rdn_le (by decide) hq)) c_58 (hres.trans (if_neg c_58)) _ _ _
      · refine sj_iconstv C (1) 71 rfl dX7_readsStroke_70 rfl ?_
        refine sj_goto C 75 rfl dX7_readsStroke_71 ?_
        refine sj_istore_5 C 77 rfl dX7_readsStroke_75 rfl rfl ?_
        exact cut_77 lo (decide (sj_nx (sj_ia S (b 7)) n (sj_rdn (sj_ia S (b 7)) n 1 60 q).2 = 111)) sl _ _ _ (by rw [sj_bin.mp c_67]; rfl) (sj_tk_le (by decide) (sj_rdn_le (by decide) hq)) c_58 (hres.trans (if_neg c_58)) _ _ _
  have cut_24 : ∀ (lo : Bool) (v : Int32) (q : Nat), q ≤ n → v = sj_bi lo → sj_rst (sj_ia S (b 7)) n p = sj_u1 (sj_ia S (b 7)) n lo q → ∀ o3 o4 o5 o6 o7 o8, sj_G X (sj_wFi S h 9 (nI (q))) 0 0 [some (.ref h), some (.int (nI (5 * k))), some (.int (sj_bi lo)), o3, o4, o5, o6, o7, o8] 24 [.int v, .ref h] := by
    intro lo v q hq hv hres o3 o4 o5 o6 o7 o8
    subst hv
    refine sj_bipush C (45) 26 rfl dX7_readsStroke_24 (by decide) ?_
    refine sj_callVd C 29 rfl dX7_readsStroke_26 cv_X7_170 rfl (ct_X7_readNumber _ (sj_mm_f hm h 9 _) (sj_ps_f hps hq) (sj_bi lo) 45 (sj_bi_le lo)) rfl rfl rfl ⟨_, _, kd_h, rfl, rfl, by decide⟩ ⟨rfl, rfl⟩ ?_
    rw [sj_wFi_wFi]
    refine sj_istore_n_3 C 30 rfl dX7_readsStroke_29 rfl rfl ?_
    refine sj_iload_n C 31 rfl dX7_readsStroke_30 rfl rfl ?_
    refine sj_iconstv C (-1) 32 rfl dX7_readsStroke_31 rfl ?_
    refine sj_icmp_eq C 44 35 rfl rfl dX7_readsStroke_32 (fun c_32 => ?_) (fun c_32 => ?_)
    · refine sj_iconstv C (0) 45 rfl dX7_readsStroke_44 rfl ?_
      refine sj_zret C hR rfl rfl rfl dX7_readsStroke_45 ?_
      rw [hres]
      unfold sj_u1
      rw [if_pos c_32]
      exact ⟨rfl, rfl⟩
    · refine sj_aload_n C 36 rfl dX7_readsStroke_35 rfl rfl ?_
      refine sj_bipush C (58) 38 rfl dX7_readsStroke_36 (by decide) ?_
      refine sj_callVd C 41 rfl dX7_readsStroke_38 cv_X7_167 rfl (ct_X7_takes _ (sj_mm_f hm h 9 _) (sj_ps_f hps (sj_rdn_le (sj_bi_le lo) hq)) 58) rfl rfl rfl ⟨_, _, kd_h, rfl, rfl, by decide⟩ ⟨rfl, rfl⟩ ?_
      rw [sj_wFi_wFi]
      refine sj_if_ne C 46 44 rfl rfl dX7_readsStroke_41 (fun c_41 => ?_) (fun c_41 => ?_)
      · exact cut_46 lo _ _ (sj_tk_le (by decide) (sj_rdn_le (sj_bi_le lo) hq)) (hres.trans ((if_neg c_32).trans (if_pos (of_decide_eq_true (sj_bin.mp c_41))))) _ _ _ _ _
      · refine sj_iconstv C (0) 45 rfl dX7_readsStroke_44 rfl ?_
        refine sj_zret C hR rfl rfl rfl dX7_readsStroke_45 ?_
        rw [hres]
        unfold sj_u1
        rw [if_neg c_32, if_neg (of_decide_eq_false (sj_bi0.mp c_41))]
        exact ⟨rfl, rfl⟩
  refine sj_iconstv C (5) 1 rfl dX7_readsStroke_0 rfl ?_
  refine sj_aload_n C 2 rfl dX7_readsStroke_1 rfl rfl ?_
  refine sj_getI C 5 rfl fd_X7_136 dX7_readsStroke_2 kd_h ?_
  refine sj_imul C 6 rfl dX7_readsStroke_5 ?_
  rw [hk14, show (5 : Int32) * nI k = nI (5 * k) from sj_nmul 5 k]
  refine sj_istore_n_1 C 7 rfl dX7_readsStroke_6 rfl rfl ?_
  refine sj_aload_n C 8 rfl dX7_readsStroke_7 rfl rfl ?_
  refine sj_bipush C (45) 10 rfl dX7_readsStroke_8 (by decide) ?_
  refine sj_callVd C 13 rfl dX7_readsStroke_10 cv_X7_167 rfl (ct_X7_takes _ hm hps 45) rfl rfl rfl ⟨_, _, kd_h, rfl, rfl, by decide⟩ ⟨rfl, rfl⟩ ?_
  refine sj_istore_n_2 C 14 rfl dX7_readsStroke_13 rfl rfl ?_
  refine sj_aload_n C 15 rfl dX7_readsStroke_14 rfl rfl ?_
  refine sj_iload_n C 16 rfl dX7_readsStroke_15 rfl rfl ?_
  refine sj_if_eq C 23 19 rfl rfl dX7_readsStroke_16 (fun c_16 => ?_) (fun c_16 => ?_)
  · refine sj_iconstv C (0) 24 rfl dX7_readsStroke_23 rfl ?_
    exact cut_24 _ 0 _ (sj_tk_le (by decide) hpn) c_16.symm rfl _ _ _ _ _ _
  · refine sj_iconstv C (1) 20 rfl dX7_readsStroke_19 rfl ?_
    refine sj_goto C 24 rfl dX7_readsStroke_20 ?_
    exact cut_24 _ 1 _ (sj_tk_le (by decide) hpn) (by rw [sj_bin.mp c_16]; rfl) rfl _ _ _ _ _ _
