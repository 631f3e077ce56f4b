/-! THE CLASS: what its text reads -/
theorem sq_nx_m1 {B : Nat → Int32} {n : Nat} {s : sq_Q} (h : ¬ sq_nx B n s = -1) : s.1 < n ∧ s.2 = false := by
  unfold sq_nx at h
  cases hb : s.2
  · rw [hb, if_neg Bool.false_ne_true] at h
    by_cases hn : s.1 < n
    · exact ⟨hn, rfl⟩
    · rw [if_neg hn] at h
      exact absurd rfl h
  · rw [hb, if_pos rfl] at h
    exact absurd rfl h
theorem sq_t_y {B : Nat → Int32} {n : Nat} {c : Int32} {s : sq_Q} (hc : ¬ c = -1) (h : sq_t B n c s = true) : s.1 < n ∧ s.2 = false := sq_nx_m1 (by rw [of_decide_eq_true h]; exact hc)
theorem sq_S_le {B : Nat → Int32} {n : Nat} {c : Int32} {s : sq_Q} (hc : ¬ c = -1) (hs : s.1 ≤ n) : (sq_S B n c s).1 ≤ n := by
  unfold sq_S
  by_cases h : sq_t B n c s = true
  · rw [if_pos h]
    exact (sq_t_y hc h).1
  · rw [if_neg h]
    exact hs
theorem sq_N_le {B : Nat → Int32} {n : Nat} {c : Int32} {s : sq_Q} (hc : ¬ c = -1) (hs : s.1 ≤ n) : (sq_N B n c s).1 ≤ n := by
  unfold sq_N
  by_cases h : sq_t B n c s = true
  · rw [if_pos h]
    exact (sq_t_y hc h).1
  · rw [if_neg h]
    exact hs
theorem sq_d_lt {B : Nat → Int32} {n : Nat} {s : sq_Q} (h : ¬ sq_d B n s = -1) : s.1 < n := Nat.not_le.mp fun h8 => h (sq_d_end h8)
theorem sq_R_le {B : Nat → Int32} {n : Nat} {a z : Int32} {s : sq_Q} (ha : 0 ≤ a) (hs : s.1 ≤ n) : (sq_R B n a z s).1 ≤ n := by
  unfold sq_R
  by_cases hb : sq_d B n s < a ∨ z < sq_d B n s
  · rw [if_pos hb]
    exact hs
  · rw [if_neg hb]
    have h1 : s.1 < n := sq_d_lt (fun e => hb (Or.inl (by rw [e]; exact Int32.lt_of_lt_of_le (by decide) ha)))
    by_cases hc : sq_d B n s = 0 ∨ sq_d B n (s.1 + 1, s.2) = -1 ∨ z < sq_d B n s * 10 + sq_d B n (s.1 + 1, s.2)
    · rw [if_pos hc]
      exact h1
    · rw [if_neg hc]
      exact sq_d_lt (B := B) (n := n) (s := (s.1 + 1, s.2)) (fun e => hc (Or.inr (Or.inl e)))
section
variable (B : Nat → Int32) (n : Nat) (s : sq_Q)
def sq_u1 : sq_Q := sq_S B n 45 s
def sq_u2 : sq_Q := sq_R B n (sj_bi (sq_t B n 45 s)) 45 (sq_u1 B n s)
def sq_u3 : sq_Q := sq_N B n 58 (sq_u2 B n s)
def sq_u4 : sq_Q := sq_R B n 1 60 (sq_u3 B n s)
def sq_u5 : sq_Q := sq_S B n 111 (sq_u4 B n s)
def sq_u6 : sq_Q := sq_N B n 112 (sq_u5 B n s)
def sq_u7 : sq_Q := sq_R B n 1 9 (sq_u6 B n s)
def sq_u8 : sq_Q := sq_S B n 126 (sq_u7 B n s)
def sq_u9 : sq_Q := if sq_t B n 126 (sq_u7 B n s) then sq_R B n 1 9 (sq_u8 B n s) else sq_u8 B n s
def sq_w1 : Int32 := sq_V B n (sj_bi (sq_t B n 45 s)) 45 (sq_u1 B n s)
def sq_w5 : sj_W5 := (if sq_t B n 45 s then -sq_w1 B n s else sq_w1 B n s, sq_V B n 1 60 (sq_u3 B n s), sj_bi (sq_t B n 111 (sq_u4 B n s)), sq_V B n 1 9 (sq_u6 B n s), if sq_t B n 126 (sq_u7 B n s) then sq_V B n 1 9 (sq_u8 B n s) else 0)
end
theorem sj_bi_01 (b : Bool) : 0 ≤ sj_bi b := by cases b <;> decide
theorem sq_l1 {B : Nat → Int32} {n : Nat} {s : sq_Q} (hs : s.1 ≤ n) : (sq_u1 B n s).1 ≤ n := sq_S_le (by decide) hs
theorem sq_l2 {B : Nat → Int32} {n : Nat} {s : sq_Q} (hs : s.1 ≤ n) : (sq_u2 B n s).1 ≤ n := sq_R_le (sj_bi_01 _) (sq_l1 hs)
theorem sq_l3 {B : Nat → Int32} {n : Nat} {s : sq_Q} (hs : s.1 ≤ n) : (sq_u3 B n s).1 ≤ n := sq_N_le (by decide) (sq_l2 hs)
theorem sq_l4 {B : Nat → Int32} {n : Nat} {s : sq_Q} (hs : s.1 ≤ n) : (sq_u4 B n s).1 ≤ n := sq_R_le (by decide) (sq_l3 hs)
theorem sq_l5 {B : Nat → Int32} {n : Nat} {s : sq_Q} (hs : s.1 ≤ n) : (sq_u5 B n s).1 ≤ n := sq_S_le (by decide) (sq_l4 hs)
theorem sq_l6 {B : Nat → Int32} {n : Nat} {s : sq_Q} (hs : s.1 ≤ n) : (sq_u6 B n s).1 ≤ n := sq_N_le (by decide) (sq_l5 hs)
theorem sq_l7 {B : Nat → Int32} {n : Nat} {s : sq_Q} (hs : s.1 ≤ n) : (sq_u7 B n s).1 ≤ n := sq_R_le (by decide) (sq_l6 hs)
theorem sq_l8 {B : Nat → Int32} {n : Nat} {s : sq_Q} (hs : s.1 ≤ n) : (sq_u8 B n s).1 ≤ n := sq_S_le (by decide) (sq_l7 hs)
theorem sq_l9 {B : Nat → Int32} {n : Nat} {s : sq_Q} (hs : s.1 ≤ n) : (sq_u9 B n s).1 ≤ n := by
  unfold sq_u9
  by_cases h : sq_t B n 126 (sq_u7 B n s) = true
  · rw [if_pos h]
    exact sq_R_le (by decide) (sq_l8 hs)
  · rw [if_neg h]
    exact sq_l8 hs
set_option maxHeartbeats 20000 in
theorem sj_wst_eq (f : Nat → Int32) (k : Nat) (w : sj_W5) : sj_wst f k w = upd (upd (upd (upd (upd f (5 * k) w.1) (5 * k + 1) w.2.1) (5 * k + 2) w.2.2.1) (5 * k + 3) w.2.2.2.1) (5 * k + 4) w.2.2.2.2 := rfl
set_option maxHeartbeats 20000 in
theorem sq_w5_1y {B : Nat → Int32} {n : Nat} {s : sq_Q} (h : sq_t B n 45 s = true) : (sq_w5 B n s).1 = -sq_w1 B n s := by
  unfold sq_w5
  dsimp only
  rw [if_pos h]
set_option maxHeartbeats 20000 in
theorem sq_w5_1n {B : Nat → Int32} {n : Nat} {s : sq_Q} (h : sq_t B n 45 s = false) : (sq_w5 B n s).1 = sq_w1 B n s := by
  unfold sq_w5
  dsimp only
  rw [if_neg (by rw [h]; exact Bool.false_ne_true)]
set_option maxHeartbeats 20000 in
theorem sq_w5_2 (B : Nat → Int32) (n : Nat) (s : sq_Q) : (sq_w5 B n s).2.1 = sq_V B n 1 60 (sq_u3 B n s) := by
  unfold sq_w5
  dsimp only
set_option maxHeartbeats 20000 in
theorem sq_w5_3 (B : Nat → Int32) (n : Nat) (s : sq_Q) : (sq_w5 B n s).2.2.1 = sj_bi (sq_t B n 111 (sq_u4 B n s)) := by
  unfold sq_w5
  dsimp only
set_option maxHeartbeats 20000 in
theorem sq_w5_4 (B : Nat → Int32) (n : Nat) (s : sq_Q) : (sq_w5 B n s).2.2.2.1 = sq_V B n 1 9 (sq_u6 B n s) := by
  unfold sq_w5
  dsimp only
set_option maxHeartbeats 20000 in
theorem sq_w5_5y {B : Nat → Int32} {n : Nat} {s : sq_Q} (h : sq_t B n 126 (sq_u7 B n s) = true) : (sq_w5 B n s).2.2.2.2 = sq_V B n 1 9 (sq_u8 B n s) := by
  unfold sq_w5
  dsimp only
  rw [if_pos h]
set_option maxHeartbeats 20000 in
theorem sq_w5_5n {B : Nat → Int32} {n : Nat} {s : sq_Q} (h : sq_t B n 126 (sq_u7 B n s) = false) : (sq_w5 B n s).2.2.2.2 = 0 := by
  unfold sq_w5
  dsimp only
  rw [if_neg (by rw [h]; exact Bool.false_ne_true)]
set_option maxHeartbeats 20000 in
theorem sq_u9_y {B : Nat → Int32} {n : Nat} {s : sq_Q} (h : sq_t B n 126 (sq_u7 B n s) = true) : sq_u9 B n s = sq_R B n 1 9 (sq_u8 B n s) := by
  unfold sq_u9
  rw [if_pos h]
set_option maxHeartbeats 20000 in
theorem sq_u9_n {B : Nat → Int32} {n : Nat} {s : sq_Q} (h : sq_t B n 126 (sq_u7 B n s) = false) : sq_u9 B n s = sq_u8 B n s := by
  unfold sq_u9
  rw [if_neg (by rw [h]; exact Bool.false_ne_true)]
theorem sq_i5 {k w : Nat} {v : Int32} (h : v = nI w) : nI k * 5 + v = nI (5 * k + w) := by
  rw [h]
  exact sj_i5 k w
set_option maxRecDepth 100000 in
set_option maxHeartbeats 120000 in
theorem ct_X5_readStroke (l : Launch) {S : sj_St} {x : Nat} {e : Nat → Nat} {n : Nat} {B : Nat → Int32} (h : sq_xl S x e n B) {s : sq_Q} {k q : Nat} {fn fk ff fs : Nat → Int32} (hs : s.1 ≤ n) (hk : k < 8) : sj_Ctr l mX5_readStroke [.ref x] (sq_xs S x e s k q fn fk ff fs) (sj_eq none (sq_xs S x e (sq_u9 B n s) (k + 1) q (sj_wst fn k (sq_w5 B n s)) fk ff fs)) := by
  refine sj_start ([some (.ref x), none, none, none, none, none, none, none]) (by decide +kernel) rfl rfl (fun X hX C hR => ?_)
  subst hX
  obtain ⟨h1, hn, hB⟩ := id h.2.2.2.2.2.2.1
  have kd_x : ∀ {s : sq_Q} {k q : Nat} {fn fk ff fs : Nat → Int32}, sj_kd (sq_xs S x e s k q fn fk ff fs) x = some 5 := (sq_xl_xs h).1
  have rf_x_0 : ∀ {s : sq_Q} {k q : Nat} {fn fk ff fs : Nat → Int32}, sj_rf (sq_xs S x e s k q fn fk ff fs) x 0 = some (e 1) := (sq_xl_xs h).2.1.1
  have g1 : ∀ {s : sq_Q} {k q : Nat} {fn fk ff fs : Nat → Int32}, sj_rw (sq_xs S x e s k q fn fk ff fs) (e 1) (e 2) 60 := (sq_xl_xs h).2.1.2
  have kd_r1 : ∀ {s : sq_Q} {k q : Nat} {fn fk ff fs : Nat → Int32}, sj_kd (sq_xs S x e s k q fn fk ff fs) (e 1) = some 2 := g1.1
  have rf_x_4 : ∀ {s : sq_Q} {k q : Nat} {fn fk ff fs : Nat → Int32}, sj_rf (sq_xs S x e s k q fn fk ff fs) x 4 = some (e 3) := (sq_xl_xs h).2.2.1.1
  have g3 : ∀ {s : sq_Q} {k q : Nat} {fn fk ff fs : Nat → Int32}, sj_rw (sq_xs S x e s k q fn fk ff fs) (e 3) (e 4) 40 := (sq_xl_xs h).2.2.1.2
  have kd_r3 : ∀ {s : sq_Q} {k q : Nat} {fn fk ff fs : Nat → Int32}, sj_kd (sq_xs S x e s k q fn fk ff fs) (e 3) = some 2 := g3.1
  have rf_x_6 : ∀ {s : sq_Q} {k q : Nat} {fn fk ff fs : Nat → Int32}, sj_rf (sq_xs S x e s k q fn fk ff fs) x 6 = some (e 5) := (sq_xl_xs h).2.2.2.1.1
  have g5 : ∀ {s : sq_Q} {k q : Nat} {fn fk ff fs : Nat → Int32}, sj_rw (sq_xs S x e s k q fn fk ff fs) (e 5) (e 6) 60 := (sq_xl_xs h).2.2.2.1.2
  have kd_r5 : ∀ {s : sq_Q} {k q : Nat} {fn fk ff fs : Nat → Int32}, sj_kd (sq_xs S x e s k q fn fk ff fs) (e 5) = some 2 := g5.1
  have rf_x_7 : ∀ {s : sq_Q} {k q : Nat} {fn fk ff fs : Nat → Int32}, sj_rf (sq_xs S x e s k q fn fk ff fs) x 7 = some (e 7) := (sq_xl_xs h).2.2.2.2.1.1
  have g7 : ∀ {s : sq_Q} {k q : Nat} {fn fk ff fs : Nat → Int32}, sj_rw (sq_xs S x e s k q fn fk ff fs) (e 7) (e 8) 60 := (sq_xl_xs h).2.2.2.2.1.2
  have kd_r7 : ∀ {s : sq_Q} {k q : Nat} {fn fk ff fs : Nat → Int32}, sj_kd (sq_xs S x e s k q fn fk ff fs) (e 7) = some 2 := g7.1
  have rf_x_8 : ∀ {s : sq_Q} {k q : Nat} {fn fk ff fs : Nat → Int32}, sj_rf (sq_xs S x e s k q fn fk ff fs) x 8 = some (e 9) := (sq_xl_xs h).2.2.2.2.2.1.1
  have g9 : ∀ {s : sq_Q} {k q : Nat} {fn fk ff fs : Nat → Int32}, sj_rw (sq_xs S x e s k q fn fk ff fs) (e 9) (e 10) 60 := (sq_xl_xs h).2.2.2.2.2.1.2
  have kd_r9 : ∀ {s : sq_Q} {k q : Nat} {fn fk ff fs : Nat → Int32}, sj_kd (sq_xs S x e s k q fn fk ff fs) (e 9) = some 2 := g9.1
  have cut_141 : sj_G X (sq_xs S x e (sq_u9 B n s) k q (upd (upd fn (5 * k) (sq_w5 B n s).1) (5 * k + 1) (sq_V B n 1 60 (sq_u3 B n s))) fk ff fs) 0 0 [some (.ref x), some (.int (sj_bi (sq_t B n 45 s))), some (.int (sq_w1 B n s)), some (.int (sq_V B n 1 60 (sq_u3 B n s))), some (.int (sj_bi (sq_t B n 111 (sq_u4 B n s)))), some (.int (sq_V B n 1 9 (sq_u6 B n s))), some (.int (sq_w5 B n s).2.2.2.2), some (.int (nI k * 5))] 141 [.int (sq_w5 B n s).2.2.1, .int (nI (5 * k + 2)), .ref (e 3)] := by
    refine sj_callVv C 144 rfl dX5_readStroke_141 cv_X5_36 rfl (ct_X2_put _ g3 _ _) rfl rfl rfl ⟨_, _, kd_r3, rfl, rfl, by decide⟩ ⟨rfl, rfl⟩ ?_
    rw [sj_put_nI (by omega) (by omega), sj_wIa_eq, sq_a4 h, sq_z4 h]
    refine sj_aload_n C 145 rfl dX5_readStroke_144 rfl rfl ?_
    refine sj_getr C 148 rfl fd_X5_20 dX5_readStroke_145 kd_x rf_x_4 ?_
    refine sj_iload C 150 rfl dX5_readStroke_148 rfl ?_
    refine sj_iconstv C (3) 151 rfl dX5_readStroke_150 rfl ?_
    refine sj_iadd C 152 rfl dX5_readStroke_151 ?_
    rw [show nI k * 5 + 3 = nI (5 * k + 3) from sq_i5 (w := 3) rfl]
    refine sj_iload C 154 rfl dX5_readStroke_152 rfl ?_
    refine sj_callVv C 157 rfl dX5_readStroke_154 cv_X5_36 rfl (ct_X2_put _ g3 _ _) rfl rfl rfl ⟨_, _, kd_r3, rfl, rfl, by decide⟩ ⟨rfl, rfl⟩ ?_
    rw [sj_put_nI (by omega) (by omega), sj_wIa_eq, sq_a4 h, sq_z4 h]
    refine sj_aload_n C 158 rfl dX5_readStroke_157 rfl rfl ?_
    refine sj_getr C 161 rfl fd_X5_20 dX5_readStroke_158 kd_x rf_x_4 ?_
    refine sj_iload C 163 rfl dX5_readStroke_161 rfl ?_
    refine sj_iconstv C (4) 164 rfl dX5_readStroke_163 rfl ?_
    refine sj_iadd C 165 rfl dX5_readStroke_164 ?_
    rw [show nI k * 5 + 4 = nI (5 * k + 4) from sq_i5 (w := 4) rfl]
    refine sj_iload C 167 rfl dX5_readStroke_165 rfl ?_
    refine sj_callVv C 170 rfl dX5_readStroke_167 cv_X5_36 rfl (ct_X2_put _ g3 _ _) rfl rfl rfl ⟨_, _, kd_r3, rfl, rfl, by decide⟩ ⟨rfl, rfl⟩ ?_
    rw [sj_put_nI (by omega) (by omega), sj_wIa_eq, sq_a4 h, sq_z4 h]
    refine sj_aload_n C 171 rfl dX5_readStroke_170 rfl rfl ?_
    refine sj_dup C 172 rfl dX5_readStroke_171 rfl ?_
    refine sj_getI C 175 rfl fd_X5_72 dX5_readStroke_172 kd_x ?_
    rw [sq_x5]
    refine sj_iconstv C (1) 176 rfl dX5_readStroke_175 rfl ?_
    refine sj_iadd C 177 rfl dX5_readStroke_176 ?_
    rw [nI_1]
    refine sj_putI C 180 rfl fd_X5_72 dX5_readStroke_177 rfl rfl kd_x ?_
    rw [sq_y5]
    refine sj_vret C hR rfl rfl dX5_readStroke_180 ?_
    refine ⟨rfl, ?_⟩
    rw [sj_wst_eq, sq_w5_2, sq_w5_4]
  have cut_108 : sj_G X (sq_xs S x e (sq_u9 B n s) k q fn fk ff fs) 0 0 [some (.ref x), some (.int (sj_bi (sq_t B n 45 s))), some (.int (sq_w1 B n s)), some (.int (sq_V B n 1 60 (sq_u3 B n s))), some (.int (sj_bi (sq_t B n 111 (sq_u4 B n s)))), some (.int (sq_V B n 1 9 (sq_u6 B n s))), some (.int (sq_w5 B n s).2.2.2.2), some (.int (nI k * 5))] 108 [.int (sq_w5 B n s).1, .int (nI (5 * k)), .ref (e 3)] := by
    refine sj_callVv C 111 rfl dX5_readStroke_108 cv_X5_36 rfl (ct_X2_put _ g3 _ _) rfl rfl rfl ⟨_, _, kd_r3, rfl, rfl, by decide⟩ ⟨rfl, rfl⟩ ?_
    rw [sj_put_nI (by omega) (by omega), sj_wIa_eq, sq_a4 h, sq_z4 h]
    refine sj_aload_n C 112 rfl dX5_readStroke_111 rfl rfl ?_
    refine sj_getr C 115 rfl fd_X5_20 dX5_readStroke_112 kd_x rf_x_4 ?_
    refine sj_iload C 117 rfl dX5_readStroke_115 rfl ?_
    refine sj_iconstv C (1) 118 rfl dX5_readStroke_117 rfl ?_
    refine sj_iadd C 119 rfl dX5_readStroke_118 ?_
    rw [show nI k * 5 + 1 = nI (5 * k + 1) from sq_i5 (w := 1) rfl]
    refine sj_iload_n C 120 rfl dX5_readStroke_119 rfl rfl ?_
    refine sj_callVv C 123 rfl dX5_readStroke_120 cv_X5_36 rfl (ct_X2_put _ g3 _ _) rfl rfl rfl ⟨_, _, kd_r3, rfl, rfl, by decide⟩ ⟨rfl, rfl⟩ ?_
    rw [sj_put_nI (by omega) (by omega), sj_wIa_eq, sq_a4 h, sq_z4 h]
    refine sj_aload_n C 124 rfl dX5_readStroke_123 rfl rfl ?_
    refine sj_getr C 127 rfl fd_X5_20 dX5_readStroke_124 kd_x rf_x_4 ?_
    refine sj_iload C 129 rfl dX5_readStroke_127 rfl ?_
    refine sj_iconstv C (2) 130 rfl dX5_readStroke_129 rfl ?_
    refine sj_iadd C 131 rfl dX5_readStroke_130 ?_
    rw [show nI k * 5 + 2 = nI (5 * k + 2) from sq_i5 (w := 2) rfl]
    refine sj_iload C 133 rfl dX5_readStroke_131 rfl ?_
    refine sj_if_eq C 140 136 rfl rfl dX5_readStroke_133 (fun c_133 => ?_) (fun c_133 => ?_)
    · refine sj_iconstv C (0) 141 rfl dX5_readStroke_140 rfl ?_
      have c8 := cut_141
      rw [(sq_w5_3 B n s).trans c_133] at c8
      exact c8
    · refine sj_iconstv C (1) 137 rfl dX5_readStroke_136 rfl ?_
      refine sj_goto C 141 rfl dX5_readStroke_137 ?_
      have c8 := cut_141
      rw [show (sq_w5 B n s).2.2.1 = 1 from (sq_w5_3 B n s).trans (by rw [sj_bin.mp c_133]; rfl)] at c8
      exact c8
  have cut_80 : sj_G X (sq_xs S x e (sq_u9 B n s) k q fn fk ff fs) 0 0 [some (.ref x), some (.int (sj_bi (sq_t B n 45 s))), some (.int (sq_w1 B n s)), some (.int (sq_V B n 1 60 (sq_u3 B n s))), some (.int (sj_bi (sq_t B n 111 (sq_u4 B n s)))), some (.int (sq_V B n 1 9 (sq_u6 B n s))), none, none] 80 [.int (sq_w5 B n s).2.2.2.2] := by
    refine sj_istore_6 C 82 rfl dX5_readStroke_80 rfl rfl ?_
    refine sj_aload_n C 83 rfl dX5_readStroke_82 rfl rfl ?_
    refine sj_getI C 86 rfl fd_X5_72 dX5_readStroke_83 kd_x ?_
    rw [sq_x5]
    refine sj_iconstv C (5) 87 rfl dX5_readStroke_86 rfl ?_
    refine sj_imul C 88 rfl dX5_readStroke_87 ?_
    refine sj_istore_7 C 90 rfl dX5_readStroke_88 rfl rfl ?_
    refine sj_aload_n C 91 rfl dX5_readStroke_90 rfl rfl ?_
    refine sj_getr C 94 rfl fd_X5_20 dX5_readStroke_91 kd_x rf_x_4 ?_
    refine sj_iload C 96 rfl dX5_readStroke_94 rfl ?_
    refine sj_iconstv C (0) 97 rfl dX5_readStroke_96 rfl ?_
    refine sj_iadd C 98 rfl dX5_readStroke_97 ?_
    rw [show nI k * 5 + 0 = nI (5 * k) from sq_i5 (w := 0) rfl]
    refine sj_iload_n C 99 rfl dX5_readStroke_98 rfl rfl ?_
    refine sj_if_eq C 107 102 rfl rfl dX5_readStroke_99 (fun c_99 => ?_) (fun c_99 => ?_)
    · refine sj_iload_n C 108 rfl dX5_readStroke_107 rfl rfl ?_
      have et := sj_bi0.mp c_99
      have c8 := cut_108
      rw [sq_w5_1n et] at c8
      exact c8
    · refine sj_iload_n C 103 rfl dX5_readStroke_102 rfl rfl ?_
      refine sj_ineg C 104 rfl dX5_readStroke_103 ?_
      refine sj_goto C 108 rfl dX5_readStroke_104 ?_
      have et := sj_bin.mp c_99
      have c8 := cut_108
      rw [sq_w5_1y et] at c8
      exact c8
  have cut_17 : sj_G X (sq_xs S x e (sq_u1 B n s) k q fn fk ff fs) 0 0 [some (.ref x), some (.int (sj_bi (sq_t B n 45 s))), none, none, none, none, none, none] 17 [.int (sj_bi (sq_t B n 45 s)), .ref x] := by
    refine sj_bipush C (45) 19 rfl dX5_readStroke_17 (by decide) ?_
    refine sj_callVd C 22 rfl dX5_readStroke_19 cv_X5_78 rfl (ct_X5_readNumber _ h (sq_l1 hs) (sj_bi (sq_t B n 45 s)) 45 (sj_bi_01 _)) rfl rfl rfl ⟨_, _, kd_x, rfl, rfl, by decide⟩ ⟨rfl, rfl⟩ ?_
    rw [show sq_R B n (sj_bi (sq_t B n 45 s)) 45 (sq_u1 B n s) = sq_u2 B n s from rfl, show sq_V B n (sj_bi (sq_t B n 45 s)) 45 (sq_u1 B n s) = sq_w1 B n s from rfl]
    refine sj_istore_n_2 C 23 rfl dX5_readStroke_22 rfl rfl ?_
    refine sj_aload_n C 24 rfl dX5_readStroke_23 rfl rfl ?_
    refine sj_bipush C (58) 26 rfl dX5_readStroke_24 (by decide) ?_
    refine sj_callVv C 29 rfl dX5_readStroke_26 cv_X5_82 rfl (ct_X5_need _ h (sq_l2 hs) 58) rfl rfl rfl ⟨_, _, kd_x, rfl, rfl, by decide⟩ ⟨rfl, rfl⟩ ?_
    rw [show sq_N B n 58 (sq_u2 B n s) = sq_u3 B n s from rfl]
    refine sj_aload_n C 30 rfl dX5_readStroke_29 rfl rfl ?_
    refine sj_iconstv C (1) 31 rfl dX5_readStroke_30 rfl ?_
    refine sj_bipush C (60) 33 rfl dX5_readStroke_31 (by decide) ?_
    refine sj_callVd C 36 rfl dX5_readStroke_33 cv_X5_78 rfl (ct_X5_readNumber _ h (sq_l3 hs) 1 60 (by decide)) rfl rfl rfl ⟨_, _, kd_x, rfl, rfl, by decide⟩ ⟨rfl, rfl⟩ ?_
    rw [show sq_R B n 1 60 (sq_u3 B n s) = sq_u4 B n s from rfl]
    refine sj_istore_n_3 C 37 rfl dX5_readStroke_36 rfl rfl ?_
    refine sj_aload_n C 38 rfl dX5_readStroke_37 rfl rfl ?_
    refine sj_bipush C (111) 40 rfl dX5_readStroke_38 (by decide) ?_
    refine sj_callVd C 43 rfl dX5_readStroke_40 cv_X5_54 rfl (ct_X5_skip _ h (sq_l4 hs) 111) rfl rfl rfl ⟨_, _, kd_x, rfl, rfl, by decide⟩ ⟨rfl, rfl⟩ ?_
    rw [show sq_S B n 111 (sq_u4 B n s) = sq_u5 B n s from rfl]
    refine sj_istore_4 C 45 rfl dX5_readStroke_43 rfl rfl ?_
    refine sj_aload_n C 46 rfl dX5_readStroke_45 rfl rfl ?_
    refine sj_bipush C (112) 48 rfl dX5_readStroke_46 (by decide) ?_
    refine sj_callVv C 51 rfl dX5_readStroke_48 cv_X5_82 rfl (ct_X5_need _ h (sq_l5 hs) 112) rfl rfl rfl ⟨_, _, kd_x, rfl, rfl, by decide⟩ ⟨rfl, rfl⟩ ?_
    rw [show sq_N B n 112 (sq_u5 B n s) = sq_u6 B n s from rfl]
    refine sj_aload_n C 52 rfl dX5_readStroke_51 rfl rfl ?_
    refine sj_iconstv C (1) 53 rfl dX5_readStroke_52 rfl ?_
    refine sj_bipush C (9) 55 rfl dX5_readStroke_53 (by decide) ?_
    refine sj_callVd C 58 rfl dX5_readStroke_55 cv_X5_78 rfl (ct_X5_readNumber _ h (sq_l6 hs) 1 9 (by decide)) rfl rfl rfl ⟨_, _, kd_x, rfl, rfl, by decide⟩ ⟨rfl, rfl⟩ ?_
    rw [show sq_R B n 1 9 (sq_u6 B n s) = sq_u7 B n s from rfl]
    refine sj_istore_5 C 60 rfl dX5_readStroke_58 rfl rfl ?_
    refine sj_aload_n C 61 rfl dX5_readStroke_60 rfl rfl ?_
    refine sj_bipush C (126) 63 rfl dX5_readStroke_61 (by decide) ?_
    refine sj_callVd C 66 rfl dX5_readStroke_63 cv_X5_54 rfl (ct_X5_skip _ h (sq_l7 hs) 126) rfl rfl rfl ⟨_, _, kd_x, rfl, rfl, by decide⟩ ⟨rfl, rfl⟩ ?_
    rw [show sq_S B n 126 (sq_u7 B n s) = sq_u8 B n s from rfl]
    refine sj_if_eq C 79 69 rfl rfl dX5_readStroke_66 (fun c_66 => ?_) (fun c_66 => ?_)
    · refine sj_iconstv C (0) 80 rfl dX5_readStroke_79 rfl ?_
      have et := sj_bi0.mp c_66
      have c8 := cut_80
      rw [sq_u9_n et, sq_w5_5n et] at c8
      exact c8
    · refine sj_aload_n C 70 rfl dX5_readStroke_69 rfl rfl ?_
      refine sj_iconstv C (1) 71 rfl dX5_readStroke_70 rfl ?_
      refine sj_bipush C (9) 73 rfl dX5_readStroke_71 (by decide) ?_
      refine sj_callVd C 76 rfl dX5_readStroke_73 cv_X5_78 rfl (ct_X5_readNumber _ h (sq_l8 hs) 1 9 (by decide)) rfl rfl rfl ⟨_, _, kd_x, rfl, rfl, by decide⟩ ⟨rfl, rfl⟩ ?_
      refine sj_goto C 80 rfl dX5_readStroke_76 ?_
      have et := sj_bin.mp c_66
      have c8 := cut_80
      rw [sq_u9_y et, sq_w5_5y et] at c8
      exact c8
  refine sj_aload_n C 1 rfl dX5_readStroke_0 rfl rfl ?_
  refine sj_bipush C (45) 3 rfl dX5_readStroke_1 (by decide) ?_
  refine sj_callVd C 6 rfl dX5_readStroke_3 cv_X5_54 rfl (ct_X5_skip _ h (hs) 45) rfl rfl rfl ⟨_, _, kd_x, rfl, rfl, by decide⟩ ⟨rfl, rfl⟩ ?_
  rw [show sq_S B n 45 s = sq_u1 B n s from rfl]
  refine sj_istore_n_1 C 7 rfl dX5_readStroke_6 rfl rfl ?_
  refine sj_aload_n C 8 rfl dX5_readStroke_7 rfl rfl ?_
  refine sj_iload_n C 9 rfl dX5_readStroke_8 rfl rfl ?_
  refine sj_if_eq C 16 12 rfl rfl dX5_readStroke_9 (fun c_9 => ?_) (fun c_9 => ?_)
  · refine sj_iconstv C (0) 17 rfl dX5_readStroke_16 rfl ?_
    rw [show (0 : Int32) = sj_bi (sq_t B n 45 s) from c_9.symm]
    exact cut_17
  · refine sj_iconstv C (1) 13 rfl dX5_readStroke_12 rfl ?_
    refine sj_goto C 17 rfl dX5_readStroke_13 ?_
    rw [show (1 : Int32) = sj_bi (sq_t B n 45 s) from by rw [sj_bin.mp c_9]; rfl]
    exact cut_17
set_option maxRecDepth 100000 in
set_option maxHeartbeats 150000 in
theorem ct_X5_begin (l : Launch) {S : sj_St} {x : Nat} {e : Nat → Nat} {n : Nat} {B : Nat → Int32} (h : sq_xl S x e n B) : sj_Ctr l mX5_begin [.ref x] S (sj_eq none (sq_xs S x e (0, false) 0 0 (sj_ia S (e 4)) (sj_ia S (e 6)) (sj_ia S (e 8)) (sj_ia S (e 10)))) := by
  refine sj_start ([some (.ref x)]) (by decide +kernel) rfl rfl (fun X hX C hR => ?_)
  subst hX
  have kd_x := h.1
  refine sj_aload_n C 1 rfl dX5_begin_0 rfl rfl ?_
  refine sj_iconstv C (0) 2 rfl dX5_begin_1 rfl ?_
  refine sj_putI C 5 rfl fd_X5_65 dX5_begin_2 rfl rfl kd_x ?_
  refine sj_aload_n C 6 rfl dX5_begin_5 rfl rfl ?_
  refine sj_iconstv C (0) 7 rfl dX5_begin_6 rfl ?_
  refine sj_putI C 10 rfl fd_X5_68 dX5_begin_7 rfl rfl kd_x ?_
  refine sj_aload_n C 11 rfl dX5_begin_10 rfl rfl ?_
  refine sj_iconstv C (0) 12 rfl dX5_begin_11 rfl ?_
  refine sj_putI C 15 rfl fd_X5_72 dX5_begin_12 rfl rfl kd_x ?_
  refine sj_aload_n C 16 rfl dX5_begin_15 rfl rfl ?_
  refine sj_iconstv C (0) 17 rfl dX5_begin_16 rfl ?_
  refine sj_putI C 20 rfl fd_X5_75 dX5_begin_17 rfl rfl kd_x ?_
  refine sj_vret C hR rfl rfl dX5_begin_20 ?_
  refine ⟨rfl, ?_⟩
  have e9 : ∀ T, (∀ i, sj_ia T i = sj_ia S i) → sj_sIa (sj_sIa (sj_sIa (sj_sIa T (e 4) (sj_ia S (e 4))) (e 6) (sj_ia S (e 6))) (e 8) (sj_ia S (e 8))) (e 10) (sj_ia S (e 10)) = T := by
    intro T hT
    rw [sj_sIa_idv (hT (e 4)), sj_sIa_idv (hT (e 6)), sj_sIa_idv (hT (e 8)), sj_sIa_idv (hT (e 10))]
  exact (e9 (sj_wFi (sj_wFi (sj_wFi (sj_wFi S x 2 0) x 3 0) x 5 0) x 9 0) (fun _ => rfl)).symm
set_option maxRecDepth 100000 in
set_option maxHeartbeats 150000 in
theorem ct_X5_isComplete (l : Launch) {S : sj_St} {x : Nat} {e : Nat → Nat} {n : Nat} {B : Nat → Int32} (h : sq_xl S x e n B) {s : sq_Q} {k q : Nat} {fn fk ff fs : Nat → Int32} (hs : s.1 ≤ n) : sj_Ctr l mX5_isComplete [.ref x] (sq_xs S x e s k q fn fk ff fs) (sj_eq (some (.int (sj_bi (!s.2 && decide (s.1 = n))))) (sq_xs S x e s k q fn fk ff fs)) := by
  refine sj_start ([some (.ref x)]) (by decide +kernel) rfl rfl (fun X hX C hR => ?_)
  subst hX
  obtain ⟨h1, hn, hB⟩ := id h.2.2.2.2.2.2.1
  have kd_x : ∀ {s : sq_Q} {k q : Nat} {fn fk ff fs : Nat → Int32}, sj_kd (sq_xs S x e s k q fn fk ff fs) x = some 5 := (sq_xl_xs h).1
  have rf_x_0 : ∀ {s : sq_Q} {k q : Nat} {fn fk ff fs : Nat → Int32}, sj_rf (sq_xs S x e s k q fn fk ff fs) x 0 = some (e 1) := (sq_xl_xs h).2.1.1
  have g1 : ∀ {s : sq_Q} {k q : Nat} {fn fk ff fs : Nat → Int32}, sj_rw (sq_xs S x e s k q fn fk ff fs) (e 1) (e 2) 60 := (sq_xl_xs h).2.1.2
  have kd_r1 : ∀ {s : sq_Q} {k q : Nat} {fn fk ff fs : Nat → Int32}, sj_kd (sq_xs S x e s k q fn fk ff fs) (e 1) = some 2 := g1.1
  have rf_x_4 : ∀ {s : sq_Q} {k q : Nat} {fn fk ff fs : Nat → Int32}, sj_rf (sq_xs S x e s k q fn fk ff fs) x 4 = some (e 3) := (sq_xl_xs h).2.2.1.1
  have g3 : ∀ {s : sq_Q} {k q : Nat} {fn fk ff fs : Nat → Int32}, sj_rw (sq_xs S x e s k q fn fk ff fs) (e 3) (e 4) 40 := (sq_xl_xs h).2.2.1.2
  have kd_r3 : ∀ {s : sq_Q} {k q : Nat} {fn fk ff fs : Nat → Int32}, sj_kd (sq_xs S x e s k q fn fk ff fs) (e 3) = some 2 := g3.1
  have rf_x_6 : ∀ {s : sq_Q} {k q : Nat} {fn fk ff fs : Nat → Int32}, sj_rf (sq_xs S x e s k q fn fk ff fs) x 6 = some (e 5) := (sq_xl_xs h).2.2.2.1.1
  have g5 : ∀ {s : sq_Q} {k q : Nat} {fn fk ff fs : Nat → Int32}, sj_rw (sq_xs S x e s k q fn fk ff fs) (e 5) (e 6) 60 := (sq_xl_xs h).2.2.2.1.2
  have kd_r5 : ∀ {s : sq_Q} {k q : Nat} {fn fk ff fs : Nat → Int32}, sj_kd (sq_xs S x e s k q fn fk ff fs) (e 5) = some 2 := g5.1
  have rf_x_7 : ∀ {s : sq_Q} {k q : Nat} {fn fk ff fs : Nat → Int32}, sj_rf (sq_xs S x e s k q fn fk ff fs) x 7 = some (e 7) := (sq_xl_xs h).2.2.2.2.1.1
  have g7 : ∀ {s : sq_Q} {k q : Nat} {fn fk ff fs : Nat → Int32}, sj_rw (sq_xs S x e s k q fn fk ff fs) (e 7) (e 8) 60 := (sq_xl_xs h).2.2.2.2.1.2
  have kd_r7 : ∀ {s : sq_Q} {k q : Nat} {fn fk ff fs : Nat → Int32}, sj_kd (sq_xs S x e s k q fn fk ff fs) (e 7) = some 2 := g7.1
  have rf_x_8 : ∀ {s : sq_Q} {k q : Nat} {fn fk ff fs : Nat → Int32}, sj_rf (sq_xs S x e s k q fn fk ff fs) x 8 = some (e 9) := (sq_xl_xs h).2.2.2.2.2.1.1
  have g9 : ∀ {s : sq_Q} {k q : Nat} {fn fk ff fs : Nat → Int32}, sj_rw (sq_xs S x e s k q fn fk ff fs) (e 9) (e 10) 60 := (sq_xl_xs h).2.2.2.2.2.1.2
  have kd_r9 : ∀ {s : sq_Q} {k q : Nat} {fn fk ff fs : Nat → Int32}, sj_kd (sq_xs S x e s k q fn fk ff fs) (e 9) = some 2 := g9.1
  have hsn := hs
  refine sj_aload_n C 1 rfl dX5_isComplete_0 rfl rfl ?_
  refine sj_getI C 4 rfl fd_X5_68 dX5_isComplete_1 kd_x ?_
  rw [sq_x3]
  refine sj_if_ne C 22 7 rfl rfl dX5_isComplete_4 (fun c_4 => ?_) (fun c_4 => ?_)
  · refine sj_iconstv C (0) 23 rfl dX5_isComplete_22 rfl ?_
    refine sj_zret C hR rfl rfl rfl dX5_isComplete_23 ?_
    refine ⟨congrArg (fun z => some (Value.int z)) ?_, rfl⟩
    rw [sj_bin.mp c_4]
    rfl
  · refine sj_aload_n C 8 rfl dX5_isComplete_7 rfl rfl ?_
    refine sj_getI C 11 rfl fd_X5_65 dX5_isComplete_8 kd_x ?_
    rw [sq_x2]
    refine sj_aload_n C 12 rfl dX5_isComplete_11 rfl rfl ?_
    refine sj_getI C 15 rfl fd_X5_32 dX5_isComplete_12 kd_x ?_
    rw [sq_x1, h1]
    refine sj_icmp_ne C 22 18 rfl rfl dX5_isComplete_15 (fun c_15 => ?_) (fun c_15 => ?_)
    · refine sj_iconstv C (0) 23 rfl dX5_isComplete_22 rfl ?_
      refine sj_zret C hR rfl rfl rfl dX5_isComplete_23 ?_
      refine ⟨congrArg (fun z => some (Value.int z)) ?_, rfl⟩
      rw [sj_bi0.mp c_4, decide_eq_false (fun e9 => c_15 (by rw [e9]))]
      rfl
    · refine sj_iconstv C (1) 19 rfl dX5_isComplete_18 rfl ?_
      refine sj_goto C 23 rfl dX5_isComplete_19 ?_
      refine sj_zret C hR rfl rfl rfl dX5_isComplete_23 ?_
      refine ⟨congrArg (fun z => some (Value.int z)) ?_, rfl⟩
      rw [sj_bi0.mp c_4, decide_eq_true ((nI_eq (by omega) (by omega)).mp c_15)]
      rfl
set_option maxRecDepth 100000 in
set_option maxHeartbeats 150000 in
theorem ct_X5_add (l : Launch) {S : sj_St} {x : Nat} {e : Nat → Nat} {n : Nat} {B : Nat → Int32} (h : sq_xl S x e n B) (hn9 : n < 60) (c : Int32) : sj_Ctr l mX5_add [.ref x, .int c] S (sj_eq (some (.int (nI (n + 1)))) (sj_wFi (sj_sIa S (e 2) (upd (sj_ia S (e 2)) n c)) x 1 (nI (n + 1)))) := by
  refine sj_start ([some (.ref x), some (.int c)]) (by decide +kernel) rfl rfl (fun X hX C hR => ?_)
  subst hX
  obtain ⟨kd_x, ⟨rf_x_0, g1⟩, -, -, -, -, ⟨h1, hn, hB⟩, hinj⟩ := id h
  have kd_r1 := g1.1
  refine sj_aload_n C 1 rfl dX5_add_0 rfl rfl ?_
  refine sj_getI C 4 rfl fd_X5_32 dX5_add_1 kd_x ?_
  refine sj_bipush C (60) 6 rfl dX5_add_4 (by decide) ?_
  refine sj_icmp_ge C 31 9 rfl rfl dX5_add_6 (fun c_6 => ?_) (fun c_6 => ?_)
  · exact absurd (show nI 60 ≤ nI n by rw [← h1]; exact c_6) (nI_ge hn9 (by omega))
  · refine sj_aload_n C 10 rfl dX5_add_9 rfl rfl ?_
    refine sj_getr C 13 rfl fd_X5_14 dX5_add_10 kd_x rf_x_0 ?_
    refine sj_aload_n C 14 rfl dX5_add_13 rfl rfl ?_
    refine sj_getI C 17 rfl fd_X5_32 dX5_add_14 kd_x ?_
    rw [h1]
    refine sj_iload_n C 18 rfl dX5_add_17 rfl rfl ?_
    refine sj_callVv C 21 rfl dX5_add_18 cv_X5_36 rfl (ct_X2_put _ g1 _ _) rfl rfl rfl ⟨_, _, kd_r1, rfl, rfl, by decide⟩ ⟨rfl, rfl⟩ ?_
    rw [sj_put_nI (by omega) (by omega), sj_wIa_eq]
    refine sj_aload_n C 22 rfl dX5_add_21 rfl rfl ?_
    refine sj_dup C 23 rfl dX5_add_22 rfl ?_
    refine sj_getI C 26 rfl fd_X5_32 dX5_add_23 kd_x ?_
    rw [show sj_fi (sj_sIa S (e 2) (upd (sj_ia S (e 2)) n c)) x 1 = nI n from h1]
    refine sj_iconstv C (1) 27 rfl dX5_add_26 rfl ?_
    refine sj_iadd C 28 rfl dX5_add_27 ?_
    rw [nI_1]
    refine sj_putI C 31 rfl fd_X5_32 dX5_add_28 rfl rfl kd_x ?_
    refine sj_aload_n C 32 rfl dX5_add_31 rfl rfl ?_
    refine sj_getI C 35 rfl fd_X5_32 dX5_add_32 kd_x ?_
    rw [sj_fi_wFi]
    refine sj_iret C hR rfl rfl dX5_add_35 ?_
    exact ⟨rfl, rfl⟩
set_option maxRecDepth 100000 in
set_option maxHeartbeats 150000 in
theorem ct_X5_empty (l : Launch) {S : sj_St} {x : Nat} (kd_x : sj_kd S x = some 5) : sj_Ctr l mX5_empty [.ref x] S (sj_eq none (sj_wFi S x 1 0)) := by
  refine sj_start ([some (.ref x)]) (by decide +kernel) rfl rfl (fun X hX C hR => ?_)
  subst hX
  refine sj_aload_n C 1 rfl dX5_empty_0 rfl rfl ?_
  refine sj_iconstv C (0) 2 rfl dX5_empty_1 rfl ?_
  refine sj_putI C 5 rfl fd_X5_32 dX5_empty_2 rfl rfl kd_x ?_
  refine sj_vret C hR rfl rfl dX5_empty_5 ?_
  exact ⟨rfl, rfl⟩
