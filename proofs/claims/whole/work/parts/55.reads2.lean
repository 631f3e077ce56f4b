/-! THE CLASS: sheets and works as texts -/
/-- a sheet's strokes behind the k-th, as far as they go -/
def sq_rd (B : Nat → Int32) (n : Nat) : Nat → sq_Q → Nat → (Nat → Int32) → sq_Q × Nat × (Nat → Int32)
  | 0, s, k, f => (s, k, f)
  | j + 1, s, k, f => if sq_t B n 44 s then sq_rd B n j (sq_u9 B n (sq_S B n 44 s)) (k + 1) (sj_wst f k (sq_w5 B n (sq_S B n 44 s))) else (s, k, f)
def sq_rs (B : Nat → Int32) (n : Nat) (f : Nat → Int32) : sq_Q × Nat × (Nat → Int32) := sq_rd B n 7 (sq_u9 B n (0, false)) 1 (sj_wst f 0 (sq_w5 B n (0, false)))
def sq_ok (n : Nat) (s : sq_Q) : Bool := !s.2 && decide (s.1 = n)
def sq_xr (S : sj_St) (x : Nat) (e : Nat → Nat) (r : sq_Q × Nat × (Nat → Int32)) (q : Nat) (fk ff fs : Nat → Int32) : sj_St := sq_xs S x e r.1 r.2.1 q r.2.2 fk ff fs
theorem sq_S_n {B : Nat → Int32} {n : Nat} {c : Int32} {s : sq_Q} (h : sq_t B n c s = false) : sq_S B n c s = s := by
  unfold sq_S
  rw [if_neg (by rw [h]; exact Bool.false_ne_true)]
theorem sq_S_y {B : Nat → Int32} {n : Nat} {c : Int32} {s : sq_Q} (h : sq_t B n c s = true) : sq_S B n c s = (s.1 + 1, s.2) := by
  unfold sq_S
  rw [if_pos h]
theorem sq_rd_y {B : Nat → Int32} {n j k : Nat} {s : sq_Q} {f : Nat → Int32} (h : sq_t B n 44 s = true) : sq_rd B n (j + 1) s k f = sq_rd B n j (sq_u9 B n (sq_S B n 44 s)) (k + 1) (sj_wst f k (sq_w5 B n (sq_S B n 44 s))) := if_pos h
theorem sq_rd_n {B : Nat → Int32} {n j k : Nat} {s : sq_Q} {f : Nat → Int32} (h : sq_t B n 44 s = false) : sq_rd B n (j + 1) s k f = (s, k, f) := if_neg (by rw [h]; exact Bool.false_ne_true)
set_option maxRecDepth 100000 in
set_option maxHeartbeats 150000 in
theorem ct_X5_readSheet (l : Launch) {S : sj_St} {x : Nat} {e : Nat → Nat} {n : Nat} {B : Nat → Int32} (h : sq_xl S x e n B) : sj_Ctr l mX5_readSheet [.ref x] S (sj_eq (some (.int (sj_bi (sq_ok n (sq_rs B n (sj_ia S (e 4))).1)))) (sq_xr S x e (sq_rs B n (sj_ia S (e 4))) 0 (sj_ia S (e 6)) (sj_ia S (e 8)) (sj_ia S (e 10)))) := by
  refine sj_start ([some (.ref x), none]) (by decide +kernel) rfl rfl (fun X hX C hR => ?_)
  subst hX
  have kd_x9 : ∀ {s : sq_Q} {k q : Nat} {fn fk ff fs : Nat → Int32}, sj_kd (sq_xs S x e s k q fn fk ff fs) x = some 5 := (sq_xl_xs h).1
  have kd_x := h.1
  have kd_x0 := kd_x
  clear kd_x
  have kd_x := @kd_x9
  have cut_35 : ∀ (s : sq_Q) (k : Nat) (f : Nat → Int32), s.1 ≤ n → (s, k, f) = sq_rs B n (sj_ia S (e 4)) → ∀ (o1 : Option Value) T, T = (sq_xs S x e s k 0 f (sj_ia S (e 6)) (sj_ia S (e 8)) (sj_ia S (e 10))) → sj_G X T 0 0 [some (.ref x), o1] 35 [] := by
    intro s k f hs hr o1 T hT
    subst hT
    refine sj_aload_n C 36 rfl dX5_readSheet_35 rfl rfl ?_
    refine sj_callVd C 39 rfl dX5_readSheet_36 cv_X5_58 rfl (ct_X5_isComplete _ h hs) rfl rfl rfl ⟨_, _, kd_x, rfl, rfl, by decide⟩ ⟨rfl, rfl⟩ ?_
    refine sj_zret C hR rfl (sj_binar _) rfl dX5_readSheet_39 ?_
    rw [← hr]
    exact ⟨rfl, rfl⟩
  have cut_10 : ∀ (s : sq_Q) (f : Nat → Int32), s.1 ≤ n → sq_rd B n (8 - (1)) s (1) f = sq_rs B n (sj_ia S (e 4)) → ∀ T, T = (sq_xs S x e s (1) 0 f (sj_ia S (e 6)) (sj_ia S (e 8)) (sj_ia S (e 10))) → sj_G X T 0 0 [some (.ref x), some (.int (nI (1)))] 10 [] := by
    refine sj_downFrom (fun k => ∀ (s : sq_Q) (f : Nat → Int32), s.1 ≤ n → sq_rd B n (8 - (k)) s (k) f = sq_rs B n (sj_ia S (e 4)) → ∀ T, T = (sq_xs S x e s (k) 0 f (sj_ia S (e 6)) (sj_ia S (e 8)) (sj_ia S (e 10))) → sj_G X T 0 0 [some (.ref x), some (.int (nI (k)))] 10 []) 1 8 (by omega) (fun k h1k hk ih => ?_)
    intro s f hs hr T hT
    subst hT
    refine sj_iload_n C 11 rfl dX5_readSheet_10 rfl rfl ?_
    refine sj_bipush C (8) 13 rfl dX5_readSheet_11 (by decide) ?_
    refine sj_icmp_ge C 35 16 rfl rfl dX5_readSheet_13 (fun c_13 => ?_) (fun c_13 => ?_)
    · have hk8 : k = 8 := by
        have h8 : ¬ k < 8 := fun h7 => nI_ge (b := 8) h7 (by omega) c_13
        omega
      subst hk8
      exact cut_35 _ _ _ hs hr _ _ rfl
    · have hlt : k < 8 := Nat.not_le.mp fun h8 => c_13 (nI_le (a := 8) h8 (by omega))
      refine sj_aload_n C 17 rfl dX5_readSheet_16 rfl rfl ?_
      refine sj_bipush C (44) 19 rfl dX5_readSheet_17 (by decide) ?_
      refine sj_callVd C 22 rfl dX5_readSheet_19 cv_X5_54 rfl (ct_X5_skip _ h hs 44) rfl rfl rfl ⟨_, _, kd_x, rfl, rfl, by decide⟩ ⟨rfl, rfl⟩ ?_
      refine sj_if_eq C 35 25 rfl rfl dX5_readSheet_22 (fun c_22 => ?_) (fun c_22 => ?_)
      · have et := sj_bi0.mp c_22
        obtain ⟨j, hj⟩ : ∃ j, 8 - k = j + 1 := ⟨7 - k, by omega⟩
        rw [hj] at hr
        rw [sq_rd_n et] at hr
        rw [sq_S_n et]
        exact cut_35 _ _ _ hs hr _ _ rfl
      · refine sj_aload_n C 26 rfl dX5_readSheet_25 rfl rfl ?_
        refine sj_callVv C 29 rfl dX5_readSheet_26 cv_X5_51 rfl (ct_X5_readStroke _ h (sq_S_le (by decide) hs) (k := k) hlt) rfl rfl rfl ⟨_, _, kd_x, rfl, rfl, by decide⟩ ⟨rfl, rfl⟩ ?_
        refine sj_iinc_1 C 32 rfl dX5_readSheet_29 rfl rfl ?_
        refine sj_goto C 10 rfl dX5_readSheet_32 ?_
        have et := sj_bin.mp c_22
        obtain ⟨j, hj⟩ : ∃ j, 8 - k = j + 1 := ⟨7 - k, by omega⟩
        rw [hj] at hr
        rw [sq_rd_y et] at hr
        rw [sj_n1]
        exact ih hlt _ _ (sq_l9 (sq_S_le (by decide) hs)) (by rw [show 8 - (k + 1) = j by omega]; exact hr) _ rfl
  have kd_x := kd_x0
  refine sj_aload_n C 1 rfl dX5_readSheet_0 rfl rfl ?_
  refine sj_callVv C 4 rfl dX5_readSheet_1 cv_X5_48 rfl (ct_X5_begin _ h) rfl rfl rfl ⟨_, _, kd_x, rfl, rfl, by decide⟩ ⟨rfl, rfl⟩ ?_
  have kd_x := @kd_x9
  refine sj_aload_n C 5 rfl dX5_readSheet_4 rfl rfl ?_
  refine sj_callVv C 8 rfl dX5_readSheet_5 cv_X5_51 rfl (ct_X5_readStroke _ h (Nat.zero_le _) (k := 0) (by omega)) rfl rfl rfl ⟨_, _, kd_x, rfl, rfl, by decide⟩ ⟨rfl, rfl⟩ ?_
  rw [Nat.zero_add]
  refine sj_iconstv C (1) 9 rfl dX5_readSheet_8 rfl ?_
  refine sj_istore_n_1 C 10 rfl dX5_readSheet_9 rfl rfl ?_
  exact cut_10 _ _ (sq_l9 (Nat.zero_le _)) rfl _ rfl
/-- a part: where the reading stands behind it, its numbers -/
def sq_b1 (s : sq_Q) : sq_Q := (s.1 + 1, s.2)
def sq_b2 (B : Nat → Int32) (n : Nat) (s : sq_Q) : sq_Q := sq_R B n 0 7 (sq_b1 s)
def sq_b3 (B : Nat → Int32) (n : Nat) (s : sq_Q) : sq_Q := sq_N B n 47 (sq_b2 B n s)
def sq_b4 (B : Nat → Int32) (n : Nat) (s : sq_Q) : sq_Q := sq_R B n 0 7 (sq_b3 B n s)
def sq_b5 (B : Nat → Int32) (n : Nat) (s : sq_Q) : sq_Q := sq_R B n 1 99 (sq_b1 s)
def sq_b6 (B : Nat → Int32) (n : Nat) (s : sq_Q) : sq_Q := sq_N B n 100 s
def sq_b7 (B : Nat → Int32) (n : Nat) (s : sq_Q) : sq_Q := sq_R B n 0 7 (sq_b6 B n s)
def sq_pt (B : Nat → Int32) (n : Nat) (s : sq_Q) : sq_Q := if sq_t B n 108 s || sq_t B n 117 s then sq_b4 B n s else if sq_t B n 121 s then sq_b5 B n s else sq_b7 B n s
def sq_p1 (B : Nat → Int32) (n : Nat) (s : sq_Q) : Int32 := if sq_t B n 108 s || sq_t B n 117 s then sq_V B n 0 7 (sq_b1 s) else if sq_t B n 121 s then sq_V B n 1 99 (sq_b1 s) else sq_V B n 0 7 (sq_b6 B n s)
def sq_p2 (B : Nat → Int32) (n : Nat) (s : sq_Q) : Int32 := if sq_t B n 108 s || sq_t B n 117 s then sq_V B n 0 7 (sq_b3 B n s) else 0
theorem sq_pt_l {B : Nat → Int32} {n : Nat} {s : sq_Q} (h : (sq_t B n 108 s || sq_t B n 117 s) = true) : sq_pt B n s = sq_b4 B n s ∧ sq_p1 B n s = sq_V B n 0 7 (sq_b1 s) ∧ sq_p2 B n s = sq_V B n 0 7 (sq_b3 B n s) := by
  unfold sq_pt sq_p1 sq_p2
  rw [if_pos h, if_pos h, if_pos h]
  exact ⟨rfl, rfl, rfl⟩
theorem sq_pt_y {B : Nat → Int32} {n : Nat} {s : sq_Q} (h : (sq_t B n 108 s || sq_t B n 117 s) = false) (h2 : sq_t B n 121 s = true) : sq_pt B n s = sq_b5 B n s ∧ sq_p1 B n s = sq_V B n 1 99 (sq_b1 s) ∧ sq_p2 B n s = 0 := by
  unfold sq_pt sq_p1 sq_p2
  rw [h, if_neg Bool.false_ne_true, if_neg Bool.false_ne_true, if_neg Bool.false_ne_true, if_pos h2, if_pos h2]
  exact ⟨rfl, rfl, rfl⟩
theorem sq_pt_d {B : Nat → Int32} {n : Nat} {s : sq_Q} (h : (sq_t B n 108 s || sq_t B n 117 s) = false) (h2 : sq_t B n 121 s = false) : sq_pt B n s = sq_b7 B n s ∧ sq_p1 B n s = sq_V B n 0 7 (sq_b6 B n s) ∧ sq_p2 B n s = 0 := by
  unfold sq_pt sq_p1 sq_p2
  rw [h, h2, if_neg Bool.false_ne_true, if_neg Bool.false_ne_true, if_neg Bool.false_ne_true, if_neg Bool.false_ne_true, if_neg Bool.false_ne_true]
  exact ⟨rfl, rfl, rfl⟩
theorem sq_pt_le {B : Nat → Int32} {n : Nat} {s : sq_Q} (hs : s.1 ≤ n) : (sq_pt B n s).1 ≤ n := by
  cases h : (sq_t B n 108 s || sq_t B n 117 s)
  · cases h2 : sq_t B n 121 s
    · rw [(sq_pt_d h h2).1]
      exact sq_R_le (by decide) (sq_N_le (by decide) hs)
    · rw [(sq_pt_y h h2).1]
      exact sq_R_le (by decide) (sq_t_y (c := 121) (by decide) h2).1
  · rw [(sq_pt_l h).1]
    have h1 : s.1 < n := ((Bool.or_eq_true _ _).mp h).elim (fun g => (sq_t_y (c := 108) (by decide) g).1) (fun g => (sq_t_y (c := 117) (by decide) g).1)
    exact sq_R_le (by decide) (sq_N_le (by decide) (sq_R_le (by decide) h1))
set_option maxRecDepth 100000 in
set_option maxHeartbeats 200000 in
theorem ct_X5_readPart (l : Launch) {S : sj_St} {x : Nat} {e : Nat → Nat} {n : Nat} {B : Nat → Int32} (h : sq_xl S x e n B) {s : sq_Q} {k q : Nat} {fn fk ff fs : Nat → Int32} (hs : s.1 ≤ n) (hq : q < 60) : sj_Ctr l mX5_readPart [.ref x] (sq_xs S x e s k q fn fk ff fs) (sj_eq none (sq_xs S x e (sq_pt B n s) k (q + 1) fn (upd fk q (sq_nx B n s)) (upd ff q (sq_p1 B n s)) (upd fs q (sq_p2 B n s)))) := by
  refine sj_start ([some (.ref x), none, none, none]) (by decide +kernel) rfl rfl (fun X hX C hR => ?_)
  subst hX
  obtain ⟨h1, hn, hB⟩ := id h.2.2.2.2.2.2.1
  have kd_x : ∀ {s : sq_Q} {k q : Nat} {fn fk ff fs : Nat → Int32}, sj_kd (sq_xs S x e s k q fn fk ff fs) x = some 5 := (sq_xl_xs h).1
  have rf_x_0 : ∀ {s : sq_Q} {k q : Nat} {fn fk ff fs : Nat → Int32}, sj_rf (sq_xs S x e s k q fn fk ff fs) x 0 = some (e 1) := (sq_xl_xs h).2.1.1
  have g1 : ∀ {s : sq_Q} {k q : Nat} {fn fk ff fs : Nat → Int32}, sj_rw (sq_xs S x e s k q fn fk ff fs) (e 1) (e 2) 60 := (sq_xl_xs h).2.1.2
  have kd_r1 : ∀ {s : sq_Q} {k q : Nat} {fn fk ff fs : Nat → Int32}, sj_kd (sq_xs S x e s k q fn fk ff fs) (e 1) = some 2 := g1.1
  have rf_x_4 : ∀ {s : sq_Q} {k q : Nat} {fn fk ff fs : Nat → Int32}, sj_rf (sq_xs S x e s k q fn fk ff fs) x 4 = some (e 3) := (sq_xl_xs h).2.2.1.1
  have g3 : ∀ {s : sq_Q} {k q : Nat} {fn fk ff fs : Nat → Int32}, sj_rw (sq_xs S x e s k q fn fk ff fs) (e 3) (e 4) 40 := (sq_xl_xs h).2.2.1.2
  have kd_r3 : ∀ {s : sq_Q} {k q : Nat} {fn fk ff fs : Nat → Int32}, sj_kd (sq_xs S x e s k q fn fk ff fs) (e 3) = some 2 := g3.1
  have rf_x_6 : ∀ {s : sq_Q} {k q : Nat} {fn fk ff fs : Nat → Int32}, sj_rf (sq_xs S x e s k q fn fk ff fs) x 6 = some (e 5) := (sq_xl_xs h).2.2.2.1.1
  have g5 : ∀ {s : sq_Q} {k q : Nat} {fn fk ff fs : Nat → Int32}, sj_rw (sq_xs S x e s k q fn fk ff fs) (e 5) (e 6) 60 := (sq_xl_xs h).2.2.2.1.2
  have kd_r5 : ∀ {s : sq_Q} {k q : Nat} {fn fk ff fs : Nat → Int32}, sj_kd (sq_xs S x e s k q fn fk ff fs) (e 5) = some 2 := g5.1
  have rf_x_7 : ∀ {s : sq_Q} {k q : Nat} {fn fk ff fs : Nat → Int32}, sj_rf (sq_xs S x e s k q fn fk ff fs) x 7 = some (e 7) := (sq_xl_xs h).2.2.2.2.1.1
  have g7 : ∀ {s : sq_Q} {k q : Nat} {fn fk ff fs : Nat → Int32}, sj_rw (sq_xs S x e s k q fn fk ff fs) (e 7) (e 8) 60 := (sq_xl_xs h).2.2.2.2.1.2
  have kd_r7 : ∀ {s : sq_Q} {k q : Nat} {fn fk ff fs : Nat → Int32}, sj_kd (sq_xs S x e s k q fn fk ff fs) (e 7) = some 2 := g7.1
  have rf_x_8 : ∀ {s : sq_Q} {k q : Nat} {fn fk ff fs : Nat → Int32}, sj_rf (sq_xs S x e s k q fn fk ff fs) x 8 = some (e 9) := (sq_xl_xs h).2.2.2.2.2.1.1
  have g9 : ∀ {s : sq_Q} {k q : Nat} {fn fk ff fs : Nat → Int32}, sj_rw (sq_xs S x e s k q fn fk ff fs) (e 9) (e 10) 60 := (sq_xl_xs h).2.2.2.2.2.1.2
  have kd_r9 : ∀ {s : sq_Q} {k q : Nat} {fn fk ff fs : Nat → Int32}, sj_kd (sq_xs S x e s k q fn fk ff fs) (e 9) = some 2 := g9.1
  have cut_86 : sj_G X (sq_xs S x e (sq_pt B n s) k q fn fk ff fs) 0 0 [some (.ref x), some (.int (sq_nx B n s)), some (.int (sq_p1 B n s)), some (.int (sq_p2 B n s))] 86 [] := by
    refine sj_aload_n C 87 rfl dX5_readPart_86 rfl rfl ?_
    refine sj_getr C 90 rfl fd_X5_23 dX5_readPart_87 kd_x rf_x_6 ?_
    refine sj_aload_n C 91 rfl dX5_readPart_90 rfl rfl ?_
    refine sj_getI C 94 rfl fd_X5_75 dX5_readPart_91 kd_x ?_
    rw [sq_x9]
    refine sj_iload_n C 95 rfl dX5_readPart_94 rfl rfl ?_
    refine sj_callVv C 98 rfl dX5_readPart_95 cv_X5_36 rfl (ct_X2_put _ g5 _ _) rfl rfl rfl ⟨_, _, kd_r5, rfl, rfl, by decide⟩ ⟨rfl, rfl⟩ ?_
    rw [sj_put_nI (by omega) (by omega), sj_wIa_eq, sq_a6 h, sq_z6 h]
    refine sj_aload_n C 99 rfl dX5_readPart_98 rfl rfl ?_
    refine sj_getr C 102 rfl fd_X5_26 dX5_readPart_99 kd_x rf_x_7 ?_
    refine sj_aload_n C 103 rfl dX5_readPart_102 rfl rfl ?_
    refine sj_getI C 106 rfl fd_X5_75 dX5_readPart_103 kd_x ?_
    rw [sq_x9]
    refine sj_iload_n C 107 rfl dX5_readPart_106 rfl rfl ?_
    refine sj_callVv C 110 rfl dX5_readPart_107 cv_X5_36 rfl (ct_X2_put _ g7 _ _) rfl rfl rfl ⟨_, _, kd_r7, rfl, rfl, by decide⟩ ⟨rfl, rfl⟩ ?_
    rw [sj_put_nI (by omega) (by omega), sj_wIa_eq, sq_a8 h, sq_z8 h]
    refine sj_aload_n C 111 rfl dX5_readPart_110 rfl rfl ?_
    refine sj_getr C 114 rfl fd_X5_29 dX5_readPart_111 kd_x rf_x_8 ?_
    refine sj_aload_n C 115 rfl dX5_readPart_114 rfl rfl ?_
    refine sj_getI C 118 rfl fd_X5_75 dX5_readPart_115 kd_x ?_
    rw [sq_x9]
    refine sj_iload_n C 119 rfl dX5_readPart_118 rfl rfl ?_
    refine sj_callVv C 122 rfl dX5_readPart_119 cv_X5_36 rfl (ct_X2_put _ g9 _ _) rfl rfl rfl ⟨_, _, kd_r9, rfl, rfl, by decide⟩ ⟨rfl, rfl⟩ ?_
    rw [sj_put_nI (by omega) (by omega), sj_wIa_eq, sq_a10, sq_z10]
    refine sj_aload_n C 123 rfl dX5_readPart_122 rfl rfl ?_
    refine sj_dup C 124 rfl dX5_readPart_123 rfl ?_
    refine sj_getI C 127 rfl fd_X5_75 dX5_readPart_124 kd_x ?_
    rw [sq_x9]
    refine sj_iconstv C (1) 128 rfl dX5_readPart_127 rfl ?_
    refine sj_iadd C 129 rfl dX5_readPart_128 ?_
    rw [nI_1]
    refine sj_putI C 132 rfl fd_X5_75 dX5_readPart_129 rfl rfl kd_x ?_
    rw [sq_y9]
    refine sj_vret C hR rfl rfl dX5_readPart_132 ?_
    exact ⟨rfl, rfl⟩
  have cut_27 : (sq_t B n 108 s || sq_t B n 117 s) = true → sj_G X (sq_xs S x e (sq_b1 s) k q fn fk ff fs) 0 0 [some (.ref x), some (.int (sq_nx B n s)), some (.int 0), some (.int 0)] 27 [] := by
    intro hl
    have h1s : (sq_b1 s).1 ≤ n := ((Bool.or_eq_true _ _).mp hl).elim (fun g => (sq_t_y (c := 108) (by decide) g).1) (fun g => (sq_t_y (c := 117) (by decide) g).1)
    refine sj_aload_n C 28 rfl dX5_readPart_27 rfl rfl ?_
    refine sj_iconstv C (0) 29 rfl dX5_readPart_28 rfl ?_
    refine sj_bipush C (7) 31 rfl dX5_readPart_29 (by decide) ?_
    refine sj_callVd C 34 rfl dX5_readPart_31 cv_X5_78 rfl (ct_X5_readNumber _ h h1s 0 7 (by decide)) rfl rfl rfl ⟨_, _, kd_x, rfl, rfl, by decide⟩ ⟨rfl, rfl⟩ ?_
    rw [show sq_R B n 0 7 (sq_b1 s) = sq_b2 B n s from rfl]
    refine sj_istore_n_2 C 35 rfl dX5_readPart_34 rfl rfl ?_
    refine sj_aload_n C 36 rfl dX5_readPart_35 rfl rfl ?_
    refine sj_bipush C (47) 38 rfl dX5_readPart_36 (by decide) ?_
    refine sj_callVv C 41 rfl dX5_readPart_38 cv_X5_82 rfl (ct_X5_need _ h (s := sq_b2 B n s) (sq_R_le (by decide) h1s) 47) rfl rfl rfl ⟨_, _, kd_x, rfl, rfl, by decide⟩ ⟨rfl, rfl⟩ ?_
    rw [show sq_N B n 47 (sq_b2 B n s) = sq_b3 B n s from rfl]
    refine sj_aload_n C 42 rfl dX5_readPart_41 rfl rfl ?_
    refine sj_iconstv C (0) 43 rfl dX5_readPart_42 rfl ?_
    refine sj_bipush C (7) 45 rfl dX5_readPart_43 (by decide) ?_
    refine sj_callVd C 48 rfl dX5_readPart_45 cv_X5_78 rfl (ct_X5_readNumber _ h (s := sq_b3 B n s) (sq_N_le (by decide) (sq_R_le (by decide) h1s)) 0 7 (by decide)) rfl rfl rfl ⟨_, _, kd_x, rfl, rfl, by decide⟩ ⟨rfl, rfl⟩ ?_
    rw [show sq_R B n 0 7 (sq_b3 B n s) = sq_b4 B n s from rfl]
    refine sj_istore_n_3 C 49 rfl dX5_readPart_48 rfl rfl ?_
    refine sj_goto C 86 rfl dX5_readPart_49 ?_
    have c8 := cut_86
    rw [(sq_pt_l hl).1, (sq_pt_l hl).2.1, (sq_pt_l hl).2.2] at c8
    exact c8
  refine sj_aload_n C 1 rfl dX5_readPart_0 rfl rfl ?_
  refine sj_callVd C 4 rfl dX5_readPart_1 cv_X5_85 rfl (ct_X5_codeHere _ h hs) rfl rfl rfl ⟨_, _, kd_x, rfl, rfl, by decide⟩ ⟨rfl, rfl⟩ ?_
  refine sj_istore_n_1 C 5 rfl dX5_readPart_4 rfl rfl ?_
  refine sj_iconstv C (0) 6 rfl dX5_readPart_5 rfl ?_
  refine sj_istore_n_2 C 7 rfl dX5_readPart_6 rfl rfl ?_
  refine sj_iconstv C (0) 8 rfl dX5_readPart_7 rfl ?_
  refine sj_istore_n_3 C 9 rfl dX5_readPart_8 rfl rfl ?_
  refine sj_aload_n C 10 rfl dX5_readPart_9 rfl rfl ?_
  refine sj_bipush C (108) 12 rfl dX5_readPart_10 (by decide) ?_
  refine sj_callVd C 15 rfl dX5_readPart_12 cv_X5_54 rfl (ct_X5_skip _ h hs 108) rfl rfl rfl ⟨_, _, kd_x, rfl, rfl, by decide⟩ ⟨rfl, rfl⟩ ?_
  refine sj_if_ne C 27 18 rfl rfl dX5_readPart_15 (fun c_15 => ?_) (fun c_15 => ?_)
  · rw [sq_S_y (sj_bin.mp c_15)]
    exact cut_27 (by rw [sj_bin.mp c_15, Bool.true_or])
  · refine sj_aload_n C 19 rfl dX5_readPart_18 rfl rfl ?_
    refine sj_bipush C (117) 21 rfl dX5_readPart_19 (by decide) ?_
    refine sj_callVd C 24 rfl dX5_readPart_21 cv_X5_54 rfl (ct_X5_skip _ h (sq_S_le (by decide) hs) 117) rfl rfl rfl ⟨_, _, kd_x, rfl, rfl, by decide⟩ ⟨rfl, rfl⟩ ?_
    refine sj_if_eq C 52 27 rfl rfl dX5_readPart_24 (fun c_24 => ?_) (fun c_24 => ?_)
    · rw [sq_S_n (sj_bi0.mp c_15)] at c_24 ⊢
      rw [sq_S_n (sj_bi0.mp c_24)]
      have hno : (sq_t B n 108 s || sq_t B n 117 s) = false := by rw [sj_bi0.mp c_15, sj_bi0.mp c_24]; rfl
      refine sj_aload_n C 53 rfl dX5_readPart_52 rfl rfl ?_
      refine sj_bipush C (121) 55 rfl dX5_readPart_53 (by decide) ?_
      refine sj_callVd C 58 rfl dX5_readPart_55 cv_X5_54 rfl (ct_X5_skip _ h hs 121) rfl rfl rfl ⟨_, _, kd_x, rfl, rfl, by decide⟩ ⟨rfl, rfl⟩ ?_
      refine sj_if_eq C 72 61 rfl rfl dX5_readPart_58 (fun c_58 => ?_) (fun c_58 => ?_)
      · rw [sq_S_n (sj_bi0.mp c_58)]
        refine sj_aload_n C 73 rfl dX5_readPart_72 rfl rfl ?_
        refine sj_bipush C (100) 75 rfl dX5_readPart_73 (by decide) ?_
        refine sj_callVv C 78 rfl dX5_readPart_75 cv_X5_82 rfl (ct_X5_need _ h hs 100) rfl rfl rfl ⟨_, _, kd_x, rfl, rfl, by decide⟩ ⟨rfl, rfl⟩ ?_
        rw [show sq_N B n 100 s = sq_b6 B n s from rfl]
        refine sj_aload_n C 79 rfl dX5_readPart_78 rfl rfl ?_
        refine sj_iconstv C (0) 80 rfl dX5_readPart_79 rfl ?_
        refine sj_bipush C (7) 82 rfl dX5_readPart_80 (by decide) ?_
        refine sj_callVd C 85 rfl dX5_readPart_82 cv_X5_78 rfl (ct_X5_readNumber _ h (s := sq_b6 B n s) (sq_N_le (by decide) hs) 0 7 (by decide)) rfl rfl rfl ⟨_, _, kd_x, rfl, rfl, by decide⟩ ⟨rfl, rfl⟩ ?_
        rw [show sq_R B n 0 7 (sq_b6 B n s) = sq_b7 B n s from rfl]
        refine sj_istore_n_2 C 86 rfl dX5_readPart_85 rfl rfl ?_
        have c8 := cut_86
        rw [(sq_pt_d hno (sj_bi0.mp c_58)).1, (sq_pt_d hno (sj_bi0.mp c_58)).2.1, (sq_pt_d hno (sj_bi0.mp c_58)).2.2] at c8
        exact c8
      · rw [sq_S_y (sj_bin.mp c_58), show (s.1 + 1, s.2) = sq_b1 s from rfl]
        refine sj_aload_n C 62 rfl dX5_readPart_61 rfl rfl ?_
        refine sj_iconstv C (1) 63 rfl dX5_readPart_62 rfl ?_
        refine sj_bipush C (99) 65 rfl dX5_readPart_63 (by decide) ?_
        refine sj_callVd C 68 rfl dX5_readPart_65 cv_X5_78 rfl (ct_X5_readNumber _ h (s := sq_b1 s) (sq_t_y (c := 121) (by decide) (sj_bin.mp c_58)).1 1 99 (by decide)) rfl rfl rfl ⟨_, _, kd_x, rfl, rfl, by decide⟩ ⟨rfl, rfl⟩ ?_
        rw [show sq_R B n 1 99 (sq_b1 s) = sq_b5 B n s from rfl]
        refine sj_istore_n_2 C 69 rfl dX5_readPart_68 rfl rfl ?_
        refine sj_goto C 86 rfl dX5_readPart_69 ?_
        have c8 := cut_86
        rw [(sq_pt_y hno (sj_bin.mp c_58)).1, (sq_pt_y hno (sj_bin.mp c_58)).2.1, (sq_pt_y hno (sj_bin.mp c_58)).2.2] at c8
        exact c8
    · rw [sq_S_n (sj_bi0.mp c_15)] at c_24 ⊢
      rw [sq_S_y (sj_bin.mp c_24)]
      exact cut_27 (by rw [sj_bin.mp c_24, Bool.or_true])
/-- the parts behind the q-th, as far as they go -/
abbrev sq_R4 : Type := sq_Q × Nat × (Nat → Int32) × (Nat → Int32) × (Nat → Int32)
def sq_wd (B : Nat → Int32) (n : Nat) : Nat → sq_Q → Nat → (Nat → Int32) → (Nat → Int32) → (Nat → Int32) → sq_R4
  | 0, s, q, a, b, c => (s, q, a, b, c)
  | j + 1, s, q, a, b, c => if sq_t B n 59 s then sq_wd B n j (sq_pt B n (sq_S B n 59 s)) (q + 1) (upd a q (sq_nx B n (sq_S B n 59 s))) (upd b q (sq_p1 B n (sq_S B n 59 s))) (upd c q (sq_p2 B n (sq_S B n 59 s))) else (s, q, a, b, c)
def sq_ws (B : Nat → Int32) (n : Nat) (a b c : Nat → Int32) : sq_R4 := sq_wd B n 59 (sq_pt B n (0, false)) 1 (upd a 0 (sq_nx B n (0, false))) (upd b 0 (sq_p1 B n (0, false))) (upd c 0 (sq_p2 B n (0, false)))
def sq_xw (S : sj_St) (x : Nat) (e : Nat → Nat) (r : sq_R4) (fn : Nat → Int32) : sj_St := sq_xs S x e r.1 0 r.2.1 fn r.2.2.1 r.2.2.2.1 r.2.2.2.2
theorem sq_wd_y {B : Nat → Int32} {n j q : Nat} {s : sq_Q} {a b c : Nat → Int32} (h : sq_t B n 59 s = true) : sq_wd B n (j + 1) s q a b c = sq_wd B n j (sq_pt B n (sq_S B n 59 s)) (q + 1) (upd a q (sq_nx B n (sq_S B n 59 s))) (upd b q (sq_p1 B n (sq_S B n 59 s))) (upd c q (sq_p2 B n (sq_S B n 59 s))) := if_pos h
theorem sq_wd_n {B : Nat → Int32} {n j q : Nat} {s : sq_Q} {a b c : Nat → Int32} (h : sq_t B n 59 s = false) : sq_wd B n (j + 1) s q a b c = (s, q, a, b, c) := if_neg (by rw [h]; exact Bool.false_ne_true)
set_option maxRecDepth 100000 in
set_option maxHeartbeats 150000 in
theorem ct_X5_readWorks (l : Launch) {S : sj_St} {x : Nat} {e : Nat → Nat} {n : Nat} {B : Nat → Int32} (h : sq_xl S x e n B) : sj_Ctr l mX5_readWorks [.ref x] S (sj_eq (some (.int (sj_bi (sq_ok n (sq_ws B n (sj_ia S (e 6)) (sj_ia S (e 8)) (sj_ia S (e 10))).1)))) (sq_xw S x e (sq_ws B n (sj_ia S (e 6)) (sj_ia S (e 8)) (sj_ia S (e 10))) (sj_ia S (e 4)))) := by
  refine sj_start ([some (.ref x), none]) (by decide +kernel) rfl rfl (fun X hX C hR => ?_)
  subst hX
  have kd_x9 : ∀ {s : sq_Q} {k q : Nat} {fn fk ff fs : Nat → Int32}, sj_kd (sq_xs S x e s k q fn fk ff fs) x = some 5 := (sq_xl_xs h).1
  have kd_x := h.1
  have kd_x0 := kd_x
  clear kd_x
  have kd_x := @kd_x9
  have cut_35 : ∀ (s : sq_Q) (q : Nat) (a b c : Nat → Int32), s.1 ≤ n → (s, q, a, b, c) = (sq_ws B n (sj_ia S (e 6)) (sj_ia S (e 8)) (sj_ia S (e 10))) → ∀ (o1 : Option Value) T, T = (sq_xs S x e s 0 q (sj_ia S (e 4)) a b c) → sj_G X T 0 0 [some (.ref x), o1] 35 [] := by
    intro s q a b c hs hr o1 T hT
    subst hT
    refine sj_aload_n C 36 rfl dX5_readWorks_35 rfl rfl ?_
    refine sj_callVd C 39 rfl dX5_readWorks_36 cv_X5_58 rfl (ct_X5_isComplete _ h hs) rfl rfl rfl ⟨_, _, kd_x, rfl, rfl, by decide⟩ ⟨rfl, rfl⟩ ?_
    refine sj_zret C hR rfl (sj_binar _) rfl dX5_readWorks_39 ?_
    rw [← hr]
    exact ⟨rfl, rfl⟩
  have cut_10 : ∀ (s : sq_Q) (a b c : Nat → Int32), s.1 ≤ n → sq_wd B n (60 - (1)) s (1) a b c = (sq_ws B n (sj_ia S (e 6)) (sj_ia S (e 8)) (sj_ia S (e 10))) → ∀ T, T = (sq_xs S x e s 0 (1) (sj_ia S (e 4)) a b c) → sj_G X T 0 0 [some (.ref x), some (.int (nI (1)))] 10 [] := by
    refine sj_downFrom (fun q => ∀ (s : sq_Q) (a b c : Nat → Int32), s.1 ≤ n → sq_wd B n (60 - (q)) s (q) a b c = (sq_ws B n (sj_ia S (e 6)) (sj_ia S (e 8)) (sj_ia S (e 10))) → ∀ T, T = (sq_xs S x e s 0 (q) (sj_ia S (e 4)) a b c) → sj_G X T 0 0 [some (.ref x), some (.int (nI (q)))] 10 []) 1 60 (by omega) (fun q h1k hk ih => ?_)
    intro s a b c hs hr T hT
    subst hT
    refine sj_iload_n C 11 rfl dX5_readWorks_10 rfl rfl ?_
    refine sj_bipush C (60) 13 rfl dX5_readWorks_11 (by decide) ?_
    refine sj_icmp_ge C 35 16 rfl rfl dX5_readWorks_13 (fun c_13 => ?_) (fun c_13 => ?_)
    · have hk8 : q = 60 := by
        have h8 : ¬ q < 60 := fun h7 => nI_ge (b := 60) h7 (by omega) c_13
        omega
      subst hk8
      exact cut_35 _ _ _ _ _ hs hr _ _ rfl
    · have hlt : q < 60 := Nat.not_le.mp fun h8 => c_13 (nI_le (a := 60) h8 (by omega))
      refine sj_aload_n C 17 rfl dX5_readWorks_16 rfl rfl ?_
      refine sj_bipush C (59) 19 rfl dX5_readWorks_17 (by decide) ?_
      refine sj_callVd C 22 rfl dX5_readWorks_19 cv_X5_54 rfl (ct_X5_skip _ h hs 59) rfl rfl rfl ⟨_, _, kd_x, rfl, rfl, by decide⟩ ⟨rfl, rfl⟩ ?_
      refine sj_if_eq C 35 25 rfl rfl dX5_readWorks_22 (fun c_22 => ?_) (fun c_22 => ?_)
      · have et := sj_bi0.mp c_22
        obtain ⟨j, hj⟩ : ∃ j, 60 - q = j + 1 := ⟨59 - q, by omega⟩
        rw [hj] at hr
        rw [sq_wd_n et] at hr
        rw [sq_S_n et]
        exact cut_35 _ _ _ _ _ hs hr _ _ rfl
      · refine sj_aload_n C 26 rfl dX5_readWorks_25 rfl rfl ?_
        refine sj_callVv C 29 rfl dX5_readWorks_26 cv_X5_62 rfl (ct_X5_readPart _ h (sq_S_le (by decide) hs) (q := q) hlt) rfl rfl rfl ⟨_, _, kd_x, rfl, rfl, by decide⟩ ⟨rfl, rfl⟩ ?_
        refine sj_iinc_1 C 32 rfl dX5_readWorks_29 rfl rfl ?_
        refine sj_goto C 10 rfl dX5_readWorks_32 ?_
        have et := sj_bin.mp c_22
        obtain ⟨j, hj⟩ : ∃ j, 60 - q = j + 1 := ⟨59 - q, by omega⟩
        rw [hj] at hr
        rw [sq_wd_y et] at hr
        rw [sj_n1]
        exact ih hlt _ _ _ _ (sq_pt_le (sq_S_le (by decide) hs)) (by rw [show 60 - (q + 1) = j by omega]; exact hr) _ rfl
  have kd_x := kd_x0
  refine sj_aload_n C 1 rfl dX5_readWorks_0 rfl rfl ?_
  refine sj_callVv C 4 rfl dX5_readWorks_1 cv_X5_48 rfl (ct_X5_begin _ h) rfl rfl rfl ⟨_, _, kd_x, rfl, rfl, by decide⟩ ⟨rfl, rfl⟩ ?_
  have kd_x := @kd_x9
  refine sj_aload_n C 5 rfl dX5_readWorks_4 rfl rfl ?_
  refine sj_callVv C 8 rfl dX5_readWorks_5 cv_X5_62 rfl (ct_X5_readPart _ h (Nat.zero_le _) (q := 0) (by omega)) rfl rfl rfl ⟨_, _, kd_x, rfl, rfl, by decide⟩ ⟨rfl, rfl⟩ ?_
  rw [Nat.zero_add]
  refine sj_iconstv C (1) 9 rfl dX5_readWorks_8 rfl ?_
  refine sj_istore_n_1 C 10 rfl dX5_readWorks_9 rfl rfl ?_
  exact cut_10 _ _ _ _ (sq_pt_le (Nat.zero_le _)) rfl _ rfl
