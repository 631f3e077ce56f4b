/-! THE CLASS: sheets and works as texts -/
/-- a sheet's strokes behind the k-th, as far as they go -/
def sq_rd (B : Nat → Int32) (n : Nat) : Nat → sq_Q → Nat → (Nat → Int32) → sq_Q × Nat × (Nat → Int32)
  | 0, s, k, f => (s, k, f)
  | j + 1, s, k, f => if sq_t B n 44 s then sq_rd B n j (sq_u9 B n (sq_S B n 44 s)) (k + 1) (sj_wst f k (sq_w5 B n (sq_S B n 44 s))) else (s, k, f)
def sq_rs (B : Nat → Int32) (n : Nat) (f : Nat → Int32) : sq_Q × Nat × (Nat → Int32) := sq_rd B n 7 (sq_u9 B n (0, false)) 1 (sj_wst f 0 (sq_w5 B n (0, false)))
def sq_ok (n : Nat) (s : sq_Q) : Bool := !s.2 && decide (s.1 = n)
def sq_xr (S : sj_St) (x : Nat) (e : Nat → Nat) (r : sq_Q × Nat × (Nat → Int32)) (q : Nat) (fk ff fs : Nat → Int32) : sj_St := sq_xs S x e r.1 r.2.1 q r.2.2 fk ff fs
theorem sq_S_n {B : Nat → Int32} {n : Nat} {c : Int32} {s : sq_Q} (h : sq_t B n c s = false) : sq_S B n c s = s := by
  unfold sq_S
  rw [if_neg (by rw [h]; exact Bool.false_ne_true)]
theorem sq_S_y {B : Nat → Int32} {n : Nat} {c : Int32} {s : sq_Q} (h : sq_t B n c s = true) : sq_S B n c s = (s.1 + 1, s.2) := by
  unfold sq_S
  rw [if_pos h]
theorem sq_rd_y {B : Nat → Int32} {n j k : Nat} {s : sq_Q} {f : Nat → Int32} (h : sq_t B n 44 s = true) : sq_rd B n (j + 1) s k f = sq_rd B n j (sq_u9 B n (sq_S B n 44 s)) (k + 1) (sj_wst f k (sq_w5 B n (sq_S B n 44 s))) := if_pos h
theorem sq_rd_n {B : Nat → Int32} {n j k : Nat} {s : sq_Q} {f : Nat → Int32} (h : sq_t B n 44 s = false) : sq_rd B n (j + 1) s k f = (s, k, f) := if_neg (by rw [h]; exact Bool.false_ne_true)
set_option maxRecDepth 100000 in
set_option maxHeartbeats 150000 in
theorem ct_X5_readSheet (l : Launch) {S : sj_St} {x : Nat} {e : Nat → Nat} {n : Nat} {B : Nat → Int32} (h : sq_xl S x e n B) : sj_Ctr l mX5_readSheet [.ref x] S (sj_eq (some (.int (sj_bi (sq_ok n (sq_rs B n (sj_ia S (e 4))).1)))) (sq_xr S x e (sq_rs B n (sj_ia S (e 4))) 0 (sj_ia S (e 6)) (sj_ia S (e 8)) (sj_ia S (e 10)))) := by
  refine sj_start ([some (.ref x), none]) (by decide +kernel) rfl rfl (fun X hX C hR => ?_)
  subst hX
  have kd_x9 : ∀ {s : sq_Q} {k q : Nat} {fn fk ff fs : Nat → Int32}, sj_kd (sq_xs S x e s k q fn fk ff fs) x = some 5 := (sq_xl_xs h).1
  have kd_x := h.1
  have kd_x0 := kd_x
  clear kd_x
  have kd_x := @kd_x9
  have cut_35 : ∀ (s : sq_Q) (k : Nat) (f : Nat → Int32), s.1 ≤ n → (s, k, f) = sq_rs B n (sj_ia S (e 4)) → ∀ (o1 : Option Value) T, T = (sq_xs S x e s k 0 f (sj_ia S (e 6)) (sj_ia S (e 8)) (sj_ia S (e 10))) → sj_G X T 0 0 [some (.ref x), o1] 35 [] := by
    intro s k f hs hr o1 T hT
    subst hT
    refine sj_aload_n C 36 rfl dX5_readSheet_35 rfl rfl ?_
    refine sj_callVd C 39 rfl dX5_readSheet_36 cv_X5_58 rfl (ct_X5_isComplete _ h hs) rfl rfl rfl ⟨_, _, kd_x, rfl, rfl, by decide⟩ ⟨rfl, rfl⟩ ?_
    refine sj_zret C hR rfl (sj_binar _) rfl dX5_readSheet_39 ?_
    rw [← hr]
    exact ⟨rfl, rfl⟩
  have cut_10 : ∀ (s : sq_Q) (f : Nat → Int32), s.1 ≤ n → sq_rd B n (8 - (1)) s (1) f = sq_rs B n (sj_ia S (e 4)) → ∀ T, T = (sq_xs S x e s (1) 0 f (sj_ia S (e 6)) (sj_ia S (e 8)) (sj_ia S (e 10))) → sj_G X T 0 0 [some (.ref x), some (.int (nI (1)))] 10 [] := by
    refine sj_downFrom (fun k => ∀ (s : sq_Q) (f : Nat → Int32), s.1 ≤ n → sq_rd B n (8 - (k)) s (k) f = sq_rs B n (sj_ia S (e 4)) → ∀ T, T = (sq_xs S x e s (k) 0 f (sj_ia S (e 6)) (sj_ia S (e 8)) (sj_ia S (e 10))) → sj_G X T 0 0 [some (.ref x), some (.int (nI (k)))] 10 []) 1 8 (by omega) (fun k h1k hk ih => ?_)
    intro s f hs hr T hT
    subst hT
    refine sj_iload_n C 11 rfl dX5_readSheet_10 rfl rfl ?_
    refine sj_bipush C (8) 13 rfl dX5_readSheet_11 (by decide) ?_
    refine sj_icmp_ge C 35 16 rfl rfl dX5_readSheet_13 (fun c_13 => ?_) (fun c_13 => ?_)
    · have hk8 : k = 8 := by
        have h8 : ¬ k < 8 := fun h7 => nI_ge (b := 8) h7 (by omega) c_13
        omega
      subst hk8
      exact cut_35 _ _ _ hs hr _ _ rfl
    · have hlt : k < 8 := Nat.not_le.mp fun h8 => c_13 (nI_le (a := 8) h8 (by omega))
      refine sj_aload_n C 17 rfl dX5_readSheet_16 rfl rfl ?_
      refine sj_bipush C (44) 19 rfl dX5_readSheet_17 (by decide) ?_
      refine sj_callVd C 22 rfl dX5_readSheet_19 cv_X5_54 rfl (ct_X5_skip _ h hs 44) rfl rfl rfl ⟨_, _, kd_x, rfl, rfl, by decide⟩ ⟨rfl, rfl⟩ ?_
      refine sj_if_eq C 35 25 rfl rfl dX5_readSheet_22 (fun c_22 => ?_) (fun c_22 => ?_)
      · have et := sj_bi0.mp c_22
        obtain ⟨j, hj⟩ : ∃ j, 8 - k = j + 1 := ⟨7 - k, by omega⟩
        rw [hj] at hr
        rw [sq_rd_n et] at hr
        rw [sq_S_n et]
        exact cut_35 _ _ _ hs hr _ _ rfl
      · refine sj_aload_n C 26 rfl dX5_readSheet_25 rfl rfl ?_
        refine sj_callVv C 29 rfl dX5_readSheet_26 cv_X5_51 rfl (ct_X5_readStroke _ h (sq_S_le (by decide) hs) (k := k) hlt) rfl rfl rfl ⟨_, _, kd_x, rfl, rfl, by decide⟩ ⟨rfl, rfl⟩ ?_
        refine sj_iinc_1 C 32 rfl dX5_readSheet_29 rfl rfl ?_
        refine sj_goto C 10 rfl dX5_readSheet_32 ?_
        have et := sj_bin.mp c_22
        obtain ⟨j, hj⟩ : ∃ j, 8 - k = j + 1 := ⟨7 - k, by omega⟩
        rw [hj] at hr
        rw [sq_rd_y et] at hr
        rw [sj_n1]
        exact ih hlt _ _ (sq_l9 (sq_S_le (by decide) hs)) (by rw [show 8 - (k + 1) = j by omega]; exact hr) _ rfl
  have kd_x := kd_x0
  refine sj_aload_n C 1 rfl dX5_readSheet_0 rfl rfl ?_
  refine sj_callVv C 4 rfl dX5_readSheet_1 cv_X5_48 rfl (ct_X5_begin _ h) rfl rfl rfl ⟨_, _, kd_x, rfl, rfl, by decide⟩ ⟨rfl, rfl⟩ ?_
  have kd_x := @kd_x9
  refine sj_aload_n C 5 rfl dX5_readSheet_4 rfl rfl ?_
  refine sj_callVv C 8 rfl dX5_readSheet_5 cv_X5_51 rfl (ct_X5_readStroke _ h (Nat.zero_le _) (k := 0) (by omega)) rfl rfl rfl ⟨_, _, kd_x, rfl, rfl, by decide⟩ ⟨rfl, rfl⟩ ?_
  rw [Nat.zero_add]
  refine sj_iconstv C (1) 9 rfl dX5_readSheet_8 rfl ?_
  refine sj_istore_n_1 C 10 rfl dX5_readSheet_9 rfl rfl ?_
  exact cut_10 _ _ (sq_l9 (Nat.zero_le _)) rfl _ rfl
/-- a part: where the reading stands behind it, its numbers -/
def sq_b1 (s : sq_Q) : sq_Q := (s.1 + 1, s.2)
def sq_b2 (B : Nat → Int32) (n : Nat) (s : sq_Q) : sq_Q := sq_R B n 0 7 (sq_b1 s)
def sq_b3 (B : Nat → Int32) (n : Nat) (s : sq_Q) : sq_Q := sq_N B n 47 (sq_b2 B n s)
def sq_b4 (B : Nat → Int32) (n : Nat) (s : sq_Q) : sq_Q := sq_R B n 0 7 (sq_b3 B n s)
def sq_b5 (B : Nat → Int32) (n : Nat) (s : sq_Q) : sq_Q := sq_R B n 1 99 (sq_b1 s)
def sq_b6 (B : Nat → Int32) (n : Nat) (s : sq_Q) : sq_Q := sq_N B n 100 s
def sq_b7 (B : Nat → Int32) (n : Nat) (s : sq_Q) : sq_Q := sq_R B n 0 7 (sq_b6 B n s)
def sq_pt (B : Nat → Int32) (n : Nat) (s : sq_Q) : sq_Q := if sq_t B n 108 s || sq_t B n 117 s then sq_b4 B n s else if sq_t B n 121 s then sq_b5 B n s else sq_b7 B n s
def sq_p1 (B : Nat → Int32) (n : Nat) (s : sq_Q) : Int32 := if sq_t B n 108 s || sq_t B n 117 s then sq_V B n 0 7 (sq_b1 s) else if sq_t B n 121 s then sq_V B n 1 99 (sq_b1 s) else sq_V B n 0 7 (sq_b6 B n s)
def sq_p2 (B : Nat → Int32) (n : Nat) (s : sq_Q) : Int32 := if sq_t B n 108 s || sq_t B n 117 s then sq_V B n 0 7 (sq_b3 B n s) else 0
theorem sq_pt_l {B : Nat → Int32} {n : Nat} {s : sq_Q} (h : (sq_t B n 108 s || sq_t B n 117 s) = true) : sq_pt B n s = sq_b4 B n s ∧ sq_p1 B n s = sq_V B n 0 7 (sq_b1 s) ∧ sq_p2 B n s = sq_V B n 0 7 (sq_b3 B n s) := by
  unfold sq_pt sq_p1 sq_p2
  rw [if_pos h, if_pos h, if_pos h]
  exact ⟨rfl, rfl, rfl⟩
theorem sq_pt_y {B : Nat → Int32} {n : Nat} {s : sq_Q} (h : (sq_t B n 108 s || sq_t B n 117 s) = false) (h2 : sq_t B n 121 s = true) : sq_pt B n s = sq_b5 B n s ∧ sq_p1 B n s = sq_V B n 1 99 (sq_b1 s) ∧ sq_p2 B n s = 0 := by
  unfold sq_pt sq_p1 sq_p2
  rw [h, if_neg Bool.false_ne_true, if_neg Bool.false_ne_true, if_neg Bool.false_ne_true, if_pos h2, if_pos h2]
  exact ⟨rfl, rfl, rfl⟩
theorem sq_pt_d {B : Nat → Int32} {n : Nat} {s : sq_Q} (h : (sq_t B n 108 s || sq_t B n 117 s) = false) (h2 : sq_t B n 121 s = false) : sq_pt B n s = sq_b7 B n s ∧ sq_p1 B n s = sq_V B n 0 7 (sq_b6 B n s) ∧ sq_p2 B n s = 0 := by
  unfold sq_pt sq_p1 sq_p2
  rw [h, h2, if_neg Bool.false_ne_true, if_neg Bool.false_ne_true, if_neg Bool.false_ne_true, if_neg Bool.false_ne_true, if_neg Bool.false_ne_true]
  exact ⟨rfl, rfl, rfl⟩
theorem sq_pt_le {B : Nat → Int32} {n : Nat} {s : sq_Q} (hs : s.1 ≤ n) : (sq_pt B n s).1 ≤ n := by
  cases h : (sq_t B n 108 s || sq_t B n 117 s)
  · cases h2 : sq_t B n 121 s
    · rw [(sq_pt_d h h2).1]
      exact sq_R_le (by decide) (sq_N_le (by decide) hs)
    · rw [(sq_pt_y h h2).1]
      exact sq_R_le (by decide) (sq_t_y (c := 121) (by decide) h2).1
  · rw [(sq_pt_l h).1]
    have h1 : s.1 < n := ((Bool.or_eq_true _ _).mp h).elim (fun g => (sq_t_y (c := 108) (by decide) g).1) (fun g => (sq_t_y (c := 117) (by decide) g).1)
    exact sq_R_le (by decide) (sq_N_le (by decide) (sq_R_le (by decide) h1))
/-- the parts behind the q-th, as far as they go -/
abbrev sq_R4 : Type := sq_Q × Nat × (Nat → Int32) × (Nat → Int32) × (Nat → Int32)
def sq_wd (B : Nat → Int32) (n : Nat) : Nat → sq_Q → Nat → (Nat → Int32) → (Nat → Int32) → (Nat → Int32) → sq_R4
  | 0, s, q, a, b, c => (s, q, a, b, c)
  | j + 1, s, q, a, b, c => if sq_t B n 59 s then sq_wd B n j (sq_pt B n (sq_S B n 59 s)) (q + 1) (upd a q (sq_nx B n (sq_S B n 59 s))) (upd b q (sq_p1 B n (sq_S B n 59 s))) (upd c q (sq_p2 B n (sq_S B n 59 s))) else (s, q, a, b, c)
def sq_ws (B : Nat → Int32) (n : Nat) (a b c : Nat → Int32) : sq_R4 := sq_wd B n 59 (sq_pt B n (0, false)) 1 (upd a 0 (sq_nx B n (0, false))) (upd b 0 (sq_p1 B n (0, false))) (upd c 0 (sq_p2 B n (0, false)))
def sq_xw (S : sj_St) (x : Nat) (e : Nat → Nat) (r : sq_R4) (fn : Nat → Int32) : sj_St := sq_xs S x e r.1 0 r.2.1 fn r.2.2.1 r.2.2.2.1 r.2.2.2.2
theorem sq_wd_y {B : Nat → Int32} {n j q : Nat} {s : sq_Q} {a b c : Nat → Int32} (h : sq_t B n 59 s = true) : sq_wd B n (j + 1) s q a b c = sq_wd B n j (sq_pt B n (sq_S B n 59 s)) (q + 1) (upd a q (sq_nx B n (sq_S B n 59 s))) (upd b q (sq_p1 B n (sq_S B n 59 s))) (upd c q (sq_p2 B n (sq_S B n 59 s))) := if_pos h
theorem sq_wd_n {B : Nat → Int32} {n j q : Nat} {s : sq_Q} {a b c : Nat → Int32} (h : sq_t B n 59 s = false) : sq_wd B n (j + 1) s q a b c = (s, q, a, b, c) := if_neg (by rw [h]; exact Bool.false_ne_true)
