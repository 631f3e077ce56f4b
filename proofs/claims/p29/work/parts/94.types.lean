/-! THE LAW: a sheet's text -/
/-- a number, as it is written -/
def sp_num (v : Nat) : List Nat := if 9 < v then [48 + v / 10, 48 + v % 10] else [48 + v % 10]
theorem sp_num_y {v : Nat} (h : 9 < v) : sp_num v = [48 + v / 10, 48 + v % 10] := if_pos h
theorem sp_num_n {v : Nat} (h : ¬ 9 < v) : sp_num v = [48 + v % 10] := if_neg h
theorem sp_num_len (v : Nat) : (sp_num v).length ≤ 2 := by
  by_cases h : 9 < v
  · rw [sp_num_y h]
    exact Nat.le_refl 2
  · rw [sp_num_n h]
    exact Nat.le_succ 1
def sp_opt (b : Prop) [Decidable b] (l : List Nat) : List Nat := if b then l else []
def sp_s3 (x3 x4 : Nat) : List Nat := sp_num x3 ++ sp_opt (0 < x4) (126 :: sp_num x4)
def sp_s2 (x1 x2 x3 x4 : Nat) : List Nat := sp_num x1 ++ (sp_opt (0 < x2) [111] ++ (112 :: sp_s3 x3 x4))
/-- a stroke: slant and 45, height, loop, pressure, shake -/
abbrev sp_X5 : Type := Nat × Nat × Nat × Nat × Nat
def sp_ab (x : Nat) : Nat := if x < 45 then 45 - x else x - 45
def sp_stk (x : sp_X5) : List Nat := sp_opt (x.1 < 45) [45] ++ (sp_num (sp_ab x.1) ++ (58 :: sp_s2 x.2.1 x.2.2.1 x.2.2.2.1 x.2.2.2.2))
/-- what stands from p on -/
def sp_at (B : Nat → Int32) (n p : Nat) (L : List Nat) : Prop := ∀ d, sj_nx B n (p + d) = nI (L.getD d 0)
theorem sp_at_r {B : Nat → Int32} {n p : Nat} {A R : List Nat} (h : sp_at B n p (A ++ R)) : sp_at B n (p + A.length) R := fun d => by
  rw [Nat.add_assoc, h (A.length + d)]
  congr 1
  rw [List.getD_eq_getElem?_getD, List.getD_eq_getElem?_getD, List.getElem?_append_right (Nat.le_add_right _ _), Nat.add_sub_cancel_left]
theorem sp_at_t {B : Nat → Int32} {n p c : Nat} {R : List Nat} (h : sp_at B n p (c :: R)) : sp_at B n (p + 1) R := sp_at_r (A := [c]) h
theorem sp_at_h {B : Nat → Int32} {n p c : Nat} {R : List Nat} (h : sp_at B n p (c :: R)) : sj_nx B n p = nI c := h 0
theorem sp_nz {a b : Nat} (ha : a < 1000) (hb : b < 1000) (h : a ≠ b) : ¬ nI a = nI b := fun e => h ((nI_eq (by omega) (by omega)).mp e)
theorem sp_rdn {B : Nat → Int32} {n p : Nat} {R : List Nat} {v a z : Nat} (h : sp_at B n p (sp_num v ++ R)) (ha : a ≤ v) (ha1 : a ≤ 1) (hz : v ≤ z) (hz2 : z < 100) (hR : R.getD 0 0 < 48 ∨ 57 < R.getD 0 0) (hR2 : R.getD 0 0 < 1000) : sj_rdn B n (nI a) (nI z) p = (nI v, p + (sp_num v).length) := by
  unfold sj_rdn
  by_cases hv : 9 < v
  · rw [sp_num_y hv] at h ⊢
    have h0 : sj_nx B n p = nI (48 + v / 10) := h 0
    have h1 : sj_nx B n (p + 1) = nI (48 + v % 10) := h 1
    have e0 : sj_nx B n p - 48 = nI (v / 10) := by
      rw [h0]
      exact (sj_nsub (a := 48 + v / 10) (b := 48) (by omega)).trans (by rw [Nat.add_sub_cancel_left])
    have e1 : 10 * (sj_nx B n p - 48) + sj_nx B n (p + 1) - 48 = nI v := by
      rw [e0, h1, show (10 : Int32) * nI (v / 10) = nI (10 * (v / 10)) from sj_nmul 10 _, nI_add]
      exact (sj_nsub (a := 10 * (v / 10) + (48 + v % 10)) (b := 48) (by omega)).trans (by rw [show 10 * (v / 10) + (48 + v % 10) - 48 = v by omega])
    have c1 : sj_wi (sj_nx B n p - 48) (nI a) 9 = true := by
      rw [e0]
      exact sp_wi (b := 9) (by omega) (by omega) (by omega)
    have c2 : ¬ nI z < sj_nx B n p - 48 := by
      rw [e0]
      exact nI_nlt (by omega) (by omega)
    rw [if_neg (fun h9 => h9.elim (fun h8 => by rw [c1] at h8; cases h8) c2), if_pos ⟨by rw [e0]; exact nI_lt (a := 0) (by omega) (by omega), by rw [h1]; exact sp_wi (a := 48) (b := 57) (by omega) (by omega) (by omega), by rw [e1]; exact nI_le hz (by omega)⟩, e1]
    rfl
  · rw [sp_num_n hv] at h ⊢
    have h0 : sj_nx B n p = nI (48 + v % 10) := h 0
    have h1 : sj_nx B n (p + 1) = nI (R.getD 0 0) := h 1
    have e0 : sj_nx B n p - 48 = nI v := by
      rw [h0]
      exact (sj_nsub (a := 48 + v % 10) (b := 48) (by omega)).trans (by rw [Nat.add_sub_cancel_left, Nat.mod_eq_of_lt (by omega)])
    have c1 : sj_wi (sj_nx B n p - 48) (nI a) 9 = true := by
      rw [e0]
      exact sp_wi (b := 9) (by omega) (by omega) (by omega)
    have c2 : ¬ nI z < sj_nx B n p - 48 := by
      rw [e0]
      exact nI_nlt (by omega) (by omega)
    rw [if_neg (fun h9 => h9.elim (fun h8 => by rw [c1] at h8; cases h8) c2), if_neg (fun h9 => by
      have h8 := sj_wi_iff.mp h9.2.1
      rw [h1] at h8
      have h7 := (nI_leI (a := 48) (b := R.getD 0 0) (by omega) (by omega)).mp h8.1
      have h6 := (nI_leI (a := R.getD 0 0) (b := 57) (by omega) (by omega)).mp h8.2
      omega), e0]
    rfl
/-- what stands behind a stroke -/
def sp_end (R : List Nat) : Prop := R.getD 0 0 = 0 ∨ R.getD 0 0 = 44
theorem sp_nm1 {v : Nat} (h : v < 1000) : ¬ nI v = -1 := fun e => absurd (e ▸ nI_pos' (n := v) (by omega) : (0 : Int32) ≤ -1) (by decide)
theorem sp_u3 {B : Nat → Int32} {n p : Nat} {R : List Nat} {x3 x4 : Nat} {sl hg lp : Int32} (h : sp_at B n p (sp_s3 x3 x4 ++ R)) (h3 : 1 ≤ x3 ∧ x3 ≤ 9) (h4 : x4 ≤ 9) (hR : sp_end R) : sj_u3 B n sl hg lp p = (true, p + (sp_s3 x3 x4).length, some (sl, hg, lp, nI x3, nI x4)) := by
  unfold sp_s3 at h ⊢
  unfold sp_end at hR
  rw [List.append_assoc] at h
  have hR' : (sp_opt (0 < x4) (126 :: sp_num x4) ++ R).getD 0 0 = if 0 < x4 then 126 else R.getD 0 0 := by
    unfold sp_opt
    by_cases h5 : 0 < x4
    · rw [if_pos h5, if_pos h5]
      rfl
    · rw [if_neg h5, if_neg h5]
      rfl
  have hb : (sp_opt (0 < x4) (126 :: sp_num x4) ++ R).getD 0 0 = 126 ∨ (sp_opt (0 < x4) (126 :: sp_num x4) ++ R).getD 0 0 = 0 ∨ (sp_opt (0 < x4) (126 :: sp_num x4) ++ R).getD 0 0 = 44 := by
    rw [hR']
    by_cases h5 : 0 < x4
    · rw [if_pos h5]
      exact Or.inl rfl
    · rw [if_neg h5]
      exact Or.inr hR
  have e1 : sj_rdn B n 1 9 p = (nI x3, p + (sp_num x3).length) := sp_rdn (a := 1) (z := 9) h h3.1 (by omega) h3.2 (by omega) (by omega) (by omega)
  have g := sp_at_r h
  unfold sj_u3
  rw [e1]
  rw [if_neg (sp_nm1 (v := x3) (by omega))]
  by_cases h5 : 0 < x4
  · rw [show sp_opt (0 < x4) (126 :: sp_num x4) = 126 :: sp_num x4 from if_pos h5] at g ⊢
    have g0 : sj_nx B n (p + (sp_num x3).length) = 126 := sp_at_h g
    have g1 : sp_at B n (p + (sp_num x3).length + 1) (sp_num x4 ++ R) := sp_at_t g
    have e2 : sj_rdn B n 1 9 (p + (sp_num x3).length + 1) = (nI x4, p + (sp_num x3).length + 1 + (sp_num x4).length) := sp_rdn (a := 1) (z := 9) g1 h5 (by omega) h4 (by omega) (by omega) (by omega)
    have e3 : sj_tk B n 126 (p + (sp_num x3).length) = p + (sp_num x3).length + 1 := if_pos g0
    show (if sj_nx B n (p + (sp_num x3).length) = 126 then _ else _) = _
    rw [if_pos g0, e3, e2, List.length_append, List.length_cons, show p + ((sp_num x3).length + ((sp_num x4).length + 1)) = p + (sp_num x3).length + 1 + (sp_num x4).length by omega]
    show (decide (¬ nI x4 = -1), _) = _
    rw [decide_eq_true (sp_nm1 (v := x4) (by omega))]
  · rw [show sp_opt (0 < x4) (126 :: sp_num x4) = [] from if_neg h5] at g ⊢
    have g0 : ¬ sj_nx B n (p + (sp_num x3).length) = 126 := by
      rw [show sj_nx B n (p + (sp_num x3).length) = nI (R.getD 0 0) from g 0]
      exact sp_nz (b := 126) (by omega) (by omega) (by omega)
    have e3 : sj_tk B n 126 (p + (sp_num x3).length) = p + (sp_num x3).length := if_neg g0
    show (if sj_nx B n (p + (sp_num x3).length) = 126 then _ else _) = _
    rw [if_neg g0, e3, List.append_nil, show x4 = 0 by omega]
    rfl
theorem sp_u2 {B : Nat → Int32} {n p : Nat} {R : List Nat} {x1 x2 x3 x4 : Nat} {sl : Int32} (h : sp_at B n p (sp_s2 x1 x2 x3 x4 ++ R)) (h1 : 1 ≤ x1 ∧ x1 ≤ 60) (h2 : x2 ≤ 1) (h3 : 1 ≤ x3 ∧ x3 ≤ 9) (h4 : x4 ≤ 9) (hR : sp_end R) : sj_u2 B n sl p = (true, p + (sp_s2 x1 x2 x3 x4).length, some (sl, nI x1, nI x2, nI x3, nI x4)) := by
  unfold sp_s2 at h ⊢
  rw [List.append_assoc] at h
  have hb : (sp_opt (0 < x2) [111] ++ (112 :: sp_s3 x3 x4) ++ R).getD 0 0 = 111 ∨ (sp_opt (0 < x2) [111] ++ (112 :: sp_s3 x3 x4) ++ R).getD 0 0 = 112 := by
    unfold sp_opt
    by_cases h5 : 0 < x2
    · rw [if_pos h5]
      exact Or.inl rfl
    · rw [if_neg h5]
      exact Or.inr rfl
  have e1 : sj_rdn B n 1 60 p = (nI x1, p + (sp_num x1).length) := sp_rdn (a := 1) (z := 60) h h1.1 (by omega) h1.2 (by omega) (by omega) (by omega)
  have g := sp_at_r h
  unfold sj_u2
  rw [e1]
  rw [if_neg (sp_nm1 (v := x1) (by omega))]
  unfold sj_u2b
  by_cases h5 : 0 < x2
  · rw [show sp_opt (0 < x2) [111] = [111] from if_pos h5] at g ⊢
    have g0 : sj_nx B n (p + (sp_num x1).length) = 111 := sp_at_h g
    have g1 : sp_at B n (p + (sp_num x1).length + 1) (112 :: (sp_s3 x3 x4 ++ R)) := sp_at_t g
    have e3 : sj_tk B n 111 (p + (sp_num x1).length) = p + (sp_num x1).length + 1 := if_pos g0
    have g2 : sj_nx B n (p + (sp_num x1).length + 1) = 112 := sp_at_h g1
    have e4 : sj_tk B n 112 (p + (sp_num x1).length + 1) = p + (sp_num x1).length + 1 + 1 := if_pos g2
    have e5 := sp_u3 (sl := sl) (hg := nI x1) (lp := sj_bi (decide (sj_nx B n (p + (sp_num x1).length) = 111))) (sp_at_t g1) h3 h4 hR
    show (if sj_nx B n (sj_tk B n 111 (p + (sp_num x1).length)) = 112 then _ else _) = _
    rw [e3, if_pos g2, e4]
    refine e5.trans ?_
    rw [decide_eq_true g0, List.length_append, List.length_append, List.length_cons, show x2 = 1 by omega]
    congr 2
    show _ = p + ((sp_num x1).length + (1 + ((sp_s3 x3 x4).length + 1)))
    omega
  · rw [show sp_opt (0 < x2) [111] = [] from if_neg h5] at g ⊢
    have g1 : sp_at B n (p + (sp_num x1).length) (112 :: (sp_s3 x3 x4 ++ R)) := g
    have g2 : sj_nx B n (p + (sp_num x1).length) = 112 := sp_at_h g1
    have g0 : ¬ sj_nx B n (p + (sp_num x1).length) = 111 := by
      rw [g2]
      decide
    have e3 : sj_tk B n 111 (p + (sp_num x1).length) = p + (sp_num x1).length := if_neg g0
    have e4 : sj_tk B n 112 (p + (sp_num x1).length) = p + (sp_num x1).length + 1 := if_pos g2
    have e5 := sp_u3 (sl := sl) (hg := nI x1) (lp := sj_bi (decide (sj_nx B n (p + (sp_num x1).length) = 111))) (sp_at_t g1) h3 h4 hR
    show (if sj_nx B n (sj_tk B n 111 (p + (sp_num x1).length)) = 112 then _ else _) = _
    rw [e3, if_pos g2, e4]
    refine e5.trans ?_
    rw [decide_eq_false g0, List.nil_append, List.length_append, List.length_cons, show x2 = 0 by omega]
    congr 2
    omega
/-- a stroke in its bounds -/
def sp_xb (x : sp_X5) : Prop := (0 ≤ x.1 ∧ x.1 ≤ 90) ∧ (1 ≤ x.2.1 ∧ x.2.1 ≤ 60) ∧ x.2.2.1 ≤ 1 ∧ (1 ≤ x.2.2.2.1 ∧ x.2.2.2.1 ≤ 9) ∧ x.2.2.2.2 ≤ 9
def sp_xw (x : sp_X5) : sj_W5 := (nI x.1 - 45, nI x.2.1, nI x.2.2.1, nI x.2.2.2.1, nI x.2.2.2.2)
theorem sp_abn {x : Nat} (h : x < 45) : -(nI (sp_ab x)) = nI x - 45 := by
  rw [show sp_ab x = 45 - x from if_pos h, ← sj_nsub (a := 45) (b := x) (by omega)]
  show -((45 : Int32) - nI x) = _
  rw [Int32.neg_sub]
theorem sp_abp {x : Nat} (h : ¬ x < 45) : nI (sp_ab x) = nI x - 45 := by
  rw [show sp_ab x = x - 45 from if_neg h, ← sj_nsub (a := x) (b := 45) (by omega)]
  rfl
theorem sp_rst {B : Nat → Int32} {n p : Nat} {R : List Nat} {x : sp_X5} (h : sp_at B n p (sp_stk x ++ R)) (hx : sp_xb x) (hR : sp_end R) : sj_rst B n p = (true, p + (sp_stk x).length, some (sp_xw x)) := by
  obtain ⟨x0, x1, x2, x3, x4⟩ := x
  obtain ⟨h0, h1, h2, h3, h4⟩ := hx
  have h0' : x0 ≤ 90 := h0.2
  have hx1 : 1 ≤ x1 ∧ x1 ≤ 60 := h1
  have hx2 : x2 ≤ 1 := h2
  have hx3 : 1 ≤ x3 ∧ x3 ≤ 9 := h3
  have hx4 : x4 ≤ 9 := h4
  unfold sp_stk at h ⊢
  have key : ∀ (q : Nat) (lo : Bool) (a : Nat), sp_at B n q (sp_num a ++ (58 :: (sp_s2 x1 x2 x3 x4 ++ R))) → (if lo then 1 else 0) ≤ a → a ≤ 45 → sj_u1 B n lo q = (true, q + ((sp_num a).length + ((sp_s2 x1 x2 x3 x4).length + 1)), some (if lo then -(nI a) else nI a, nI x1, nI x2, nI x3, nI x4)) := fun q lo a g ha ha2 => by
    have e1 : sj_rdn B n (sj_bi lo) 45 q = (nI a, q + (sp_num a).length) := by
      have hh : (58 :: (sp_s2 x1 x2 x3 x4 ++ R)).getD 0 0 = 58 := rfl
      cases lo
      · exact sp_rdn (a := 0) (z := 45) g (by omega) (by omega) ha2 (by omega) (by rw [hh]; omega) (by rw [hh]; omega)
      · exact sp_rdn (a := 1) (z := 45) g ha (by omega) ha2 (by omega) (by rw [hh]; omega) (by rw [hh]; omega)
    have g1 := sp_at_r g
    have g2 : sj_nx B n (q + (sp_num a).length) = 58 := sp_at_h g1
    have e4 : sj_tk B n 58 (q + (sp_num a).length) = q + (sp_num a).length + 1 := if_pos g2
    unfold sj_u1
    rw [e1]
    rw [if_neg (sp_nm1 (v := a) (by omega))]
    show (if sj_nx B n (q + (sp_num a).length) = 58 then _ else _) = _
    rw [if_pos g2, e4, sp_u2 (sp_at_t g1) hx1 hx2 hx3 hx4 hR, show q + (sp_num a).length + 1 + (sp_s2 x1 x2 x3 x4).length = q + ((sp_num a).length + ((sp_s2 x1 x2 x3 x4).length + 1)) by omega]
  unfold sj_rst
  by_cases h5 : x0 < 45
  · rw [show sp_opt ((x0, x1, x2, x3, x4).1 < 45) [45] = [45] from if_pos h5] at h ⊢
    have g1 : sp_at B n p (45 :: (sp_num (sp_ab x0) ++ (58 :: sp_s2 x1 x2 x3 x4) ++ R)) := h
    rw [List.append_assoc, List.cons_append] at g1
    have g0 : sj_nx B n p = 45 := sp_at_h g1
    have hab : sp_ab x0 = 45 - x0 := if_pos h5
    rw [decide_eq_true g0, show sj_tk B n 45 p = p + 1 from if_pos g0, key (p + 1) true (sp_ab x0) (sp_at_t g1) (by rw [if_pos rfl]; omega) (by omega), if_pos rfl, sp_abn h5]
    congr 2
    show _ = p + (([45] ++ (sp_num (sp_ab x0) ++ 58 :: sp_s2 x1 x2 x3 x4)).length)
    rw [List.length_append, List.length_append, List.length_singleton, List.length_cons]
    omega
  · rw [show sp_opt ((x0, x1, x2, x3, x4).1 < 45) [45] = [] from if_neg h5] at h ⊢
    have g1 : sp_at B n p (sp_num (sp_ab x0) ++ (58 :: sp_s2 x1 x2 x3 x4) ++ R) := h
    rw [List.append_assoc, List.cons_append] at g1
    have hab : sp_ab x0 = x0 - 45 := if_neg h5
    have g0 : ¬ sj_nx B n p = 45 := by
      by_cases h9 : 9 < sp_ab x0
      · rw [sp_num_y h9] at g1
        rw [show sj_nx B n p = nI (48 + sp_ab x0 / 10) from g1 0]
        exact sp_nz (b := 45) (by omega) (by omega) (by omega)
      · rw [sp_num_n h9] at g1
        rw [show sj_nx B n p = nI (48 + sp_ab x0 % 10) from g1 0]
        exact sp_nz (b := 45) (by omega) (by omega) (by omega)
    rw [decide_eq_false g0, show sj_tk B n 45 p = p from if_neg g0, key p false (sp_ab x0) g1 (by rw [if_neg Bool.false_ne_true]; omega) (by omega), if_neg Bool.false_ne_true, sp_abp h5]
    congr 2
    show _ = p + (([] ++ (sp_num (sp_ab x0) ++ 58 :: sp_s2 x1 x2 x3 x4)).length)
    rw [List.nil_append, List.length_append, List.length_cons]
/-- the strokes from i on, each behind its comma -/
def sp_tl (s : Nat → sp_X5) : Nat → Nat → List Nat
  | _, 0 => []
  | i, r + 1 => 44 :: (sp_stk (s i) ++ sp_tl s (i + 1) r)
theorem sp_tl_s (s : Nat → sp_X5) : ∀ i r, sp_tl s i (r + 1) = sp_tl s i r ++ (44 :: sp_stk (s (i + r)))
  | i, 0 => by
    show 44 :: (sp_stk (s i) ++ []) = [] ++ _
    rw [List.append_nil]
    rfl
  | i, r + 1 => by
    show 44 :: (sp_stk (s i) ++ sp_tl s (i + 1) (r + 1)) = 44 :: (sp_stk (s i) ++ sp_tl s (i + 1) r) ++ _
    rw [sp_tl_s s (i + 1) r, List.cons_append, List.append_assoc, show i + 1 + r = i + (r + 1) by omega]
/-- a sheet's text -/
def sp_txt (s : Nat → sp_X5) : Nat → List Nat
  | 0 => []
  | r + 1 => sp_stk (s 0) ++ sp_tl s 1 r
theorem sp_txt_s (s : Nat → sp_X5) (k : Nat) : sp_txt s (k + 1) = sp_txt s k ++ (sp_opt (0 < k) [44] ++ sp_stk (s k)) := by
  cases k with
  | zero =>
    show sp_stk (s 0) ++ [] = [] ++ ([] ++ sp_stk (s 0))
    rw [List.append_nil]
    rfl
  | succ r =>
    show sp_stk (s 0) ++ sp_tl s 1 (r + 1) = sp_stk (s 0) ++ sp_tl s 1 r ++ (sp_opt (0 < r + 1) [44] ++ sp_stk (s (r + 1)))
    rw [sp_tl_s, show sp_opt (0 < r + 1) [44] = [44] from if_pos (by omega), List.append_assoc, show 1 + r = r + 1 by omega]
    rfl
theorem sp_tl_end (s : Nat → sp_X5) (i r : Nat) : sp_end (sp_tl s i r) := by
  cases r with
  | zero => exact Or.inl rfl
  | succ r => exact Or.inr rfl
theorem sp_wst_k (f : Nat → Int32) (k : Nat) (w : sj_W5) : sj_wst f k w (5 * k) = w.1 ∧ sj_wst f k w (5 * k + 1) = w.2.1 ∧ sj_wst f k w (5 * k + 2) = w.2.2.1 ∧ sj_wst f k w (5 * k + 3) = w.2.2.2.1 ∧ sj_wst f k w (5 * k + 4) = w.2.2.2.2 := by
  unfold sj_wst
  refine ⟨?_, ?_, ?_, ?_, ?_⟩
  · rw [sj_upd_ne _ _ (by omega), sj_upd_ne _ _ (by omega), sj_upd_ne _ _ (by omega), sj_upd_ne _ _ (by omega), sj_upd_self]
  · rw [sj_upd_ne _ _ (by omega), sj_upd_ne _ _ (by omega), sj_upd_ne _ _ (by omega), sj_upd_self]
  · rw [sj_upd_ne _ _ (by omega), sj_upd_ne _ _ (by omega), sj_upd_self]
  · rw [sj_upd_ne _ _ (by omega), sj_upd_self]
  · rw [sj_upd_self]
theorem sp_wst_o (f : Nat → Int32) {k i : Nat} (w : sj_W5) (h : i < 5 * k) : sj_wst f k w i = f i := by
  unfold sj_wst
  rw [sj_upd_ne _ _ (by omega), sj_upd_ne _ _ (by omega), sj_upd_ne _ _ (by omega), sj_upd_ne _ _ (by omega), sj_upd_ne _ _ (by omega)]
/-- the notes of the strokes -/
def sp_nt (f : Nat → Int32) (e : Nat) (w : sj_W5) : Prop := f (5 * e) = w.1 ∧ f (5 * e + 1) = w.2.1 ∧ f (5 * e + 2) = w.2.2.1 ∧ f (5 * e + 3) = w.2.2.2.1 ∧ f (5 * e + 4) = w.2.2.2.2
theorem sp_shx {B : Nat → Int32} {n : Nat} {s : Nat → sp_X5} (hs : ∀ e, sp_xb (s e)) : ∀ (r j k p : Nat) (f : Nat → Int32), sp_at B n p (sp_stk (s k) ++ sp_tl s (k + 1) r) → p + (sp_stk (s k) ++ sp_tl s (k + 1) r).length = n → r < j → k + r + 1 < 8 → (∀ e, e < k → sp_nt f e (sp_xw (s e))) → (sj_shx B n j k p f).1 = -1 ∧ (sj_shx B n j k p f).2.2.1 = k + r + 1 ∧ ∀ e, e < k + r + 1 → sp_nt (sj_shx B n j k p f).2.2.2 e (sp_xw (s e))
  | r, 0, k, p, f, h, hn, hj, hk, hf => absurd hj (Nat.not_lt_zero r)
  | r, j + 1, k, p, f, h, hn, hj, hk, hf => by
    have e1 := sp_rst h (hs k) (sp_tl_end s (k + 1) r)
    have hf' : ∀ e, e < k + 1 → sp_nt (sj_f2 (sj_rst B n p) k f) e (sp_xw (s e)) := fun e he => by
      rw [show sj_f2 (sj_rst B n p) k f = sj_wst f k (sp_xw (s k)) by rw [e1]; rfl]
      by_cases hek : e = k
      · rw [hek]
        exact sp_wst_k f k _
      · obtain ⟨a1, a2, a3, a4, a5⟩ := hf e (by omega)
        exact ⟨(sp_wst_o f _ (by omega)).trans a1, (sp_wst_o f _ (by omega)).trans a2, (sp_wst_o f _ (by omega)).trans a3, (sp_wst_o f _ (by omega)).trans a4, (sp_wst_o f _ (by omega)).trans a5⟩
    have e2 : (sj_rst B n p).2.1 = p + (sp_stk (s k)).length := by rw [e1]
    have e3 : ¬ (sj_rst B n p).1 = false := by
      rw [e1]
      exact fun h => Bool.noConfusion h
    rw [List.length_append] at hn
    cases r with
    | zero =>
      rw [sj_shx_2 e3 (by rw [e2]; exact hn)]
      exact ⟨rfl, rfl, hf'⟩
    | succ r =>
      have h5 : p + ((sp_stk (s k)).length + ((sp_stk (s (k + 1)) ++ sp_tl s (k + 1 + 1) r).length + 1)) = n := hn
      have g := sp_at_r h
      have g0 : sj_nx B n (p + (sp_stk (s k)).length) = 44 := sp_at_h g
      rw [sj_shx_4 e3 (by rw [e2]; omega) (by omega) (by rw [e2]; exact g0), e2, show sj_tk B n 44 (p + (sp_stk (s k)).length) = p + (sp_stk (s k)).length + 1 from if_pos g0]
      have ih := sp_shx hs r j (k + 1) (p + (sp_stk (s k)).length + 1) (sj_f2 (sj_rst B n p) k f) (sp_at_t g) (by omega) (by omega) (by omega) hf'
      rw [show k + (r + 1) + 1 = k + 1 + r + 1 by omega]
      exact ih
/-- the codes of a text -/
def sp_tx (n : Nat) (B : Nat → Int32) (T : List Nat) : Prop := n = T.length ∧ ∀ j, j < n → B j = nI (T.getD j 0)
theorem sp_tx_a {n : Nat} {B : Nat → Int32} {T : List Nat} (h : sp_tx n B T) (c : Nat) : sp_tx (n + 1) (upd B n (nI c)) (T ++ [c]) := by
  obtain ⟨h1, h2⟩ := h
  refine ⟨by rw [List.length_append, h1]; rfl, fun j hj => ?_⟩
  rw [List.getD_eq_getElem?_getD]
  by_cases e : j = n
  · rw [e, sj_upd_self, List.getElem?_append_right (by omega), h1, Nat.sub_self]
    rfl
  · rw [sj_upd_ne _ _ e, h2 j (by omega), List.getElem?_append_left (by omega), List.getD_eq_getElem?_getD]
theorem sp_tx_at {n : Nat} {B : Nat → Int32} {T : List Nat} (h : sp_tx n B T) : sp_at B n 0 T := fun d => by
  rw [Nat.zero_add]
  obtain ⟨h1, h2⟩ := h
  by_cases hd : d < n
  · rw [sj_nx_y hd, h2 d hd]
  · rw [sj_nx_n (Nat.not_lt.mp hd), List.getD_eq_getElem?_getD, List.getElem?_eq_none (by omega)]
    rfl
theorem sp_sht {B : Nat → Int32} {n k : Nat} {s : Nat → sp_X5} (hs : ∀ e, sp_xb (s e)) (f : Nat → Int32) (h : sp_tx n B (sp_txt s (k + 1))) (hk : k < 7) : (sj_sht B n f).1 = -1 ∧ (sj_sht B n f).2.2.1 = k + 1 ∧ ∀ e, e < k + 1 → sp_nt (sj_sht B n f).2.2.2 e (sp_xw (s e)) := by
  have h0 := sp_shx hs k 8 0 0 f (sp_tx_at h) (by rw [Nat.zero_add]; exact h.1.symm) (by omega) (by omega) (fun e he => absurd he (Nat.not_lt_zero e))
  rw [show 0 + k + 1 = k + 1 by omega] at h0
  exact h0
/-- a stroke's numbers in one -/
def sp_pk (x : sp_X5) : Int32 := nI (x.1 + 128 * x.2.1 + 8192 * x.2.2.1 + 16384 * x.2.2.2.1 + 262144 * x.2.2.2.2)
theorem sp_orn (a b : Nat) : nI a ||| nI b = nI (a ||| b) := by
  refine Int32.toBitVec_inj.1 ?_
  rw [Int32.toBitVec_or]
  show BitVec.ofNat 32 a ||| BitVec.ofNat 32 b = BitVec.ofNat 32 (a ||| b)
  refine BitVec.eq_of_getLsbD_eq (fun i hi => ?_)
  rw [BitVec.getLsbD_or, BitVec.getLsbD_ofNat, BitVec.getLsbD_ofNat, BitVec.getLsbD_ofNat, Nat.testBit_or]
  cases decide (i < 32) <;> rfl
theorem sp_or {a b : Nat} (k : Nat) (h : a < 2 ^ k) : nI a ||| nI (b * 2 ^ k) = nI (a + 2 ^ k * b) := by
  rw [show nI a ||| nI (b * 2 ^ k) = nI (a ||| b * 2 ^ k) from sp_orn _ _, Nat.or_comm, Nat.mul_comm b, ← Nat.two_pow_add_eq_or_of_lt h, Nat.add_comm]
theorem sp_pack {x0 x1 x2 x3 x4 : Nat} (h : sp_xb (x0, x1, x2, x3, x4)) : nI x0 ||| nI x1 <<< ((7 : Int32) &&& 31) ||| nI (8192 * x2) ||| nI x3 <<< ((14 : Int32) &&& 31) ||| nI x4 <<< ((18 : Int32) &&& 31) = sp_pk (x0, x1, x2, x3, x4) := by
  obtain ⟨⟨_, h0⟩, ⟨_, h1⟩, h2, ⟨_, h3⟩, h4⟩ := h
  have h0 : x0 ≤ 90 := h0
  have h1 : x1 ≤ 60 := h1
  have h2 : x2 ≤ 1 := h2
  have h3 : x3 ≤ 9 := h3
  have h4 : x4 ≤ 9 := h4
  rw [pk_shlN (n := x1) _ 7 (by decide) (by omega), pk_shlN (n := x3) _ 14 (by decide) (by omega), pk_shlN (n := x4) _ 18 (by decide) (by omega), show 8192 * x2 = x2 * 2 ^ 13 by omega, sp_or 7 (by omega), sp_or 13 (by omega), sp_or 14 (by omega), sp_or 18 (by omega)]
  show nI _ = nI (x0 + 128 * x1 + 8192 * x2 + 16384 * x3 + 262144 * x4)
  congr 1
theorem sp_low_n (v : Int32) {n : Nat} (h0 : 0 < n) (hn : n < 2 ^ 31) : sj_tn (sp_low v (nI n)) < n ∧ sp_low v (nI n) = nI (sj_tn (sp_low v (nI n))) := by
  obtain ⟨j, h1, h2⟩ := sp_low_in v h0 hn
  rw [h2, sj_tn_nI (n := j) (by omega)]
  exact ⟨h1, rfl⟩
/-- the number that a stroke is made of -/
def sp_x (v : Int32) (k : Nat) : Int32 := (v * nI (2 * k + 3)) >>> (5 &&& 31) &&& 16777215
def sp_lw (v : Int32) (n : Nat) : Nat := sj_tn (sp_low v (nI n))
theorem sp_lw_lt (v : Int32) {n : Nat} (h0 : 0 < n) (hn : n < 1000) : sp_lw v n < n := (sp_low_n v h0 (by omega)).1
theorem sp_lw_e (v : Int32) {n : Nat} (h0 : 0 < n) (hn : n < 1000) : sp_low v (nI n) = nI (sp_lw v n) := (sp_low_n v h0 (by omega)).2
def sp_hb (v : Int32) : Nat := if sp_lw (v >>> (9 &&& 31)) 3 = 0 then 51 else 8
/-- the strokes that the law types -/
def sp_sx (v x : Int32) : sp_X5 := (sp_lw (v >>> (3 &&& 31)) 61 + sp_lw x 9 + 11, 10 + sp_lw (x >>> (3 &&& 31)) (sp_hb v), (if 0 < sp_lw (x >>> (17 &&& 31)) 3 then 1 else 0), 1 + sp_lw (x >>> (7 &&& 31)) 9, if sp_lw (x >>> (11 &&& 31)) 3 = 0 then sp_lw (x >>> (13 &&& 31)) 10 else 0)
theorem sp_sx_b (v x : Int32) : sp_xb (sp_sx v x) := by
  have h1 := sp_lw_lt (v >>> (3 &&& 31)) (n := 61) (by omega) (by omega)
  have h2 := sp_lw_lt x (n := 9) (by omega) (by omega)
  have hh : sp_hb v = 51 ∨ sp_hb v = 8 := by
    unfold sp_hb
    by_cases h : sp_lw (v >>> (9 &&& 31)) 3 = 0
    · rw [if_pos h]
      exact Or.inl rfl
    · rw [if_neg h]
      exact Or.inr rfl
  have h3 := sp_lw_lt (x >>> (3 &&& 31)) (n := sp_hb v) (by omega) (by omega)
  have h4 := sp_lw_lt (x >>> (7 &&& 31)) (n := 9) (by omega) (by omega)
  have h5 := sp_lw_lt (x >>> (13 &&& 31)) (n := 10) (by omega) (by omega)
  refine ⟨⟨Nat.zero_le _, ?_⟩, ⟨?_, ?_⟩, ?_, ⟨?_, ?_⟩, ?_⟩
  · show sp_lw (v >>> (3 &&& 31)) 61 + sp_lw x 9 + 11 ≤ 90
    omega
  · show 1 ≤ 10 + sp_lw (x >>> (3 &&& 31)) (sp_hb v)
    omega
  · show 10 + sp_lw (x >>> (3 &&& 31)) (sp_hb v) ≤ 60
    omega
  · show (if 0 < sp_lw (x >>> (17 &&& 31)) 3 then 1 else 0) ≤ 1
    by_cases h : 0 < sp_lw (x >>> (17 &&& 31)) 3
    · rw [if_pos h]
      exact Nat.le_refl 1
    · rw [if_neg h]
      exact Nat.zero_le 1
  · show 1 ≤ 1 + sp_lw (x >>> (7 &&& 31)) 9
    omega
  · show 1 + sp_lw (x >>> (7 &&& 31)) 9 ≤ 9
    omega
  · show (if sp_lw (x >>> (11 &&& 31)) 3 = 0 then sp_lw (x >>> (13 &&& 31)) 10 else 0) ≤ 9
    by_cases h : sp_lw (x >>> (11 &&& 31)) 3 = 0
    · rw [if_pos h]
      omega
    · rw [if_neg h]
      exact Nat.zero_le 9
theorem sp_num_1 {v : Nat} (h : v ≤ 9) : (sp_num v).length = 1 := by
  rw [sp_num_n (by omega)]
  rfl
theorem sp_opt_len (b : Prop) [Decidable b] (l : List Nat) : (sp_opt b l).length ≤ l.length := by
  unfold sp_opt
  by_cases h : b
  · rw [if_pos h]
    exact Nat.le_refl _
  · rw [if_neg h]
    exact Nat.zero_le _
theorem sp_stk_len {x : sp_X5} (h : sp_xb x) : (sp_stk x).length ≤ 11 := by
  obtain ⟨x0, x1, x2, x3, x4⟩ := x
  obtain ⟨⟨_, h0⟩, ⟨_, h1⟩, h2, ⟨_, h3⟩, h4⟩ := h
  have h3 : x3 ≤ 9 := h3
  have h4 : x4 ≤ 9 := h4
  show (sp_opt (x0 < 45) [45] ++ (sp_num (sp_ab x0) ++ (58 :: (sp_num x1 ++ (sp_opt (0 < x2) [111] ++ (112 :: (sp_num x3 ++ sp_opt (0 < x4) (126 :: sp_num x4)))))))).length ≤ 11
  have a1 := sp_opt_len (x0 < 45) [45]
  have a2 := sp_num_len (sp_ab x0)
  have a3 := sp_num_len x1
  have a4 := sp_opt_len (0 < x2) [111]
  have a5 := sp_num_1 h3
  have a6 := sp_opt_len (0 < x4) (126 :: sp_num x4)
  rw [List.length_singleton] at a1 a4
  rw [List.length_cons, sp_num_1 h4] at a6
  simp only [List.length_append, List.length_cons]
  omega
theorem sp_txt_len {s : Nat → sp_X5} (hs : ∀ e, sp_xb (s e)) : ∀ k, (sp_txt s k).length ≤ 12 * k
  | 0 => Nat.le_refl 0
  | k + 1 => by
    have ih := sp_txt_len hs k
    have a1 := sp_opt_len (0 < k) [44]
    have a2 := sp_stk_len (hs k)
    rw [List.length_singleton] at a1
    rw [sp_txt_s, List.length_append, List.length_append]
    omega
/-- the class while a sheet is typed: S0 the first state, rt the row that takes it down -/
def sp_Y (S0 U : sj_St) (g : Nat → Nat) (m : Nat → Int32) (hs : Bool) (ms : Nat → Int32) (p q : Nat) (Q : Nat → Nat → Int32) (rt N : Nat) (T : List Nat) (TR : Nat → Int32) : Prop := sq_xp (fun a => sq_Cl g a ∨ a = rt) S0 U ∧ (∃ n B, sq_W U g m hs ms p q Q n B ∧ sp_tx n B T) ∧ (sj_kd U rt = some 8 ∧ sj_il U rt = N) ∧ sj_ia U rt = TR
section
variable {S0 U : sj_St} {g : Nat → Nat} {m : Nat → Int32} {hs : Bool} {ms : Nat → Int32} {p q : Nat} {Q : Nat → Nat → Int32} {rt N : Nat} {T : List Nat} {TR : Nat → Int32}
theorem sp_Y_fr {V : sj_St} (hrt : ¬ sq_Cl g rt) (h : sp_Y S0 U g m hs ms p q Q rt N T TR) (f : sq_fr (sq_Cl g) U V) {T' : List Nat} (w : ∃ n B, sq_W V g m hs ms p q Q n B ∧ sp_tx n B T') : sp_Y S0 V g m hs ms p q Q rt N T' TR := by
  obtain ⟨h1, h2, ⟨h3, h4⟩, h5⟩ := h
  have hf := sq_xp_fr f rt 8 h3
  exact ⟨sq_xp_tr h1 (sq_xp_up (sq_xp_fr f) (fun a c _ ha => Or.inl ha)), w, ⟨hf.1, (hf.2 hrt).2.1.trans h4⟩, (hf.2 hrt).2.2.2.1.trans h5⟩
theorem sp_app (l : Launch) (hrt : ¬ sq_Cl g rt) (hI : sj_inv m) (h : sp_Y S0 U g m hs ms p q Q rt N T TR) {c : Nat} (hc : 33 ≤ c ∧ c ≤ 126) (hT : T.length < 60) : ∃ r, sj_CtW l mL_append [(0, 5, 6, 16), (0, 5, 10, 18)] [.ref (g 141), .int (nI c)] U (fun v V => v = some (.int r) ∧ sp_Y S0 V g m hs ms p q Q rt N (T ++ [c]) TR) := by
  obtain ⟨n, B, hW, hX⟩ := h.2.1
  have hn : n = T.length := hX.1
  exact ⟨nI (n + 1), ct_L_append_r l hW.1.1.1 (nI c) (sp_Ctr_up (ct_X6_append l hW hI (nI c) (sp_wi (a := 33) (b := 126) hc.1 hc.2 (by omega)) (by omega)) (fun v V hp => ⟨hp.1, sp_Y_fr hrt h hp.2.1 ⟨n + 1, _, hp.2.2, sp_tx_a hX c⟩⟩))⟩
theorem sp_clr (l : Launch) (hrt : ¬ sq_Cl g rt) (hI : sj_inv m) (h : sp_Y S0 U g m hs ms p q Q rt N T TR) : ∃ r, sj_Ctr l mX6_clearBuffer [.ref (g 141)] U (fun v V => v = some (.int r) ∧ sp_Y S0 V g m hs ms p q Q rt N [] TR) := by
  obtain ⟨n, B, hW, hX⟩ := h.2.1
  exact ⟨nI n, sp_Ctr_up (ct_X6_clearBuffer l hW hI) (fun v V hp => ⟨hp.1, sp_Y_fr hrt h hp.2.1 ⟨0, B, hp.2.2, rfl, fun j hj => absurd hj (Nat.not_lt_zero j)⟩⟩)⟩
theorem sp_sto (hrt : sp_La g rt) (h : sp_Y S0 U g m hs ms p q Q rt N T TR) (j : Nat) (v : Int32) : sp_Y S0 (sj_wIa U rt j v) g m hs ms p q Q rt N T (upd TR j v) := by
  obtain ⟨h1, ⟨n, B, hW, hX⟩, ⟨h3, h4⟩, h5⟩ := h
  have hx : sq_xp (fun a => a = rt) U (sj_wIa U rt j v) := sq_xp_fr (sq_fr_ia (upd (sj_ia U rt) j v) rfl)
  refine ⟨sq_xp_tr h1 (sq_xp_up hx (fun a c _ ha => Or.inr ha)), ⟨n, B, sp_W_xp (fun a ha => ha ▸ hrt) hx (fun a ha => by rw [ha, h3]; exact fun h => by cases h) hW, hX⟩, ⟨h3, h4⟩, ?_⟩
  rw [← h5]
  exact sj_up_self _ _ _
end
