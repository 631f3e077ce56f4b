/-! THE SAME: what the class reads from a text, and what the reference reads -/
def sq_cd (B : Nat → Int32) (n : Nat) : Prop := ∀ j, j < n → ∃ t, 33 ≤ t ∧ t ≤ 126 ∧ B j = nI t
theorem sj_nx_y {B : Nat → Int32} {n p : Nat} (h : p < n) : sj_nx B n p = B p := if_pos h
theorem sj_nx_n {B : Nat → Int32} {n p : Nat} (h : n ≤ p) : sj_nx B n p = 0 := if_neg (Nat.not_lt.mpr h)
theorem sq_nx_y {B : Nat → Int32} {n p : Nat} (h : p < n) : sq_nx B n (p, false) = B p := by
  unfold sq_nx
  rw [if_neg Bool.false_ne_true, if_pos h]
theorem sq_nx_n {B : Nat → Int32} {n p : Nat} (h : n ≤ p) : sq_nx B n (p, false) = -1 := by
  unfold sq_nx
  rw [if_neg Bool.false_ne_true, if_neg (Nat.not_lt.mpr h)]
theorem sq_nx_b (B : Nat → Int32) (n p : Nat) : sq_nx B n (p, true) = -1 := by
  unfold sq_nx
  rw [if_pos rfl]
theorem sq_t_f {B : Nat → Int32} {n p : Nat} {c : Int32} (h0 : ¬ c = 0) (h1 : ¬ c = -1) : sq_t B n c (p, false) = decide (sj_nx B n p = c) := by
  unfold sq_t
  by_cases h : p < n
  · rw [sq_nx_y h, sj_nx_y h]
  · rw [sq_nx_n (by omega), sj_nx_n (by omega), decide_eq_false (fun e => h1 e.symm), decide_eq_false (fun e => h0 e.symm)]
theorem sq_t_b {B : Nat → Int32} {n p : Nat} {c : Int32} (h1 : ¬ c = -1) : sq_t B n c (p, true) = false := by
  unfold sq_t
  rw [sq_nx_b]
  exact decide_eq_false (fun e => h1 e.symm)
theorem sq_S_f {B : Nat → Int32} {n p : Nat} {c : Int32} (h0 : ¬ c = 0) (h1 : ¬ c = -1) : sq_S B n c (p, false) = (sj_tk B n c p, false) := by
  unfold sq_S sj_tk
  rw [sq_t_f h0 h1]
  by_cases h : sj_nx B n p = c
  · rw [decide_eq_true h, if_pos rfl, if_pos h]
  · rw [decide_eq_false h, if_neg Bool.false_ne_true, if_neg h]
theorem sq_S_b {B : Nat → Int32} {n p : Nat} {c : Int32} (h1 : ¬ c = -1) : sq_S B n c (p, true) = (p, true) := sq_S_n (sq_t_b h1)
theorem sq_N_fy {B : Nat → Int32} {n p : Nat} {c : Int32} (h0 : ¬ c = 0) (h1 : ¬ c = -1) (h : sj_nx B n p = c) : sq_N B n c (p, false) = (sj_tk B n c p, false) := by
  unfold sq_N sj_tk
  rw [sq_t_f h0 h1, decide_eq_true h, if_pos rfl, if_pos h]
theorem sq_N_fn {B : Nat → Int32} {n p : Nat} {c : Int32} (h0 : ¬ c = 0) (h1 : ¬ c = -1) (h : ¬ sj_nx B n p = c) : sq_N B n c (p, false) = (p, true) ∧ sj_tk B n c p = p := by
  unfold sq_N sj_tk
  rw [sq_t_f h0 h1, decide_eq_false h, if_neg Bool.false_ne_true, if_neg h]
  exact ⟨rfl, rfl⟩
theorem sq_N_b {B : Nat → Int32} {n p : Nat} {c : Int32} (h1 : ¬ c = -1) : sq_N B n c (p, true) = (p, true) := by
  unfold sq_N
  rw [sq_t_b h1, if_neg Bool.false_ne_true]
theorem sq_d_b (B : Nat → Int32) (n p : Nat) : sq_d B n (p, true) = -1 := by
  unfold sq_d
  rw [sq_nx_b]
  rfl
theorem sq_R_b {B : Nat → Int32} {n p : Nat} {a z : Int32} (ha : 0 ≤ a) : sq_R B n a z (p, true) = (p, true) := by
  unfold sq_R
  rw [sq_d_b, if_pos (Or.inl (Int32.lt_of_lt_of_le (by decide) ha))]
/-- digits -/
theorem sq_dg_y : ∀ t, 48 ≤ t → t ≤ 57 → sq_dg (nI t) = nI (t - 48) := by
  have h : ∀ t, t < 58 → 48 ≤ t → sq_dg (nI t) = nI (t - 48) := by decide +kernel
  exact fun t h1 h2 => h t (by omega) h1
theorem sq_dg_n : ∀ t, t ≤ 126 → ¬ (48 ≤ t ∧ t ≤ 57) → sq_dg (nI t) = -1 := by
  have h : ∀ t, t < 127 → ¬ (48 ≤ t ∧ t ≤ 57) → sq_dg (nI t) = -1 := by decide +kernel
  exact fun t h1 h2 => h t (by omega) h2
theorem sj_dw_y : ∀ t, 48 ≤ t → t ≤ 57 → nI t - 48 = nI (t - 48) := by
  have h : ∀ t, t < 58 → 48 ≤ t → nI t - 48 = nI (t - 48) := by decide +kernel
  exact fun t h1 h2 => h t (by omega) h1
theorem sj_dw_n : ∀ t, t ≤ 126 → ¬ (48 ≤ t ∧ t ≤ 57) → sj_wi (nI t - 48) 0 9 = false ∧ sj_wi (nI t - 48) 1 9 = false ∧ sj_wi (nI t) 48 57 = false := by
  have h : ∀ t, t < 127 → ¬ (48 ≤ t ∧ t ≤ 57) → sj_wi (nI t - 48) 0 9 = false ∧ sj_wi (nI t - 48) 1 9 = false ∧ sj_wi (nI t) 48 57 = false := by decide +kernel
  exact fun t h1 h2 => h t (by omega) h2
theorem sj_dw_v : ∀ v, v < 10 → sj_wi (nI v) 0 9 = true ∧ sj_wi (nI v) 1 9 = decide (0 < v) := by decide +kernel
theorem sj_dw_2 : ∀ t, 48 ≤ t → t ≤ 57 → sj_wi (nI t) 48 57 = true := by
  have h : ∀ t, t < 58 → 48 ≤ t → sj_wi (nI t) 48 57 = true := by decide +kernel
  exact fun t h1 h2 => h t (by omega) h1
theorem sj_dw_s : ∀ v, v < 10 → ∀ u, u < 10 → 10 * nI v + nI (u + 48) - 48 = nI (10 * v + u) ∧ nI v * 10 + nI u = nI (10 * v + u) := by decide +kernel
theorem sj_nx_t {B : Nat → Int32} {n : Nat} (hB : sq_cd B n) (p : Nat) : ∃ t, t ≤ 126 ∧ sj_nx B n p = nI t ∧ (p < n ∨ t = 0) := by
  by_cases h : p < n
  · obtain ⟨t, h1, h2, h3⟩ := hB p h
    exact ⟨t, h2, (sj_nx_y h).trans h3, Or.inl h⟩
  · exact ⟨0, by omega, sj_nx_n (by omega), Or.inr rfl⟩
theorem sq_d_t {B : Nat → Int32} {n p t : Nat} (h : sj_nx B n p = nI t) (ht : t ≤ 126) (hp : p < n ∨ t = 0) : sq_d B n (p, false) = if 48 ≤ t ∧ t ≤ 57 then nI (t - 48) else -1 := by
  unfold sq_d
  by_cases hpn : p < n
  · rw [sq_nx_y hpn, ← sj_nx_y (B := B) hpn, h]
    by_cases hd : 48 ≤ t ∧ t ≤ 57
    · rw [if_pos hd]
      exact sq_dg_y t hd.1 hd.2
    · rw [if_neg hd]
      exact sq_dg_n t ht hd
  · rw [sq_nx_n (by omega), if_neg (by omega)]
    rfl
/-- a number: class and reference -/
theorem sq_rn_eq {B : Nat → Int32} {n : Nat} (hB : sq_cd B n) (p : Nat) {a : Int32} (ha : a = 0 ∨ a = 1) {z : Nat} (hz : z ≤ 99) :
    ((sj_rdn B n a (nI z) p).1 = -1 ∧ (sj_rdn B n a (nI z) p).2 = p ∧ sq_R B n a (nI z) (p, false) = (p, true)) ∨
    (¬ (sj_rdn B n a (nI z) p).1 = -1 ∧ sq_R B n a (nI z) (p, false) = ((sj_rdn B n a (nI z) p).2, false) ∧ sq_V B n a (nI z) (p, false) = (sj_rdn B n a (nI z) p).1) := by
  obtain ⟨t, ht, e, hp⟩ := sj_nx_t hB p
  have ed := sq_d_t e ht hp
  unfold sj_rdn sq_R sq_V
  rw [ed, e]
  by_cases hd : 48 ≤ t ∧ t ≤ 57
  · rw [if_pos hd, sj_dw_y t hd.1 hd.2]
    have hv : t - 48 < 10 := by omega
    generalize t - 48 = v at hv
    by_cases hb : sj_wi (nI v) a 9 = false ∨ nI z < nI v
    · left
      have hb' : nI v < a ∨ nI z < nI v := by
        refine hb.imp (fun h => ?_) id
        rcases ha with rfl | rfl
        · rw [(sj_dw_v v hv).1] at h
          exact absurd h (by decide)
        · rw [(sj_dw_v v hv).2] at h
          have := of_decide_eq_false h
          exact (nI_ltI (a := v) (b := 1) (by omega) (by omega)).mpr (by omega)
      rw [if_pos hb, if_pos hb']
      exact ⟨rfl, rfl, rfl⟩
    · right
      have hb' : ¬ (nI v < a ∨ nI z < nI v) := by
        refine fun h => hb (h.imp (fun h => ?_) id)
        rcases ha with rfl | rfl
        · exact absurd h (nI_pos (by omega))
        · rw [(sj_dw_v v hv).2]
          have := (nI_ltI (a := v) (b := 1) (by omega) (by omega)).mp h
          exact decide_eq_false (by omega)
      rw [if_neg hb, if_neg hb', if_neg hb']
      obtain ⟨u, hu, eu, hpu⟩ := sj_nx_t hB (p + 1)
      have edu := sq_d_t eu hu hpu
      rw [show ((p, false) : sq_Q).1 + 1 = p + 1 from rfl, show ((p, false) : sq_Q).2 = false from rfl, edu, eu]
      by_cases hdu : 48 ≤ u ∧ u ≤ 57
      · rw [if_pos hdu]
        obtain ⟨w, hw, rfl⟩ : ∃ w, w < 10 ∧ u = w + 48 := ⟨u - 48, by omega, by omega⟩
        rw [show w + 48 - 48 = w by omega, (sj_dw_s v hv w hw).1, (sj_dw_s v hv w hw).2]
        by_cases hc : 0 < nI v ∧ sj_wi (nI (w + 48)) 48 57 = true ∧ nI (10 * v + w) ≤ nI z
        · rw [if_pos hc]
          have hc' : ¬ (nI v = 0 ∨ nI w = -1 ∨ nI z < nI (10 * v + w)) := fun h => h.elim (fun h => absurd hc.1 (by rw [h]; decide)) (fun h => h.elim (sj_nIm1 (by omega)) (fun h => Int32.not_lt.mpr hc.2.2 h))
          rw [if_neg hc', if_neg hc']
          exact ⟨sj_nIm1 (by omega), rfl, rfl⟩
        · rw [if_neg hc]
          have hc' : nI v = 0 ∨ nI w = -1 ∨ nI z < nI (10 * v + w) := by
            by_cases h0 : v = 0
            · exact Or.inl (by rw [h0]; rfl)
            · refine Or.inr (Or.inr (Int32.not_le.mp (fun h => hc ⟨Int32.not_le.mp (nI_nle (by omega) (by omega)), sj_dw_2 _ (by omega) (by omega), h⟩)))
          rw [if_pos hc', if_pos hc']
          exact ⟨sj_nIm1 (by omega), rfl, rfl⟩
      · rw [if_neg hdu]
        have hc : ¬ (0 < nI v ∧ sj_wi (nI u) 48 57 = true ∧ 10 * nI v + nI u - 48 ≤ nI z) := fun h => by
          rw [(sj_dw_n u hu hdu).2.2] at h
          exact absurd h.2.1 (by decide)
        rw [if_neg hc, if_pos (Or.inr (Or.inl rfl)), if_pos (Or.inr (Or.inl rfl))]
        exact ⟨sj_nIm1 (by omega), rfl, rfl⟩
  · left
    rw [if_neg hd]
    have hb : sj_wi (nI t - 48) a 9 = false ∨ nI z < nI t - 48 := by
      rcases ha with rfl | rfl
      · exact Or.inl (sj_dw_n t ht hd).1
      · exact Or.inl (sj_dw_n t ht hd).2.1
    have hb' : (-1 : Int32) < a ∨ nI z < -1 := by
      rcases ha with rfl | rfl
      · exact Or.inl (by decide)
      · exact Or.inl (by decide)
    rw [if_pos hb, if_pos hb']
    exact ⟨rfl, rfl, rfl⟩
section
variable {B : Nat → Int32} {n : Nat} {s : sq_Q} {p : Nat}
theorem sq_k8 (h : sq_u8 B n s = (p, true)) (h7 : sq_u7 B n s = (p, true)) : sq_u9 B n s = (p, true) := by
  rw [sq_u9_n (by rw [h7]; exact sq_t_b (by decide)), h]
theorem sq_k7 (h : sq_u7 B n s = (p, true)) : sq_u9 B n s = (p, true) := sq_k8 (by unfold sq_u8; rw [h]; exact sq_S_b (by decide)) h
theorem sq_k6 (h : sq_u6 B n s = (p, true)) : sq_u9 B n s = (p, true) := sq_k7 (by unfold sq_u7; rw [h]; exact sq_R_b (by decide))
theorem sq_k4 (h : sq_u4 B n s = (p, true)) : sq_u9 B n s = (p, true) := sq_k6 (by unfold sq_u6 sq_u5; rw [h, sq_S_b (by decide)]; exact sq_N_b (by decide))
theorem sq_k3b (h : sq_u3 B n s = (p, true)) : sq_u9 B n s = (p, true) := sq_k4 (by unfold sq_u4; rw [h]; exact sq_R_b (by decide))
theorem sq_k2 (h : sq_u2 B n s = (p, true)) : sq_u9 B n s = (p, true) := sq_k3b (by unfold sq_u3; rw [h]; exact sq_N_b (by decide))
end
/-- a stroke: class and reference -/
def sq_same (B : Nat → Int32) (n : Nat) (s : sq_Q) (r : Bool × Nat × Option sj_W5) : Prop := sq_u9 B n s = (r.2.1, !r.1) ∧ (r.1 = true → r.2.2 = some (sq_w5 B n s))
theorem sq_st_eq {B : Nat → Int32} {n : Nat} (hB : sq_cd B n) (p : Nat) : sq_same B n (p, false) (sj_rst B n p) := by
  have e1 : sq_u1 B n (p, false) = (sj_tk B n 45 p, false) := sq_S_f (by decide) (by decide)
  have el : sq_t B n 45 (p, false) = decide (sj_nx B n p = 45) := sq_t_f (by decide) (by decide)
  unfold sj_rst
  generalize hlo : decide (sj_nx B n p = 45) = lo at el ⊢
  generalize sj_tk B n 45 p = p1 at e1 ⊢
  have hbi : sj_bi lo = 0 ∨ sj_bi lo = 1 := by cases lo <;> decide
  have r2 := sq_rn_eq hB p1 hbi (z := 45) (by omega)
  have e2 : sq_u2 B n (p, false) = sq_R B n (sj_bi lo) 45 (p1, false) := by
    unfold sq_u2
    rw [e1, el]
  have ew1 : sq_w1 B n (p, false) = sq_V B n (sj_bi lo) 45 (p1, false) := by
    unfold sq_w1
    rw [e1, el]
  unfold sj_u1
  rcases r2 with ⟨a1, a2, a3⟩ | ⟨a1, a2, a3⟩
  · have a1' : (sj_rdn B n (sj_bi lo) 45 p1).1 = -1 := a1
    rw [if_pos a1', show (sj_rdn B n (sj_bi lo) 45 p1).2 = p1 from a2]
    exact ⟨sq_k2 (e2.trans a3), fun h => absurd h Bool.false_ne_true⟩
  · have a1' : ¬ (sj_rdn B n (sj_bi lo) 45 p1).1 = -1 := a1
    have a2' : sq_R B n (sj_bi lo) 45 (p1, false) = ((sj_rdn B n (sj_bi lo) 45 p1).2, false) := a2
    have a3' : sq_V B n (sj_bi lo) 45 (p1, false) = (sj_rdn B n (sj_bi lo) 45 p1).1 := a3
    rw [if_neg a1']
    rw [a2'] at e2
    rw [a3'] at ew1
    generalize (sj_rdn B n (sj_bi lo) 45 p1).1 = v1 at ew1 ⊢
    generalize (sj_rdn B n (sj_bi lo) 45 p1).2 = p2 at e2 ⊢
    by_cases c58 : sj_nx B n p2 = 58
    · rw [if_pos c58]
      have e3 : sq_u3 B n (p, false) = (sj_tk B n 58 p2, false) := by
        unfold sq_u3
        rw [e2]
        exact sq_N_fy (by decide) (by decide) c58
      generalize sj_tk B n 58 p2 = p3 at e3 ⊢
      have r4 := sq_rn_eq hB p3 (a := 1) (Or.inr rfl) (z := 60) (by omega)
      have e4 : sq_u4 B n (p, false) = sq_R B n 1 60 (p3, false) := by
        unfold sq_u4
        rw [e3]
      have ew2 : (sq_w5 B n (p, false)).2.1 = sq_V B n 1 60 (p3, false) := by rw [sq_w5_2, e3]
      unfold sj_u2
      rcases r4 with ⟨b1, b2, b3⟩ | ⟨b1, b2, b3⟩
      · have b1' : (sj_rdn B n 1 60 p3).1 = -1 := b1
        rw [if_pos b1', show (sj_rdn B n 1 60 p3).2 = p3 from b2]
        exact ⟨sq_k4 (e4.trans b3), fun h => absurd h Bool.false_ne_true⟩
      · have b1' : ¬ (sj_rdn B n 1 60 p3).1 = -1 := b1
        have b2' : sq_R B n 1 60 (p3, false) = ((sj_rdn B n 1 60 p3).2, false) := b2
        have b3' : sq_V B n 1 60 (p3, false) = (sj_rdn B n 1 60 p3).1 := b3
        rw [if_neg b1']
        rw [b2'] at e4
        rw [b3'] at ew2
        generalize (sj_rdn B n 1 60 p3).1 = v2 at ew2 ⊢
        generalize (sj_rdn B n 1 60 p3).2 = p4 at e4 ⊢
        have e5 : sq_u5 B n (p, false) = (sj_tk B n 111 p4, false) := by
          unfold sq_u5
          rw [e4]
          exact sq_S_f (by decide) (by decide)
        have ew3 : (sq_w5 B n (p, false)).2.2.1 = sj_bi (decide (sj_nx B n p4 = 111)) := by
          rw [sq_w5_3, e4, sq_t_f (by decide) (by decide)]
        generalize sj_bi (decide (sj_nx B n p4 = 111)) = v3 at ew3 ⊢
        generalize sj_tk B n 111 p4 = p5 at e5 ⊢
        unfold sj_u2b
        by_cases c112 : sj_nx B n p5 = 112
        · rw [if_pos c112]
          have e6 : sq_u6 B n (p, false) = (sj_tk B n 112 p5, false) := by
            unfold sq_u6
            rw [e5]
            exact sq_N_fy (by decide) (by decide) c112
          generalize sj_tk B n 112 p5 = p6 at e6 ⊢
          have r7 := sq_rn_eq hB p6 (a := 1) (Or.inr rfl) (z := 9) (by omega)
          have e7 : sq_u7 B n (p, false) = sq_R B n 1 9 (p6, false) := by
            unfold sq_u7
            rw [e6]
          have ew4 : (sq_w5 B n (p, false)).2.2.2.1 = sq_V B n 1 9 (p6, false) := by rw [sq_w5_4, e6]
          have ewa : (sq_w5 B n (p, false)).1 = if lo then -v1 else v1 := by
            cases lo
            · rw [sq_w5_1n el, ew1, if_neg Bool.false_ne_true]
            · rw [sq_w5_1y el, ew1, if_pos rfl]
          unfold sj_u3
          rcases r7 with ⟨g1, g2, g3⟩ | ⟨g1, g2, g3⟩
          · have g1' : (sj_rdn B n 1 9 p6).1 = -1 := g1
            rw [if_pos g1', show (sj_rdn B n 1 9 p6).2 = p6 from g2]
            exact ⟨sq_k7 (e7.trans g3), fun h => absurd h Bool.false_ne_true⟩
          · have g1' : ¬ (sj_rdn B n 1 9 p6).1 = -1 := g1
            have g2' : sq_R B n 1 9 (p6, false) = ((sj_rdn B n 1 9 p6).2, false) := g2
            have g3' : sq_V B n 1 9 (p6, false) = (sj_rdn B n 1 9 p6).1 := g3
            rw [if_neg g1']
            rw [g2'] at e7
            rw [g3'] at ew4
            generalize (sj_rdn B n 1 9 p6).1 = v4 at ew4 ⊢
            generalize (sj_rdn B n 1 9 p6).2 = p7 at e7 ⊢
            have e8 : sq_u8 B n (p, false) = (sj_tk B n 126 p7, false) := by
              unfold sq_u8
              rw [e7]
              exact sq_S_f (by decide) (by decide)
            by_cases c126 : sj_nx B n p7 = 126
            · have et : sq_t B n 126 (sq_u7 B n (p, false)) = true := by
                rw [e7, sq_t_f (by decide) (by decide)]
                exact decide_eq_true c126
              rw [if_pos c126]
              generalize sj_tk B n 126 p7 = p8 at e8 ⊢
              have r9 := sq_rn_eq hB p8 (a := 1) (Or.inr rfl) (z := 9) (by omega)
              have e9 : sq_u9 B n (p, false) = sq_R B n 1 9 (p8, false) := by rw [sq_u9_y et, e8]
              have ew5 : (sq_w5 B n (p, false)).2.2.2.2 = sq_V B n 1 9 (p8, false) := by rw [sq_w5_5y et, e8]
              rcases r9 with ⟨k1, k2, k3⟩ | ⟨k1, k2, k3⟩
              · have k1' : (sj_rdn B n 1 9 p8).1 = -1 := k1
                rw [decide_eq_false (fun h => h k1'), show (sj_rdn B n 1 9 p8).2 = p8 from k2]
                exact ⟨e9.trans k3, fun h => absurd h Bool.false_ne_true⟩
              · have k1' : ¬ (sj_rdn B n 1 9 p8).1 = -1 := k1
                have k3' : sq_V B n 1 9 (p8, false) = (sj_rdn B n 1 9 p8).1 := k3
                rw [decide_eq_true k1']
                refine ⟨e9.trans k2, fun _ => congrArg some ?_⟩
                rw [← ewa, ← ew2, ← ew3, ← ew4, ← k3', ← ew5]
            · have et : sq_t B n 126 (sq_u7 B n (p, false)) = false := by
                rw [e7, sq_t_f (by decide) (by decide)]
                exact decide_eq_false c126
              rw [if_neg c126]
              refine ⟨(sq_u9_n et).trans e8, fun _ => congrArg some ?_⟩
              rw [← ewa, ← ew2, ← ew3, ← ew4, ← sq_w5_5n et]
        · rw [if_neg c112]
          obtain ⟨g1, g2⟩ := sq_N_fn (B := B) (n := n) (p := p5) (c := 112) (by decide) (by decide) c112
          rw [g2]
          exact ⟨sq_k6 (by unfold sq_u6; rw [e5]; exact g1), fun h => absurd h Bool.false_ne_true⟩
    · rw [if_neg c58]
      obtain ⟨g1, g2⟩ := sq_N_fn (B := B) (n := n) (p := p2) (c := 58) (by decide) (by decide) c58
      rw [g2]
      exact ⟨sq_k3b (by unfold sq_u3; rw [e2]; exact g1), fun h => absurd h Bool.false_ne_true⟩
/-- the numbers of k strokes -/
theorem sj_wst_cg {f g : Nat → Int32} {k : Nat} (w : sj_W5) (h : ∀ j, j < 5 * k → f j = g j) : ∀ j, j < 5 * (k + 1) → sj_wst f k w j = sj_wst g k w j := by
  intro j hj
  rw [sj_wst_eq, sj_wst_eq]
  unfold upd
  by_cases h4 : j = 5 * k + 4
  · rw [if_pos h4, if_pos h4]
  rw [if_neg h4, if_neg h4]
  by_cases h3 : j = 5 * k + 3
  · rw [if_pos h3, if_pos h3]
  rw [if_neg h3, if_neg h3]
  by_cases h2 : j = 5 * k + 2
  · rw [if_pos h2, if_pos h2]
  rw [if_neg h2, if_neg h2]
  by_cases h1 : j = 5 * k + 1
  · rw [if_pos h1, if_pos h1]
  rw [if_neg h1, if_neg h1]
  by_cases h0 : j = 5 * k
  · rw [if_pos h0, if_pos h0]
  rw [if_neg h0, if_neg h0]
  exact h j (by omega)
/-- a sheet's text: class and reference -/
def sq_sh2 (n : Nat) (c : sq_Q × Nat × (Nat → Int32)) (r : Int32 × Nat × Nat × (Nat → Int32)) : Prop := c.1.1 = r.2.1 ∧ (r.1 = -1 ∨ r.1 = nI r.2.1) ∧ sq_ok n c.1 = decide (r.1 = -1) ∧ (r.1 = -1 → r.2.1 = n ∧ c.2.1 = r.2.2.1 ∧ ∀ j, j < 5 * r.2.2.1 → c.2.2 j = r.2.2.2 j)
theorem sq_rd_eq {B : Nat → Int32} {n : Nat} (hB : sq_cd B n) (hn : n ≤ 60) : ∀ (j k p : Nat) (f g : Nat → Int32), k + j + 1 = 8 → p ≤ n → (∀ i, i < 5 * k → f i = g i) → sq_sh2 n (sq_rd B n j (sq_u9 B n (p, false)) (k + 1) (sj_wst g k (sq_w5 B n (p, false)))) (sj_shx B n (j + 1) k p f)
  | 0, k, p, f, g, hkj, hp, hfg => by
    obtain ⟨h1, h2⟩ := sq_st_eq hB p
    have hle : (sq_u9 B n (p, false)).1 ≤ n := sq_l9 hp
    rw [h1]
    rw [h1] at hle
    show sq_sh2 n (((sj_rst B n p).2.1, !(sj_rst B n p).1), k + 1, _) _
    cases hr : (sj_rst B n p).1
    · rw [sj_shx_1 hr]
      refine ⟨rfl, Or.inr rfl, ?_, fun h => absurd h (sj_nIm1 (Nat.lt_of_le_of_lt hle (by omega)))⟩
      exact (decide_eq_false (sj_nIm1 (Nat.lt_of_le_of_lt hle (by omega)))).symm
    · by_cases hn2 : (sj_rst B n p).2.1 = n
      · rw [sj_shx_2 (by rw [hr]; decide) hn2]
        refine ⟨rfl, Or.inl rfl, ?_, fun _ => ⟨hn2, rfl, ?_⟩⟩
        · show (!false && decide ((sj_rst B n p).2.1 = n)) = true
          rw [decide_eq_true hn2]
          rfl
        · show ∀ i, i < 5 * (k + 1) → sj_wst g k (sq_w5 B n (p, false)) i = sj_f2 (sj_rst B n p) k f i
          unfold sj_f2
          rw [h2 hr]
          exact fun i hi => (sj_wst_cg _ hfg i hi).symm
      · rw [sj_shx_3 (by rw [hr]; decide) hn2 (by omega)]
        refine ⟨rfl, Or.inr rfl, ?_, fun h => absurd h (sj_nIm1 (Nat.lt_of_le_of_lt hle (by omega)))⟩
        show (!false && decide ((sj_rst B n p).2.1 = n)) = decide (nI (sj_rst B n p).2.1 = -1)
        rw [decide_eq_false hn2, decide_eq_false (sj_nIm1 (Nat.lt_of_le_of_lt hle (by omega)))]
        rfl
  | j + 1, k, p, f, g, hkj, hp, hfg => by
    obtain ⟨h1, h2⟩ := sq_st_eq hB p
    have hle : (sq_u9 B n (p, false)).1 ≤ n := sq_l9 hp
    rw [h1]
    rw [h1] at hle
    cases hr : (sj_rst B n p).1
    · rw [sj_shx_1 hr, show (!false) = true from rfl, sq_rd_n (sq_t_b (by decide))]
      refine ⟨rfl, Or.inr rfl, ?_, fun h => absurd h (sj_nIm1 (Nat.lt_of_le_of_lt hle (by omega)))⟩
      exact (decide_eq_false (sj_nIm1 (Nat.lt_of_le_of_lt hle (by omega)))).symm
    · rw [show (!true) = false from rfl]
      by_cases hc : sj_nx B n (sj_rst B n p).2.1 = 44
      · have hlt : (sj_rst B n p).2.1 < n := sj_nx_lt (B := B) (by rw [hc]; decide)
        rw [sj_shx_4 (by rw [hr]; decide) (by omega) (by omega) hc, sq_rd_y (by rw [sq_t_f (by decide) (by decide)]; exact decide_eq_true hc), sq_S_f (by decide) (by decide)]
        refine sq_rd_eq hB hn j (k + 1) _ _ _ (by omega) (sj_tk_le (by decide) hle) ?_
        show ∀ i, i < 5 * (k + 1) → sj_f2 (sj_rst B n p) k f i = sj_wst g k (sq_w5 B n (p, false)) i
        unfold sj_f2
        rw [h2 hr]
        exact fun i hi => sj_wst_cg _ hfg i hi
      · rw [sq_rd_n (by rw [sq_t_f (by decide) (by decide)]; exact decide_eq_false hc)]
        by_cases hn2 : (sj_rst B n p).2.1 = n
        · rw [sj_shx_2 (by rw [hr]; decide) hn2]
          refine ⟨rfl, Or.inl rfl, ?_, fun _ => ⟨hn2, rfl, ?_⟩⟩
          · show (!false && decide ((sj_rst B n p).2.1 = n)) = true
            rw [decide_eq_true hn2]
            rfl
          · show ∀ i, i < 5 * (k + 1) → sj_wst g k (sq_w5 B n (p, false)) i = sj_f2 (sj_rst B n p) k f i
            unfold sj_f2
            rw [h2 hr]
            exact fun i hi => (sj_wst_cg _ hfg i hi).symm
        · have etk : sj_tk B n 44 (sj_rst B n p).2.1 = (sj_rst B n p).2.1 := if_neg hc
          rw [sj_shx_5 (by rw [hr]; decide) hn2 (by omega) hc, etk]
          refine ⟨rfl, Or.inr rfl, ?_, fun h => absurd h (sj_nIm1 (Nat.lt_of_le_of_lt hle (by omega)))⟩
          show (!false && decide ((sj_rst B n p).2.1 = n)) = decide (nI (sj_rst B n p).2.1 = -1)
          rw [decide_eq_false hn2, decide_eq_false (sj_nIm1 (Nat.lt_of_le_of_lt hle (by omega)))]
          rfl
theorem sq_rs_eq {B : Nat → Int32} {n : Nat} (hB : sq_cd B n) (hn : n ≤ 60) (f g : Nat → Int32) : sq_sh2 n (sq_rs B n g) (sj_sht B n f) := sq_rd_eq hB hn 7 0 0 f g rfl (Nat.zero_le _) (fun i hi => by omega)
