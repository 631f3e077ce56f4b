/-! A SHEET LAID: what is read is in its bounds; the state with the sheet -/
def sj_w5r (w : sj_W5) : Prop := (-45 ≤ w.1 ∧ w.1 ≤ 45) ∧ (1 ≤ w.2.1 ∧ w.2.1 ≤ 60) ∧ (w.2.2.1 = 0 ∨ w.2.2.1 = 1) ∧ (1 ≤ w.2.2.2.1 ∧ w.2.2.2.1 ≤ 9) ∧ (0 ≤ w.2.2.2.2 ∧ w.2.2.2.2 ≤ 9)
theorem sj_neg45 {v : Int32} (h0 : 0 ≤ v) (h1 : v ≤ 45) : (-45 ≤ v ∧ v ≤ 45) ∧ (-45 ≤ -v ∧ -v ≤ 45) := by
  obtain ⟨q, hq, rfl⟩ := sj_nIb (n := 45) (by omega) h0 h1
  have hall : ∀ q, q < 46 → (-45 ≤ nI q ∧ nI q ≤ 45) ∧ (-45 ≤ -nI q ∧ -nI q ≤ 45) := by decide +kernel
  exact hall q (by omega)
theorem sj_u3_in {B : Nat → Int32} {n p : Nat} {sl hg lp : Int32} (h : (sj_u3 B n sl hg lp p).1 = true) (h1 : -45 ≤ sl ∧ sl ≤ 45) (h2 : 1 ≤ hg ∧ hg ≤ 60) (h3 : lp = 0 ∨ lp = 1) : ∃ w, (sj_u3 B n sl hg lp p).2.2 = some w ∧ sj_w5r w := by
  unfold sj_u3 at h ⊢
  by_cases c1 : (sj_rdn B n 1 9 p).1 = -1
  · rw [if_pos c1] at h
    exact absurd h Bool.false_ne_true
  · rw [if_neg c1] at h ⊢
    have r1 := sj_rdn_in (a := 1) (z := 9) (by decide) (by decide) (by decide) c1
    by_cases c2 : sj_nx B n (sj_rdn B n 1 9 p).2 = 126
    · rw [if_pos c2] at h ⊢
      have r2 := sj_rdn_in (a := 1) (z := 9) (by decide) (by decide) (by decide) (of_decide_eq_true h)
      exact ⟨_, rfl, h1, h2, h3, r1, Int32.le_trans (by decide) r2.1, r2.2⟩
    · rw [if_neg c2]
      exact ⟨_, rfl, h1, h2, h3, r1, (show (0 : Int32) ≤ 0 by decide), (show (0 : Int32) ≤ 9 by decide)⟩
theorem sj_u2_in {B : Nat → Int32} {n p : Nat} {sl : Int32} (h : (sj_u2 B n sl p).1 = true) (h1 : -45 ≤ sl ∧ sl ≤ 45) : ∃ w, (sj_u2 B n sl p).2.2 = some w ∧ sj_w5r w := by
  unfold sj_u2 at h ⊢
  by_cases c1 : (sj_rdn B n 1 60 p).1 = -1
  · rw [if_pos c1] at h
    exact absurd h Bool.false_ne_true
  · rw [if_neg c1] at h ⊢
    have r1 := sj_rdn_in (a := 1) (z := 60) (by decide) (by decide) (by decide) c1
    unfold sj_u2b at h ⊢
    by_cases c2 : sj_nx B n (sj_tk B n 111 (sj_rdn B n 1 60 p).2) = 112
    · rw [if_pos c2] at h ⊢
      exact sj_u3_in h h1 r1 (by cases decide (sj_nx B n (sj_rdn B n 1 60 p).2 = 111) <;> decide)
    · rw [if_neg c2] at h
      exact absurd h Bool.false_ne_true
theorem sj_rst_in {B : Nat → Int32} {n p : Nat} (h : (sj_rst B n p).1 = true) : ∃ w, (sj_rst B n p).2.2 = some w ∧ sj_w5r w := by
  unfold sj_rst at h ⊢
  generalize decide (sj_nx B n p = 45) = lo at h ⊢
  generalize sj_tk B n 45 p = p at h ⊢
  unfold sj_u1 at h ⊢
  by_cases c1 : (sj_rdn B n (sj_bi lo) 45 p).1 = -1
  · rw [if_pos c1] at h
    exact absurd h Bool.false_ne_true
  · rw [if_neg c1] at h ⊢
    have r1 := sj_rdn_in (a := sj_bi lo) (z := 45) (sj_bi_le lo) (by decide) (by decide) c1
    have r2 := sj_neg45 (Int32.le_trans (sj_bi_le lo) r1.1) r1.2
    by_cases c2 : sj_nx B n (sj_rdn B n (sj_bi lo) 45 p).2 = 58
    · rw [if_pos c2] at h ⊢
      refine sj_u2_in h ?_
      cases lo
      · exact r2.1
      · exact r2.2
    · rw [if_neg c2] at h
      exact absurd h Bool.false_ne_true
/-- strokes in their bounds -/
def sj_stk (f : Nat → Int32) (k : Nat) : Prop := ∀ i, i < k → sj_w5r (f (5 * i), f (5 * i + 1), f (5 * i + 2), f (5 * i + 3), f (5 * i + 4))
theorem sj_stk_s {f : Nat → Int32} {k : Nat} {w : sj_W5} (h : sj_stk f k) (hw : sj_w5r w) : sj_stk (sj_wst f k w) (k + 1) := by
  intro i hi
  by_cases hik : i = k
  · subst hik
    unfold sj_wst
    rw [sj_upd_ne _ _ (by omega), sj_upd_ne _ _ (by omega), sj_upd_ne _ _ (by omega), sj_upd_ne _ _ (by omega), sj_upd_self, sj_upd_ne _ _ (by omega), sj_upd_ne _ _ (by omega), sj_upd_ne _ _ (by omega), sj_upd_self, sj_upd_ne _ _ (by omega), sj_upd_ne _ _ (by omega), sj_upd_self, sj_upd_ne _ _ (by omega), sj_upd_self, sj_upd_self]
    exact hw
  · have e : ∀ c, c < 5 → sj_wst f k w (5 * i + c) = f (5 * i + c) := fun c hc => by
      unfold sj_wst
      rw [sj_upd_ne _ _ (by omega), sj_upd_ne _ _ (by omega), sj_upd_ne _ _ (by omega), sj_upd_ne _ _ (by omega), sj_upd_ne _ _ (by omega)]
    have e0 := e 0 (by omega)
    rw [Nat.add_zero] at e0
    rw [e0, e 1 (by omega), e 2 (by omega), e 3 (by omega), e 4 (by omega)]
    exact h i (by omega)
theorem sj_shx_in {B : Nat → Int32} {n : Nat} (hn : n ≤ 60) : ∀ (j k p : Nat) (f : Nat → Int32), k + j = 8 → 0 < j → p ≤ n → sj_stk f k → (sj_shx B n j k p f).1 = -1 → (1 ≤ (sj_shx B n j k p f).2.2.1 ∧ (sj_shx B n j k p f).2.2.1 ≤ 8) ∧ sj_stk (sj_shx B n j k p f).2.2.2 (sj_shx B n j k p f).2.2.1
  | 0, k, p, f, hkj, h0, hp, hf, h => absurd h0 (Nat.lt_irrefl 0)
  | j + 1, k, p, f, hkj, h0, hp, hf, h => by
    have hle := (sj_rst_le (B := B) hp).1
    by_cases h1 : (sj_rst B n p).1 = false
    · rw [sj_shx_1 h1] at h
      exact absurd h (sj_nIm1 (by omega))
    · obtain ⟨w, hw1, hw2⟩ := sj_rst_in (B := B) (n := n) (p := p) (by
        cases hc : (sj_rst B n p).1
        · exact absurd hc h1
        · rfl)
      have e2 : sj_f2 (sj_rst B n p) k f = sj_wst f k w := by
        unfold sj_f2
        rw [hw1]
      have hst : sj_stk (sj_f2 (sj_rst B n p) k f) (k + 1) := by
        rw [e2]
        exact sj_stk_s hf hw2
      by_cases h2 : (sj_rst B n p).2.1 = n
      · rw [sj_shx_2 h1 h2]
        exact ⟨⟨by show 1 ≤ k + 1; omega, by show k + 1 ≤ 8; omega⟩, hst⟩
      · by_cases h3 : k + 1 = 8
        · rw [sj_shx_3 h1 h2 h3] at h
          exact absurd h (sj_nIm1 (by omega))
        · by_cases h4 : sj_nx B n (sj_rst B n p).2.1 = 44
          · rw [sj_shx_4 h1 h2 h3 h4] at h ⊢
            exact sj_shx_in hn j (k + 1) _ _ (by omega) (by omega) (sj_tk_le (by decide) hle) hst h
          · rw [sj_shx_5 h1 h2 h3 h4] at h
            have h9 : sj_tk B n 44 (sj_rst B n p).2.1 ≤ n := sj_tk_le (by decide) hle
            exact absurd h (sj_nIm1 (by omega))
theorem sj_sht_in {B : Nat → Int32} {n : Nat} (hn : n ≤ 60) {f : Nat → Int32} (h : (sj_sht B n f).1 = -1) : (1 ≤ (sj_sht B n f).2.2.1 ∧ (sj_sht B n f).2.2.1 ≤ 8) ∧ sj_stk (sj_sht B n f).2.2.2 (sj_sht B n f).2.2.1 := sj_shx_in hn 8 0 0 f (by omega) (by omega) (by omega) (fun i hi => by omega) h
section
variable {m : Nat → Int32} {ns k : Nat} {age : Int32} {f : Nat → Int32}
theorem sj_lay_lo {j : Nat} (hj : j < 98 + 42 * ns) (h9 : j ≠ 9) : sj_lay m ns age k f j = m j := by
  unfold sj_lay sj_ly2 sj_cpo sj_ly1
  rw [sj_upd_ne _ _ h9]
  rw [if_neg (by omega), sj_upd_ne _ _ (by omega), sj_upd_ne _ _ (by omega)]
theorem sj_lay_9 : sj_lay m ns age k f 9 = nI (ns + 1) := sj_upd_self _ _ _
theorem sj_lay_a : sj_of (sj_lay m ns age k f) ns 0 = age := by
  unfold sj_of sj_lay sj_ly2 sj_cpo sj_ly1
  rw [sj_upd_ne _ _ (by omega)]
  rw [if_neg (by omega), sj_upd_ne _ _ (by omega), Nat.add_zero, sj_upd_self]
theorem sj_lay_n : sj_of (sj_lay m ns age k f) ns 1 = nI k := by
  unfold sj_of sj_lay sj_ly2 sj_cpo sj_ly1
  rw [sj_upd_ne _ _ (by omega)]
  rw [if_neg (by omega), sj_upd_self]
theorem sj_lay_s {i w : Nat} (hk : k ≤ 8) (hi : i < k) (hw : w < 5) : sj_os (sj_lay m ns age k f) ns i w = f (5 * i + w) := by
  unfold sj_os sj_lay sj_ly2 sj_cpo sj_ly1 sj_lyf
  rw [sj_upd_ne _ _ (by omega)]
  rw [if_pos (by omega), if_pos (by omega)]
  exact congrArg f (by omega)
theorem sj_lay_ns (hk : k ≤ 8) : sj_ns (sj_lay m ns age k f) ns = k := by
  unfold sj_ns
  rw [sj_lay_n]
  exact nI_clamp (by omega)
theorem sj_lay_of {i w : Nat} (hi : i < ns) (hw : w < 42) : sj_of (sj_lay m ns age k f) i w = sj_of m i w := sj_lay_lo (by omega) (by omega)
theorem sj_lay_oa {i w : Nat} (hi : i < 28) (hw : w < 3) : sj_oa (sj_lay m ns age k f) i w = sj_oa m i w := sj_lay_lo (by omega) (by omega)
theorem sj_inv_lay (hI : sj_inv m) (hns : ns = sj_tn (m 9)) (h8 : ns < 8) (ha : sj_wi age 0 99 = true) (hk : 1 ≤ k ∧ k ≤ 8) (hf : sj_stk f k) : sj_inv (sj_lay m ns age k f) := by
  obtain ⟨a, b, c, d, e⟩ := hI
  have e9 : sj_tn (sj_lay m ns age k f 9) = ns + 1 := by
    rw [sj_lay_9]
    exact nI_clamp (by omega)
  have e10 : sj_lay m ns age k f 10 = m 10 := sj_lay_lo (by omega) (by omega)
  have hN := b.2
  refine ⟨⟨?_, by omega⟩, by rw [e10]; exact b, ?_, fun i hi => ?_, fun s hs => ?_⟩
  · rw [e9, sj_lay_9]
  · rw [e10, e9]
    have h3 : sj_oas (sj_lay m ns age k f) (sj_tn (m 10)) (sj_tn (m 9)) := sj_oas_map (fun k => k) (fun k hk => hk) (fun j k hjk hk => hjk) (fun i w hi hw => sj_lay_oa (by omega) hw) c
    refine ⟨fun i hi => ?_, h3.2⟩
    obtain ⟨⟨x1, x2⟩, ⟨y1, y2⟩, z⟩ := h3.1 i hi
    exact ⟨⟨x1, by omega⟩, ⟨y1, by omega⟩, z⟩
  · rw [e9] at hi
    by_cases hin : i = ns
    · subst hin
      refine ⟨?_, ?_, fun j hj => ?_⟩
      · rw [sj_lay_a]
        exact sj_wi_iff.mp ha
      · rw [sj_lay_ns hk.2, sj_lay_n]
        exact ⟨rfl, hk⟩
      · rw [sj_lay_ns hk.2] at hj
        rw [sj_lay_s hk.2 hj (by omega), sj_lay_s hk.2 hj (by omega), sj_lay_s hk.2 hj (by omega), sj_lay_s hk.2 hj (by omega), sj_lay_s hk.2 hj (by omega)]
        exact hf j hj
    · have hd := d i (by omega)
      refine sj_shw_map ?_ (fun w h1 h2 => sj_lay_of (by omega) h2) hd
      rw [sj_lay_of (by omega) (by omega)]
      exact hd.1
  · rw [sj_lay_lo (by omega) (by omega)]
    exact e s hs
theorem sj_uc_lay (hI : sj_inv m) (hns : ns = sj_tn (m 9)) (h8 : ns < 8) (ha : sj_wi age 0 99 = true) (hk : 1 ≤ k ∧ k ≤ 8) (hf : sj_stk f k) (hu : sj_uc m) : sj_uc (sj_lay m ns age k f) := by
  have hN := hI.2.1.2
  exact sj_uc_cg (sj_inv_oav hI) (sj_inv_oav (sj_inv_lay hI hns h8 ha hk hf)) (congrArg sj_tn (sj_lay_lo (by omega) (by omega))) (fun i w hi hw => sj_lay_oa (by omega) hw) hu
end
