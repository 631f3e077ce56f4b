/-! THE SAME: the marks that the class keeps against those that the reference reckons -/
theorem sj_xor_nn {a b : Int32} (ha : 0 ≤ a) (hb : 0 ≤ b) : ¬ a ^^^ b < 0 := by
  intro h
  have h1 : (a ^^^ b).toBitVec.toInt < 0 := Int32.lt_iff_toInt_lt.mp h
  have ha1 : ¬ a.toBitVec.toInt < 0 := Int.not_lt.mpr (Int32.le_iff_toInt_le.mp ha)
  have hb1 : ¬ b.toBitVec.toInt < 0 := Int.not_lt.mpr (Int32.le_iff_toInt_le.mp hb)
  have e : (a ^^^ b).toBitVec.msb = true := by
    rw [BitVec.msb_eq_toInt]
    exact decide_eq_true h1
  rw [Int32.toBitVec_xor, BitVec.msb_xor, BitVec.msb_eq_toInt, BitVec.msb_eq_toInt, decide_eq_false ha1, decide_eq_false hb1] at e
  exact absurd e (by decide)
theorem sj_mean_n {a b : Nat} (ha : a < 2 ^ 31) (hb : b < 2 ^ 31) : sj_mean (nI a) (nI b) = nI (a / b) := by
  unfold sj_mean
  by_cases h0 : b = 0
  · subst h0
    rw [if_pos (by decide), Nat.div_zero]
    rfl
  · rw [if_neg (nI_nle (by omega) hb)]
    unfold sj_fd
    rw [if_neg (fun h => sj_xor_nn (nI_pos' ha) (nI_pos' hb) h.1)]
    exact sj_ndiv ha hb
set_option maxRecDepth 100000 in
theorem sj_mean_dv : ∀ s, s < 721 → ∀ b, b < 8 → sj_mean (nI s - 360) (nI (b + 1)) = sj_dv (nI s - 360) (nI (b + 1)) := by decide +kernel
theorem sj_ab_sz (v : Int32) : sj_ab v = sj_sz v := by
  unfold sj_ab sj_sz
  by_cases h : v < 0
  · rw [if_pos h, if_neg (Int32.not_le.mpr h), Int32.zero_sub]
  · rw [if_neg h, if_pos (Int32.not_lt.mp h)]
theorem sj_mn_cg {f g : Nat → Int32} : ∀ n, (∀ k, k ≤ n → f k = g k) → sj_mn f n = sj_mn g n
  | 0, h => h 0 (Nat.le_refl 0)
  | n + 1, h => by
    unfold sj_mn
    rw [h (n + 1) (Nat.le_refl _), sj_mn_cg n (fun k hk => h k (by omega))]
theorem sj_mx_cg {f g : Nat → Int32} : ∀ n, (∀ k, k ≤ n → f k = g k) → sj_mx f n = sj_mx g n
  | 0, h => h 0 (Nat.le_refl 0)
  | n + 1, h => by
    unfold sj_mx
    rw [h (n + 1) (Nat.le_refl _), sj_mx_cg n (fun k hk => h k (by omega))]
theorem sj_45 {v : Int32} (h0 : -45 ≤ v) (h1 : v ≤ 45) : ∃ t, t ≤ 90 ∧ v = nI t - 45 := by
  have h0' : -45 ≤ v.toInt := Int32.le_iff_toInt_le.mp h0
  have h1' : v.toInt ≤ 45 := Int32.le_iff_toInt_le.mp h1
  refine ⟨(v.toInt + 45).toNat, by omega, ?_⟩
  apply Int32.toInt_inj.mp
  rw [sj_ti_sub (by rw [nI_toInt (by omega)]; omega) (by rw [nI_toInt (by omega)]; omega) (by decide) (by decide), nI_toInt (by omega)]
  show v.toInt = _ - 45
  omega
theorem sj_sl_sum (f : Nat → Int32) : ∀ n, n ≤ 8 → (∀ k, k < n → -45 ≤ f k ∧ f k ≤ 45) → ∃ t, t ≤ 90 * n ∧ sj_sum f n = nI t - nI (45 * n)
  | 0, _, _ => ⟨0, Nat.le_refl _, rfl⟩
  | n + 1, hn, h => by
    obtain ⟨t, ht, e⟩ := sj_sl_sum f n (by omega) (fun k hk => h k (by omega))
    obtain ⟨u, hu, e2⟩ := sj_45 (h n (by omega)).1 (h n (by omega)).2
    refine ⟨t + u, by omega, ?_⟩
    show sj_sum f n + f n = _
    rw [e, e2]
    have a1 : (nI t - nI (45 * n)).toInt = (t : Int) - (45 * n : Nat) := by
      rw [sj_ti_sub (by rw [nI_toInt (by omega)]; omega) (by rw [nI_toInt (by omega)]; omega) (by rw [nI_toInt (by omega)]; omega) (by rw [nI_toInt (by omega)]; omega), nI_toInt (by omega), nI_toInt (by omega)]
    have a2 : (nI u - 45).toInt = (u : Int) - 45 := by
      rw [sj_ti_sub (by rw [nI_toInt (by omega)]; omega) (by rw [nI_toInt (by omega)]; omega) (by decide) (by decide), nI_toInt (by omega)]
      rfl
    have a3 : (nI (t + u) - nI (45 * (n + 1))).toInt = ((t + u : Nat) : Int) - (45 * (n + 1) : Nat) := by
      rw [sj_ti_sub (by rw [nI_toInt (by omega)]; omega) (by rw [nI_toInt (by omega)]; omega) (by rw [nI_toInt (by omega)]; omega) (by rw [nI_toInt (by omega)]; omega), nI_toInt (by omega), nI_toInt (by omega)]
    apply Int32.toInt_inj.mp
    rw [sj_ti_add (by rw [a1]; omega) (by rw [a1]; omega) (by rw [a2]; omega) (by rw [a2]; omega), a1, a2, a3]
    omega
theorem sj_mr_mk {m : Nat → Int32} {i : Nat} (h : sj_shw m i) {f : Nat → Int32} (hf : ∀ k w, k < sj_ns m i → w < 5 → f (5 * k + w) = sj_os m i k w) {j : Nat} (hj : j < 6) : sj_mr f (sj_ns m i) j = sj_mk m i j := by
  have ht : ∀ w, w < 5 → sj_tt f (sj_ns m i) w = sj_tot m i w := fun w hw => sj_sum_cg _ (fun k hk => hf k w hk hw)
  obtain ⟨-, ⟨hn, hn1, hn8⟩, hk⟩ := h
  obtain ⟨t1, e1, l1, u1⟩ := sj_sumI (fun k => sj_os m i k 1) 1 60 (sj_ns m i) (fun k hk9 => sj_nIab (by omega) (hk k hk9).2.1.1 (hk k hk9).2.1.2 (by omega))
  obtain ⟨t2, e2, l2, u2⟩ := sj_sumI (fun k => sj_os m i k 2) 0 1 (sj_ns m i) (fun k hk9 => (hk k hk9).2.2.1.elim (fun e => ⟨0, by omega, by omega, e⟩) (fun e => ⟨1, by omega, by omega, e⟩))
  obtain ⟨t3, e3, l3, u3⟩ := sj_sumI (fun k => sj_os m i k 3) 1 9 (sj_ns m i) (fun k hk9 => sj_nIab (by omega) (hk k hk9).2.2.2.1.1 (hk k hk9).2.2.2.1.2 (by omega))
  have e1' : sj_tot m i 1 = nI t1 := e1
  have e2' : sj_tot m i 2 = nI t2 := e2
  have e3' : sj_tot m i 3 = nI t3 := e3
  have hdiv : ∀ a b : Nat, a / b ≤ a := Nat.div_le_self
  obtain rfl | rfl | rfl | rfl | rfl | rfl : j = 0 ∨ j = 1 ∨ j = 2 ∨ j = 3 ∨ j = 4 ∨ j = 5 := by omega
  · show sj_mean (sj_tt f (sj_ns m i) 0) (nI (sj_ns m i)) = sj_dv (sj_tot m i 0) (nI (sj_ns m i))
    rw [ht 0 (by omega)]
    obtain ⟨t, htt, e⟩ := sj_sl_sum (fun k => sj_os m i k 0) (sj_ns m i) hn8 (fun k hk9 => (hk k hk9).1)
    have e0 : sj_tot m i 0 = nI (t + (360 - 45 * sj_ns m i)) - 360 := by
      refine Eq.trans (show sj_tot m i 0 = _ from e) ?_
      apply Int32.toInt_inj.mp
      rw [sj_ti_sub (by rw [nI_toInt (by omega)]; omega) (by rw [nI_toInt (by omega)]; omega) (by rw [nI_toInt (by omega)]; omega) (by rw [nI_toInt (by omega)]; omega), sj_ti_sub (by rw [nI_toInt (by omega)]; omega) (by rw [nI_toInt (by omega)]; omega) (by decide) (by decide), nI_toInt (by omega), nI_toInt (by omega), nI_toInt (by omega)]
      show (t : Int) - (45 * sj_ns m i : Nat) = ((t + (360 - 45 * sj_ns m i) : Nat) : Int) - 360
      omega
    obtain ⟨b, hb⟩ : ∃ b, sj_ns m i = b + 1 := ⟨sj_ns m i - 1, by omega⟩
    have hs9 : t + (360 - 45 * sj_ns m i) < 721 := by omega
    rw [e0]
    generalize t + (360 - 45 * sj_ns m i) = s at hs9 ⊢
    rw [hb]
    exact sj_mean_dv s hs9 b (by omega)
  · show sj_mx (fun k => sj_ss f k 0) (sj_ns m i - 1) - sj_mn (fun k => sj_ss f k 0) (sj_ns m i - 1) = sj_spr m i
    unfold sj_spr
    rw [sj_mx_cg (f := fun k => sj_ss f k 0) (g := fun k => sj_os m i k 0) _ (fun k hk9 => hf k 0 (by omega) (by omega)), sj_mn_cg (f := fun k => sj_ss f k 0) (g := fun k => sj_os m i k 0) _ (fun k hk9 => hf k 0 (by omega) (by omega))]
  · show sj_mean (sj_mean (sj_sum (fun k => if sj_ss f k 2 = 1 then sj_ss f k 1 else 0) (sj_ns m i)) (sj_tt f (sj_ns m i) 2) * 10) (sj_mean (sj_tt f (sj_ns m i) 1) (nI (sj_ns m i))) = sj_lh m i
    have es : sj_sum (fun k => if sj_ss f k 2 = 1 then sj_ss f k 1 else 0) (sj_ns m i) = sj_sum (fun k => sj_os m i k 2 * sj_os m i k 1) (sj_ns m i) := sj_sum_cg _ (fun k hk9 => by
      show (if f (5 * k + 2) = 1 then f (5 * k + 1) else 0) = sj_os m i k 2 * sj_os m i k 1
      rw [hf k 2 hk9 (by omega), hf k 1 hk9 (by omega)]
      rcases (hk k hk9).2.2.1 with e | e
      · rw [e, if_neg (by decide), Int32.zero_mul]
      · rw [e, if_pos rfl, Int32.one_mul])
    obtain ⟨s, hs, ls, us⟩ := sj_sumI (fun k => sj_os m i k 2 * sj_os m i k 1) 0 60 (sj_ns m i) (fun k hk9 => by
      obtain ⟨q, q1, q2, q3⟩ := sj_nIab (v := sj_os m i k 1) (a := 1) (z := 60) (by omega) (hk k hk9).2.1.1 (hk k hk9).2.1.2 (by omega)
      rcases (hk k hk9).2.2.1 with e | e
      · exact ⟨0, by omega, by omega, by show sj_os m i k 2 * sj_os m i k 1 = nI 0; rw [e, Int32.zero_mul]; rfl⟩
      · exact ⟨q, by omega, q2, by show sj_os m i k 2 * sj_os m i k 1 = nI q; rw [e, Int32.one_mul, q3]⟩)
    unfold sj_lh
    have hd := hdiv s t2
    have hd1 := hdiv t1 (sj_ns m i)
    rw [es, ht 2 (by omega), ht 1 (by omega), e1', e2', hs, sj_mean_n (by omega) (by omega), sj_mean_n (by omega) (by omega), show (10 : Int32) = nI 10 from rfl, sj_nmul, sj_mean_n (by omega) (by omega)]
    by_cases h0 : t2 = 0
    · subst h0
      rw [if_pos (show nI 0 = 0 from rfl), Nat.div_zero, Nat.zero_mul, Nat.zero_div]
      rfl
    · rw [if_neg (nI_ne0 (by omega) (by omega)), sj_ndiv (by omega) (by omega), sj_ndiv (by omega) (by omega), sj_nmul, sj_ndiv (by omega) (by omega)]
  · show sj_mean (sj_tt f (sj_ns m i) 2 * 100) (nI (sj_ns m i)) = 100 * sj_tot m i 2 / nI (sj_ns m i)
    rw [ht 2 (by omega), e2', show (100 : Int32) = nI 100 from rfl, sj_nmul, sj_nmul, sj_mean_n (by omega) (by omega), sj_ndiv (by omega) (by omega), Nat.mul_comm]
  · show sj_mean (sj_tt f (sj_ns m i) 3 * 10) (nI (sj_ns m i)) = 10 * sj_tot m i 3 / nI (sj_ns m i)
    rw [ht 3 (by omega), e3', show (10 : Int32) = nI 10 from rfl, sj_nmul, sj_nmul, sj_mean_n (by omega) (by omega), sj_ndiv (by omega) (by omega), Nat.mul_comm]
  · show sj_mean (sj_sum (fun k => sj_ab (sj_ss f (k + 1) 3 - sj_ss f k 3)) (sj_ns m i - 1) * 10) (nI (sj_ns m i) - 1) = sj_ur m i
    have es : sj_sum (fun k => sj_ab (sj_ss f (k + 1) 3 - sj_ss f k 3)) (sj_ns m i - 1) = sj_sum (fun k => sj_sz (sj_os m i (k + 1) 3 - sj_os m i k 3)) (sj_ns m i - 1) := sj_sum_cg _ (fun k hk9 => by
      show sj_ab (f (5 * (k + 1) + 3) - f (5 * k + 3)) = _
      rw [hf (k + 1) 3 (by omega) (by omega), hf k 3 (by omega) (by omega), sj_ab_sz])
    obtain ⟨s, hs, ls, us⟩ := sj_sumI (fun k => sj_sz (sj_os m i (k + 1) 3 - sj_os m i k 3)) 0 8 (sj_ns m i - 1) (fun k hk9 => by
      obtain ⟨q, q1, q2, q3⟩ := sj_nIab (v := sj_os m i (k + 1) 3) (a := 1) (z := 9) (by omega) (hk (k + 1) (by omega)).2.2.2.1.1 (hk (k + 1) (by omega)).2.2.2.1.2 (by omega)
      obtain ⟨p, p1, p2, p3⟩ := sj_nIab (v := sj_os m i k 3) (a := 1) (z := 9) (by omega) (hk k (by omega)).2.2.2.1.1 (hk k (by omega)).2.2.2.1.2 (by omega)
      have hall : ∀ q, q < 10 → ∀ p, p < 10 → 1 ≤ q → 1 ≤ p → sj_sz (nI q - nI p) = nI ((q - p) + (p - q)) := by decide +kernel
      refine ⟨(q - p) + (p - q), by omega, by omega, ?_⟩
      show sj_sz (sj_os m i (k + 1) 3 - sj_os m i k 3) = _
      rw [q3, p3]
      exact hall q (by omega) p (by omega) q1 p1)
    unfold sj_ur
    rw [es, hs, show (1 : Int32) = nI 1 from rfl, sj_nsub hn1, show (10 : Int32) = nI 10 from rfl, sj_nmul, sj_mean_n (by omega) (by omega)]
    by_cases h0 : sj_ns m i = 1
    · rw [if_pos h0, h0]
      rw [show (1 : Nat) - 1 = 0 from rfl, Nat.div_zero]
      rfl
    · rw [if_neg h0, sj_ndiv (by omega) (by omega)]
