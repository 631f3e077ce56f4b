/-! THE CLASS: a table that tells what the reference's row tells -/
theorem sj_mx_ex (f : Nat → Int32) : ∀ n, ∃ k, k ≤ n ∧ sj_mx f n = f k
  | 0 => ⟨0, Nat.le_refl 0, rfl⟩
  | n + 1 => by
    obtain ⟨k, hk, e⟩ := sj_mx_ex f n
    unfold sj_mx
    by_cases h : sj_mx f n < f (n + 1)
    · rw [if_pos h]
      exact ⟨n + 1, Nat.le_refl _, rfl⟩
    · rw [if_neg h]
      exact ⟨k, by omega, e⟩
theorem sj_mn_ex (f : Nat → Int32) : ∀ n, ∃ k, k ≤ n ∧ sj_mn f n = f k
  | 0 => ⟨0, Nat.le_refl 0, rfl⟩
  | n + 1 => by
    obtain ⟨k, hk, e⟩ := sj_mn_ex f n
    unfold sj_mn
    by_cases h : f (n + 1) < sj_mn f n
    · rw [if_pos h]
      exact ⟨n + 1, Nat.le_refl _, rfl⟩
    · rw [if_neg h]
      exact ⟨k, by omega, e⟩
def sj_sm (v : Int32) : Prop := -10000 ≤ v.toInt ∧ v.toInt ≤ 10000
theorem sj_sm_n {n : Nat} (h : n ≤ 10000) : sj_sm (nI n) := by
  unfold sj_sm
  rw [nI_toInt (by omega)]
  omega
set_option maxRecDepth 100000 in
theorem sj_dv_sm : ∀ s, s < 721 → ∀ b, b < 8 → decide (-10000 ≤ (sj_dv (nI s - 360) (nI (b + 1))).toInt ∧ (sj_dv (nI s - 360) (nI (b + 1))).toInt ≤ 10000) = true := by decide +kernel
/-- marks are small -/
theorem sj_mk_sm {m : Nat → Int32} {i : Nat} (h : sj_shw m i) {j : Nat} (hj : j < 6) : sj_sm (sj_mk m i j) := by
  obtain ⟨-, ⟨hn, hn1, hn8⟩, hk⟩ := h
  obtain ⟨t1, e1, l1, u1⟩ := sj_sumI (fun k => sj_os m i k 1) 1 60 (sj_ns m i) (fun k hk9 => sj_nIab (by omega) (hk k hk9).2.1.1 (hk k hk9).2.1.2 (by omega))
  obtain ⟨t2, e2, l2, u2⟩ := sj_sumI (fun k => sj_os m i k 2) 0 1 (sj_ns m i) (fun k hk9 => (hk k hk9).2.2.1.elim (fun e => ⟨0, by omega, by omega, e⟩) (fun e => ⟨1, by omega, by omega, e⟩))
  obtain ⟨t3, e3, l3, u3⟩ := sj_sumI (fun k => sj_os m i k 3) 1 9 (sj_ns m i) (fun k hk9 => sj_nIab (by omega) (hk k hk9).2.2.2.1.1 (hk k hk9).2.2.2.1.2 (by omega))
  have e1' : sj_tot m i 1 = nI t1 := e1
  have e2' : sj_tot m i 2 = nI t2 := e2
  have e3' : sj_tot m i 3 = nI t3 := e3
  have hdiv : ∀ a b : Nat, a / b ≤ a := Nat.div_le_self
  obtain rfl | rfl | rfl | rfl | rfl | rfl : j = 0 ∨ j = 1 ∨ j = 2 ∨ j = 3 ∨ j = 4 ∨ j = 5 := by omega
  · show sj_sm (sj_dv (sj_tot m i 0) (nI (sj_ns m i)))
    obtain ⟨t, htt, e⟩ := sj_sl_sum (fun k => sj_os m i k 0) (sj_ns m i) hn8 (fun k hk9 => (hk k hk9).1)
    have e0 : sj_tot m i 0 = nI (t + (360 - 45 * sj_ns m i)) - 360 := by
      refine Eq.trans (show sj_tot m i 0 = _ from e) ?_
      apply Int32.toInt_inj.mp
      rw [sj_ti_sub (by rw [nI_toInt (by omega)]; omega) (by rw [nI_toInt (by omega)]; omega) (by rw [nI_toInt (by omega)]; omega) (by rw [nI_toInt (by omega)]; omega), sj_ti_sub (by rw [nI_toInt (by omega)]; omega) (by rw [nI_toInt (by omega)]; omega) (by decide) (by decide), nI_toInt (by omega), nI_toInt (by omega), nI_toInt (by omega)]
      show (t : Int) - (45 * sj_ns m i : Nat) = ((t + (360 - 45 * sj_ns m i) : Nat) : Int) - 360
      omega
    obtain ⟨b, hb⟩ : ∃ b, sj_ns m i = b + 1 := ⟨sj_ns m i - 1, by omega⟩
    have hs9 : t + (360 - 45 * sj_ns m i) < 721 := by omega
    rw [e0]
    generalize t + (360 - 45 * sj_ns m i) = s at hs9 ⊢
    rw [hb]
    have h9 := of_decide_eq_true (sj_dv_sm s hs9 b (by omega))
    exact h9
  · show sj_sm (sj_spr m i)
    unfold sj_spr
    obtain ⟨k, hk1, ek⟩ := sj_mx_ex (fun k => sj_os m i k 0) (sj_ns m i - 1)
    obtain ⟨q, hq1, eq⟩ := sj_mn_ex (fun k => sj_os m i k 0) (sj_ns m i - 1)
    obtain ⟨a, ha, ea⟩ := sj_45 (hk k (by omega)).1.1 (hk k (by omega)).1.2
    obtain ⟨c, hc, ec⟩ := sj_45 (hk q (by omega)).1.1 (hk q (by omega)).1.2
    rw [ek, eq]
    show sj_sm (sj_os m i k 0 - sj_os m i q 0)
    have b1 : (sj_os m i k 0).toInt = (a : Int) - 45 := by
      rw [ea, sj_ti_sub (by rw [nI_toInt (by omega)]; omega) (by rw [nI_toInt (by omega)]; omega) (by decide) (by decide), nI_toInt (by omega)]
      rfl
    have b2 : (sj_os m i q 0).toInt = (c : Int) - 45 := by
      rw [ec, sj_ti_sub (by rw [nI_toInt (by omega)]; omega) (by rw [nI_toInt (by omega)]; omega) (by decide) (by decide), nI_toInt (by omega)]
      rfl
    unfold sj_sm
    rw [sj_ti_sub (by omega) (by omega) (by omega) (by omega), b1, b2]
    omega
  · show sj_sm (sj_lh m i)
    obtain ⟨s, hs, ls, us⟩ := sj_sumI (fun k => sj_os m i k 2 * sj_os m i k 1) 0 60 (sj_ns m i) (fun k hk9 => by
      obtain ⟨q, q1, q2, q3⟩ := sj_nIab (v := sj_os m i k 1) (a := 1) (z := 60) (by omega) (hk k hk9).2.1.1 (hk k hk9).2.1.2 (by omega)
      rcases (hk k hk9).2.2.1 with e | e
      · exact ⟨0, by omega, by omega, by show sj_os m i k 2 * sj_os m i k 1 = nI 0; rw [e, Int32.zero_mul]; rfl⟩
      · exact ⟨q, by omega, q2, by show sj_os m i k 2 * sj_os m i k 1 = nI q; rw [e, Int32.one_mul, q3]⟩)
    unfold sj_lh
    by_cases h0 : t2 = 0
    · rw [e2', h0, if_pos (show nI 0 = 0 from rfl)]
      exact sj_sm_n (n := 0) (by omega)
    · have hd := hdiv s t2
      have hd1 := hdiv t1 (sj_ns m i)
      have hd2 := hdiv (s / t2 * 10) (t1 / sj_ns m i)
      rw [e2', if_neg (nI_ne0 (by omega) (by omega)), hs, e1', show (10 : Int32) = nI 10 from rfl, sj_ndiv (by omega) (by omega), sj_ndiv (by omega) (by omega), sj_nmul, sj_ndiv (by omega) (by omega)]
      exact sj_sm_n (by omega)
  · show sj_sm (100 * sj_tot m i 2 / nI (sj_ns m i))
    have hd := hdiv (100 * t2) (sj_ns m i)
    rw [e2', show (100 : Int32) = nI 100 from rfl, sj_nmul, sj_ndiv (by omega) (by omega)]
    exact sj_sm_n (by omega)
  · show sj_sm (10 * sj_tot m i 3 / nI (sj_ns m i))
    have hd := hdiv (10 * t3) (sj_ns m i)
    rw [e3', show (10 : Int32) = nI 10 from rfl, sj_nmul, sj_ndiv (by omega) (by omega)]
    exact sj_sm_n (by omega)
  · show sj_sm (sj_ur m i)
    obtain ⟨s, hs, ls, us⟩ := sj_sumI (fun k => sj_sz (sj_os m i (k + 1) 3 - sj_os m i k 3)) 0 8 (sj_ns m i - 1) (fun k hk9 => by
      obtain ⟨q, q1, q2, q3⟩ := sj_nIab (v := sj_os m i (k + 1) 3) (a := 1) (z := 9) (by omega) (hk (k + 1) (by omega)).2.2.2.1.1 (hk (k + 1) (by omega)).2.2.2.1.2 (by omega)
      obtain ⟨p, p1, p2, p3⟩ := sj_nIab (v := sj_os m i k 3) (a := 1) (z := 9) (by omega) (hk k (by omega)).2.2.2.1.1 (hk k (by omega)).2.2.2.1.2 (by omega)
      have hall : ∀ q, q < 10 → ∀ p, p < 10 → 1 ≤ q → 1 ≤ p → sj_sz (nI q - nI p) = nI ((q - p) + (p - q)) := by decide +kernel
      refine ⟨(q - p) + (p - q), by omega, by omega, ?_⟩
      show sj_sz (sj_os m i (k + 1) 3 - sj_os m i k 3) = _
      rw [q3, p3]
      exact hall q (by omega) p (by omega) q1 p1)
    unfold sj_ur
    by_cases h0 : sj_ns m i = 1
    · rw [if_pos h0]
      exact sj_sm_n (n := 0) (by omega)
    · have hd := hdiv (s * 10) (sj_ns m i - 1)
      rw [if_neg h0, hs, show (1 : Int32) = nI 1 from rfl, sj_nsub hn1, show (10 : Int32) = nI 10 from rfl, sj_nmul, sj_ndiv (by omega) (by omega)]
      exact sj_sm_n (by omega)
theorem sj_sz_sm {a b : Int32} (ha : sj_sm a) (hb : sj_sm b) : ∃ q, q ≤ 20000 ∧ sj_sz (a - b) = nI q := by
  obtain ⟨a1, a2⟩ := ha
  obtain ⟨b1, b2⟩ := hb
  have e : (a - b).toInt = a.toInt - b.toInt := sj_ti_sub (by omega) (by omega) (by omega) (by omega)
  unfold sj_sz
  by_cases h : a - b < 0
  · have h1 : (a - b).toInt < 0 := Int32.lt_iff_toInt_lt.mp h
    rw [if_pos h]
    refine ⟨(-(a - b).toInt).toNat, by omega, ?_⟩
    apply Int32.toInt_inj.mp
    rw [sj_ti_neg (by omega) (by omega), nI_toInt (by omega)]
    omega
  · have h1 : 0 ≤ (a - b).toInt := Int32.le_iff_toInt_le.mp (Int32.not_lt.mp h)
    rw [if_neg h]
    refine ⟨(a - b).toInt.toNat, by omega, ?_⟩
    apply Int32.toInt_inj.mp
    rw [nI_toInt (by omega)]
    omega
theorem sj_nsub_le {d a s : Nat} (hd : d ≤ 20000) (ha : a ≤ 20000) (hs : s ≤ 20000) : (nI d - nI a ≤ nI s) ↔ (nI d ≤ nI s + nI a) := by
  have e : (nI d - nI a).toInt = (d : Int) - a := by
    rw [sj_ti_sub (by rw [nI_toInt (by omega)]; omega) (by rw [nI_toInt (by omega)]; omega) (by rw [nI_toInt (by omega)]; omega) (by rw [nI_toInt (by omega)]; omega), nI_toInt (by omega), nI_toInt (by omega)]
  rw [nI_add, nI_leI (by omega) (by omega), Int32.le_iff_toInt_le, e, nI_toInt (by omega)]
  omega
/-- the marks that agree, bit by bit, faded ones too -/
def sq_agr (g1 g2 se : Nat → Int32) (al : Int32) : Nat → Int32
  | 0 => 0
  | j + 1 => if sj_ab (g1 j - g2 j) ≤ se j + al then sq_agr g1 g2 se al j ||| (1 <<< (nI j &&& 31)) else sq_agr g1 g2 se al j
theorem sq_agr_s (g1 g2 se : Nat → Int32) (al : Int32) (j : Nat) : sq_agr g1 g2 se al (j + 1) = sq_agr g1 g2 se al j ||| (if decide (sj_ab (g1 j - g2 j) ≤ se j + al) then 1 <<< (nI j &&& 31) else 0) := by
  show (if sj_ab (g1 j - g2 j) ≤ se j + al then sq_agr g1 g2 se al j ||| (1 <<< (nI j &&& 31)) else sq_agr g1 g2 se al j) = _
  by_cases h : sj_ab (g1 j - g2 j) ≤ se j + al
  · rw [if_pos h, decide_eq_true h, if_pos rfl]
  · rw [if_neg h, decide_eq_false h, if_neg Bool.false_ne_true, Int32.or_zero]
theorem sq_agr_m6 (g1 g2 se : Nat → Int32) (al : Int32) : sq_agr g1 g2 se al 6 = sj_m6 (decide (sj_ab (g1 0 - g2 0) ≤ se 0 + al)) (decide (sj_ab (g1 1 - g2 1) ≤ se 1 + al)) (decide (sj_ab (g1 2 - g2 2) ≤ se 2 + al)) (decide (sj_ab (g1 3 - g2 3) ≤ se 3 + al)) (decide (sj_ab (g1 4 - g2 4) ≤ se 4 + al)) (decide (sj_ab (g1 5 - g2 5) ≤ se 5 + al)) := by
  rw [sq_agr_s, sq_agr_s, sq_agr_s, sq_agr_s, sq_agr_s, sq_agr_s]
  rfl
theorem sj_m6_f : ∀ b0 b1 b2 b3 b4 b5 : Bool, sj_m6 b0 b1 b2 b3 b4 b5 &&& ((0 : Int32) ^^^ -1) = sj_m6 b0 b1 b2 b3 b4 b5 ∧ sj_m6 b0 b1 b2 b3 b4 b5 &&& ((12 : Int32) ^^^ -1) = sj_m6 b0 b1 false false b4 b5 := by decide +kernel
def sq_fd (m : Nat → Int32) (a : Int32) : Int32 := if m 6 ≤ a then 12 else 0
def sq_mxx (a b : Int32) : Int32 := if a < b then b else a
theorem sq_fd_or (m : Nat → Int32) (i e : Nat) : sq_fd m (sq_mxx (sj_of m i 0) (sj_of m e 0)) = if (sj_hf m i || sj_hf m e) = true then 12 else 0 := by
  unfold sq_fd sq_mxx sj_hf
  by_cases h : sj_of m i 0 < sj_of m e 0
  · rw [if_pos h]
    by_cases h1 : m 6 ≤ sj_of m e 0
    · rw [if_pos h1, decide_eq_true h1, Bool.or_true, if_pos rfl]
    · have h2 : ¬ m 6 ≤ sj_of m i 0 := fun h3 => h1 (Int32.le_trans h3 (Int32.le_of_lt h))
      rw [if_neg h1, decide_eq_false h1, decide_eq_false h2]
      rfl
  · rw [if_neg h]
    by_cases h1 : m 6 ≤ sj_of m i 0
    · rw [if_pos h1, decide_eq_true h1, Bool.true_or, if_pos rfl]
    · have h2 : ¬ m 6 ≤ sj_of m e 0 := fun h3 => h1 (Int32.le_trans h3 (Int32.not_lt.mp h))
      rw [if_neg h1, decide_eq_false h1, decide_eq_false h2]
      rfl
theorem sj_inv_age {m : Nat → Int32} (hI : sj_inv m) {i : Nat} (hi : i < sj_tn (m 9)) : ∃ a, a ≤ 99 ∧ sj_of m i 0 = nI a := by
  have h := (hI.2.2.2.1 i hi).1
  exact sj_nIb (n := 99) (by omega) h.1 h.2
theorem sj_all_al {m : Nat → Int32} (hI : sj_inv m) {i e : Nat} (hi : i < sj_tn (m 9)) (he : e < sj_tn (m 9)) : ∃ a, a ≤ 99 ∧ sj_sz (sj_of m i 0 - sj_of m e 0) / 10 = nI a := by
  obtain ⟨a, ha, ea⟩ := sj_inv_age hI hi
  obtain ⟨b, hb, eb⟩ := sj_inv_age hI he
  have hall : ∀ q, q < 100 → ∀ p, p < 100 → sj_sz (nI q - nI p) = nI ((q - p) + (p - q)) := by decide +kernel
  have hd := Nat.div_le_self ((a - b) + (b - a)) 10
  refine ⟨((a - b) + (b - a)) / 10, by omega, ?_⟩
  rw [ea, eb, hall a (by omega) b (by omega), show (10 : Int32) = nI 10 from rfl, sj_ndiv (by omega) (by omega)]
theorem sj_set_50 {m : Nat → Int32} (hI : sj_inv m) {j : Nat} (hj : j < 6) : ∃ s, s ≤ 50 ∧ m j = nI s := by
  have h := hI.2.2.2.2 j (by omega)
  have e : sj_mst (nI j) = nI 50 := by
    obtain rfl | rfl | rfl | rfl | rfl | rfl : j = 0 ∨ j = 1 ∨ j = 2 ∨ j = 3 ∨ j = 4 ∨ j = 5 := by omega
    all_goals decide
  rw [e] at h
  exact sj_nIb (n := 50) (by omega) h.1 h.2
theorem sj_dfr_le {m : Nat → Int32} (hI : sj_inv m) {i e : Nat} (hi : i < sj_tn (m 9)) (he : e < sj_tn (m 9)) {j : Nat} (hj : j < 6) : decide (sj_ab (sj_mk m i j - sj_mk m e j) ≤ m j + sj_ab (sj_of m i 0 - sj_of m e 0) / 10) = decide (sj_dfr m i e j ≤ m j) := by
  obtain ⟨a, ha, ea⟩ := sj_all_al hI hi he
  obtain ⟨s, hs, es⟩ := sj_set_50 hI hj
  obtain ⟨q, hq, eq⟩ := sj_sz_sm (sj_mk_sm (hI.2.2.2.1 i hi) hj) (sj_mk_sm (hI.2.2.2.1 e he) hj)
  unfold sj_dfr
  rw [sj_ab_sz, sj_ab_sz, ea, es, eq]
  exact decide_eq_decide.mpr (sj_nsub_le hq (by omega) (by omega)).symm
theorem sq_ag_eq {m : Nat → Int32} (hI : sj_inv m) {i e : Nat} (hi : i < sj_tn (m 9)) (he : e < sj_tn (m 9)) {g1 g2 se : Nat → Int32} (h1 : ∀ j, j < 6 → g1 j = sj_mk m i j) (h2 : ∀ j, j < 6 → g2 j = sj_mk m e j) (h3 : ∀ j, j < 9 → se j = m j) : sq_agr g1 g2 se (sj_ab (sj_of m i 0 - sj_of m e 0) / 10) 6 &&& (sq_fd m (sq_mxx (sj_of m i 0) (sj_of m e 0)) ^^^ -1) = sj_agr m i e 6 := by
  have k : ∀ j, j < 6 → decide (sj_ab (g1 j - g2 j) ≤ se j + sj_ab (sj_of m i 0 - sj_of m e 0) / 10) = decide (sj_dfr m i e j ≤ m j) := fun j hj => by
    rw [h1 j hj, h2 j hj, h3 j (by omega)]
    exact sj_dfr_le hI hi he hj
  rw [sq_agr_m6, sj_agr_m6, k 0 (by omega), k 1 (by omega), k 2 (by omega), k 3 (by omega), k 4 (by omega), k 5 (by omega), sq_fd_or]
  unfold sj_agb sj_gn
  cases hc : (sj_hf m i || sj_hf m e)
  · rw [if_neg Bool.false_ne_true, (sj_m6_f _ _ _ _ _ _).1]
    rfl
  · rw [if_pos rfl, (sj_m6_f _ _ _ _ _ _).2]
    rfl
theorem sj_gn_bit {m : Nat → Int32} {i e j : Nat} (hj : j < 6) : (sq_fd m (sq_mxx (sj_of m i 0) (sj_of m e 0)) &&& (1 <<< (nI j &&& 31)) = 0) ↔ sj_gn m i e j = false := by
  rw [sq_fd_or]
  unfold sj_gn
  cases hc : (sj_hf m i || sj_hf m e)
  · rw [if_neg Bool.false_ne_true]
    obtain rfl | rfl | rfl | rfl | rfl | rfl : j = 0 ∨ j = 1 ∨ j = 2 ∨ j = 3 ∨ j = 4 ∨ j = 5 := by omega
    all_goals decide
  · rw [if_pos rfl]
    obtain rfl | rfl | rfl | rfl | rfl | rfl : j = 0 ∨ j = 1 ∨ j = 2 ∨ j = 3 ∨ j = 4 ∨ j = 5 := by omega
    all_goals decide
/-! the table -/
def sq_tl (S : sj_St) (D : Nat → Nat) : Prop := sj_kd S (D 0) = some 4 ∧ sj_rf S (D 0) 0 = some (D 2) ∧ (sj_rf S (D 0) 1 = some (D 1) ∧ sj_kd S (D 1) = some 9 ∧ sj_il S (D 1) = 8) ∧ (sj_rf S (D 0) 2 = some (D 3) ∧ sj_rw S (D 3) (D 4) 8) ∧ (sj_rf S (D 0) 4 = some (D 5) ∧ sq_ol S (D 5) (fun i => D (5 + i))) ∧ (sj_rf S (D 0) 5 = some (D 14) ∧ sj_rw S (D 14) (D 15) 9) ∧ ∀ i j, i < 16 → j < 16 → D i = D j → i = j
/-- a sheet that is as the reference's row has it -/
def sq_sm (S : sj_St) (F : Nat → Prop) (m : Nat → Int32) (i a : Nat) : Prop := ∃ rn cn rm cm, sq_sh S a rn cn rm cm (sj_ns m i) ∧ (¬ F a ∧ ¬ F cn ∧ ¬ F cm) ∧ (∀ k w, k < sj_ns m i → w < 5 → sj_ia S cn (5 * k + w) = sj_os m i k w) ∧ ∀ j, j < 6 → sj_ia S cm j = sj_mk m i j
def sq_T (S : sj_St) (F : Nat → Prop) (D : Nat → Nat) (m : Nat → Int32) : Prop := sq_tl S D ∧ (sj_fi S (D 0) 3 = m 9 ∧ sj_fi S (D 0) 6 = m 12 ∧ sj_fi S (D 0) 7 = m 13) ∧ (∀ i, i < sj_tn (m 9) → sj_ia S (D 4) i = sj_of m i 0) ∧ (∀ j, j < 9 → sj_ia S (D 15) j = m j) ∧ sq_oR (sq_or S (D 5) (fun i => D (5 + i))) m ∧ ∀ i, i < sj_tn (m 9) → ∃ a, sj_ra S (D 1) i = some a ∧ sq_sm S F m i a
theorem sq_os_eq {S : sj_St} {o : Nat} {d : Nat → Nat} {v : Int32} (h0 : sj_fi S o 0 = v) : sq_os S o d (v, sj_fi S o 1, sj_ia S (d 2), sj_ia S (d 4), sj_ia S (d 6), sj_ia S (d 8)) = S := by
  rw [← h0]
  exact sq_os_id S o d
section
variable {S : sj_St} {o : Nat} {d : Nat → Nat} {m : Nat → Int32}
theorem sq_c_handOf (l : Launch) (h : sq_ol S o d) (hv : sj_oav m) (hr : sq_oR (sq_or S o d) m) {i : Nat} (hi : i < 8) : sj_Ctr l mX1_handOf [.ref o, .int (nI i)] S (sj_eq (some (.int (sj_hH m (-1) i))) S) := by
  have e := sq_os_eq (d := d) (show sj_fi S o 0 = nI (sj_tn (m 10)) from hr.1.trans hv.2.1.1)
  have h7 : ∀ i, i < 8 → sj_ia S (d 8) i = sj_hH m (-1) i := hr.2.2.2
  have t := ct_X1_handOf l h hv.2.1.2 (w := sj_fi S o 1) (f1 := sj_ia S (d 2)) (f2 := sj_ia S (d 4)) (f3 := sj_ia S (d 6)) (f7 := sj_ia S (d 8)) (nI i)
  rw [e, sj_at8 _ hi, h7 i hi] at t
  exact t
theorem sq_c_ofSheet (l : Launch) (h : sq_ol S o d) (hv : sj_oav m) (hr : sq_oR (sq_or S o d) m) (i : Nat) : sj_Ctr l mX1_ofSheet [.ref o, .int (nI i)] S (sj_eq (some (.int (sj_oof m i))) S) := by
  have e := sq_os_eq (d := d) (show sj_fi S o 0 = nI (sj_tn (m 10)) from hr.1.trans hv.2.1.1)
  have hf : ∀ k, k < sj_tn (m 10) → sj_ia S (d 2) k = sj_oa m k 0 ∧ sj_ia S (d 4) k = sj_oa m k 1 ∧ sj_ia S (d 6) k = sj_oa m k 2 := hr.2.2.1
  have t := ct_X1_ofSheet l h hv.2.1.2 (w := sj_fi S o 1) (f1 := sj_ia S (d 2)) (f2 := sj_ia S (d 4)) (f3 := sj_ia S (d 6)) (f7 := sj_ia S (d 8)) (nI i)
  rw [e, sq_ofs_m hf i] at t
  exact t
theorem sq_c_ofOneHand (l : Launch) (h : sq_ol S o d) (hv : sj_oav m) (hr : sq_oR (sq_or S o d) m) : sj_Ctr l mX1_ofOneHand [.ref o] S (sj_eq (some (.int (sj_lko m))) S) := by
  have e := sq_os_eq (d := d) (show sj_fi S o 0 = nI (sj_tn (m 10)) from hr.1.trans hv.2.1.1)
  have hf : ∀ k, k < sj_tn (m 10) → sj_ia S (d 2) k = sj_oa m k 0 ∧ sj_ia S (d 4) k = sj_oa m k 1 ∧ sj_ia S (d 6) k = sj_oa m k 2 := hr.2.2.1
  have t := ct_X1_ofOneHand l h hv.2.1.2 (w := sj_fi S o 1) (f1 := sj_ia S (d 2)) (f2 := sj_ia S (d 4)) (f3 := sj_ia S (d 6)) (f7 := sj_ia S (d 8))
  rw [e, show sj_sum (sj_ia S (d 6)) (sj_tn (m 10)) = sj_lko m from sj_sum_cg _ (fun k hk => (hf k hk).2.2)] at t
  exact t
theorem sq_c_placeOf (l : Launch) (h : sq_ol S o d) (hI : sj_inv m) (hr : sq_oR (sq_or S o d) m) {i e : Nat} (hi : i < 8) (he : e < 8) : sj_Ctr l mX1_placeOf [.ref o, .int (nI i), .int (nI e)] S (sj_eq (some (.int (sj_fo m i e))) S) := by
  have e9 := sq_os_eq (d := d) (show sj_fi S o 0 = nI (sj_tn (m 10)) from hr.1.trans hI.2.1.1)
  have hf : ∀ k, k < sj_tn (m 10) → sj_ia S (d 2) k = sj_oa m k 0 ∧ sj_ia S (d 4) k = sj_oa m k 1 ∧ sj_ia S (d 6) k = sj_oa m k 2 := hr.2.2.1
  have t := ct_X1_placeOf l h hI.2.1.2 (w := sj_fi S o 1) (f1 := sj_ia S (d 2)) (f2 := sj_ia S (d 4)) (f3 := sj_ia S (d 6)) (f7 := sj_ia S (d 8)) (nI i) (nI e)
  rw [e9, sq_po_fo hI hf (by omega) (by omega)] at t
  exact t
theorem sq_c_kindOf (l : Launch) (h : sq_ol S o d) (hI : sj_inv m) (hr : sq_oR (sq_or S o d) m) {i e : Nat} (hi : i < 8) (he : e < 8) : sj_Ctr l mX1_kindOf [.ref o, .int (nI i), .int (nI e)] S (sj_eq (some (.int (sj_too m i e))) S) := by
  have e9 := sq_os_eq (d := d) (show sj_fi S o 0 = nI (sj_tn (m 10)) from hr.1.trans hI.2.1.1)
  have hf : ∀ k, k < sj_tn (m 10) → sj_ia S (d 2) k = sj_oa m k 0 ∧ sj_ia S (d 4) k = sj_oa m k 1 ∧ sj_ia S (d 6) k = sj_oa m k 2 := hr.2.2.1
  have t := ct_X1_kindOf l h hI.2.1.2 (w := sj_fi S o 1) (f1 := sj_ia S (d 2)) (f2 := sj_ia S (d 4)) (f3 := sj_ia S (d 6)) (f7 := sj_ia S (d 8)) (nI i) (nI e)
  rw [e9, sq_ko_too hI hf (by omega) (by omega)] at t
  exact t
theorem sq_c_leads (l : Launch) (h : sq_ol S o d) (hv : sj_oav m) (hr : sq_oR (sq_or S o d) m) {i e : Nat} (hi : i < sj_tn (m 9)) (he : e < sj_tn (m 9)) : sj_Ctr l mX1_leads [.ref o, .int (nI i), .int (nI e), .int (-1)] S (sj_eq (some (.int (sj_bi (sj_a1 m i e)))) S) := by
  have e9 := sq_os_eq (d := d) (show sj_fi S o 0 = nI (sj_tn (m 10)) from hr.1.trans hv.2.1.1)
  have hf : ∀ k, k < sj_tn (m 10) → sj_ia S (d 2) k = sj_oa m k 0 ∧ sj_ia S (d 4) k = sj_oa m k 1 ∧ sj_ia S (d 6) k = sj_oa m k 2 := hr.2.2.1
  have t := ct_X1_leads l h hv.2.1.2 (w := sj_fi S o 1) (f1 := sj_ia S (d 2)) (f2 := sj_ia S (d 4)) (f3 := sj_ia S (d 6)) (f7 := sj_ia S (d 8)) (nI i) (nI e) (-1)
  rw [e9, sq_lds_hH hv hf (-1) hi he] at t
  exact t
theorem sq_c_numberOf (l : Launch) (h : sq_ol S o d) (hv : sj_oav m) (hr : sq_oR (sq_or S o d) m) {k q : Nat} (hk : k < sj_tn (m 10)) (hq : q < 4) : sj_Ctr l mX1_numberOf [.ref o, .int (nI k), .int (nI q)] S (sj_eq (some (.int (sj_tlo m k q))) S) := by
  have e9 := sq_os_eq (d := d) (show sj_fi S o 0 = nI (sj_tn (m 10)) from hr.1.trans hv.2.1.1)
  have hf : ∀ k, k < sj_tn (m 10) → sj_ia S (d 2) k = sj_oa m k 0 ∧ sj_ia S (d 4) k = sj_oa m k 1 ∧ sj_ia S (d 6) k = sj_oa m k 2 := hr.2.2.1
  have t := ct_X1_numberOf l h hv.2.1.2 (w := sj_fi S o 1) (f1 := sj_ia S (d 2)) (f2 := sj_ia S (d 4)) (f3 := sj_ia S (d 6)) (f7 := sj_ia S (d 8)) k q (by have := hv.2.1.2; omega) hq
  rw [e9, sq_no_tlo hv hf hk hq] at t
  exact t
theorem sq_c_forbid (l : Launch) (h : sq_ol S o d) (hv : sj_oav m) (hu : sj_uc m) (hr : sq_oR (sq_or S o d) m) {i e : Nat} (hi : i < sj_tn (m 9)) (he : e < sj_tn (m 9)) : sj_Ctr l mX1_forbidJoining [.ref o, .int (nI i), .int (nI e)] S (sj_eq (some (.int (sj_bi (sj_brk m i e (sj_tn (m 10)))))) S) := by
  have e9 := sq_os_eq (d := d) (show sj_fi S o 0 = nI (sj_tn (m 10)) from hr.1.trans hv.2.1.1)
  have hf : ∀ k, k < sj_tn (m 10) → sj_ia S (d 2) k = sj_oa m k 0 ∧ sj_ia S (d 4) k = sj_oa m k 1 ∧ sj_ia S (d 6) k = sj_oa m k 2 := hr.2.2.1
  have h7 : ∀ i, i < 8 → sj_ia S (d 8) i = sj_hH m (-1) i := hr.2.2.2
  have t := ct_X1_forbidJoining l h hv.2.1.2 (w := sj_fi S o 1) (f1 := sj_ia S (d 2)) (f2 := sj_ia S (d 4)) (f3 := sj_ia S (d 6)) (f7 := sj_ia S (d 8)) (nI i) (nI e)
  rw [e9, sq_fb_brk hv hu hf h7 hi he] at t
  exact t
end
