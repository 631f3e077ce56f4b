/-! THE REFERENCE: a likeness behind years, the share of hands, the digest -/
/-- agreeing marks: six bits -/
def sj_m6 (b0 b1 b2 b3 b4 b5 : Bool) : Int32 := ((((((0 : Int32) ||| (if b0 then 1 <<< (nI 0 &&& 31) else 0)) ||| (if b1 then 1 <<< (nI 1 &&& 31) else 0)) ||| (if b2 then 1 <<< (nI 2 &&& 31) else 0)) ||| (if b3 then 1 <<< (nI 3 &&& 31) else 0)) ||| (if b4 then 1 <<< (nI 4 &&& 31) else 0)) ||| (if b5 then 1 <<< (nI 5 &&& 31) else 0)
theorem sj_agr_m6 (m : Nat → Int32) (i e : Nat) : sj_agr m i e 6 = sj_m6 (sj_agb m i e 0) (sj_agb m i e 1) (sj_agb m i e 2) (sj_agb m i e 3) (sj_agb m i e 4) (sj_agb m i e 5) := rfl
theorem sj_m6_ok : ∀ b0 b1 b2 b3 b4 b5 : Bool, 0 ≤ sj_ones (sj_m6 b0 b1 b2 b3 b4 b5) ∧ sj_ones (sj_m6 b0 b1 b2 b3 b4 b5) ≤ 6 ∧ sj_bc (sj_m6 b0 b1 b2 b3 b4 b5) = sj_ones (sj_m6 b0 b1 b2 b3 b4 b5) := by decide +kernel
theorem sj_lik_6 (m : Nat → Int32) (i e : Nat) : ∃ x, x ≤ 6 ∧ sj_lik m i e = nI x := by
  unfold sj_lik
  rw [sj_agr_m6]
  exact sj_nIb (n := 6) (by omega) (sj_m6_ok _ _ _ _ _ _).1 (sj_m6_ok _ _ _ _ _ _).2.1
/-- pairs of one hand, and their likeness, over the first k sheets -/
def sj_shp (m : Nat → Int32) : Nat → Int32
  | 0 => 0
  | k + 1 => sj_shp m k + sj_sum (fun e => sj_bi (sj_a1 m k e)) k
def sj_shl (m : Nat → Int32) : Nat → Int32
  | 0 => 0
  | k + 1 => sj_shl m k + sj_sum (fun e => if sj_a1 m k e then sj_lik m k e else 0) k
def sj_shr (m : Nat → Int32) : UInt64 := if sj_shp m (sj_tn (m 9)) = 0 then FP.dconst1 else FP.ddiv (FP.i2d (sj_shl m (sj_tn (m 9)))) (FP.i2d (6 * sj_shp m (sj_tn (m 9))))
theorem sj_sh_in (m : Nat → Int32) (k : Nat) : ∀ e, ∃ c s, sj_sum (fun e => sj_bi (sj_a1 m k e)) e = nI c ∧ sj_sum (fun e => if sj_a1 m k e then sj_lik m k e else 0) e = nI s ∧ c ≤ e ∧ s ≤ 6 * c
  | 0 => ⟨0, 0, rfl, rfl, Nat.le_refl _, Nat.le_refl _⟩
  | e + 1 => by
    obtain ⟨c, s, h1, h2, h3, h4⟩ := sj_sh_in m k e
    obtain ⟨x, hx, ex⟩ := sj_lik_6 m k e
    show ∃ c s, sj_sum (fun e => sj_bi (sj_a1 m k e)) e + sj_bi (sj_a1 m k e) = nI c ∧ sj_sum (fun e => if sj_a1 m k e then sj_lik m k e else 0) e + (if sj_a1 m k e then sj_lik m k e else 0) = nI s ∧ c ≤ e + 1 ∧ s ≤ 6 * c
    rw [h1, h2]
    cases hb : sj_a1 m k e with
    | false => exact ⟨c, s, Int32.add_zero _, by rw [if_neg Bool.false_ne_true]; exact Int32.add_zero _, by omega, h4⟩
    | true => exact ⟨c + 1, s + x, nI_1 c, by rw [if_pos rfl, ex, nI_add], by omega, by omega⟩
def sj_tri : Nat → Nat
  | 0 => 0
  | k + 1 => sj_tri k + k
theorem sj_tri_28 : ∀ n, n ≤ 8 → sj_tri n ≤ 28 := by
  intro n hn
  have h : ∀ n, n < 9 → sj_tri n ≤ 28 := by decide
  exact h n (by omega)
theorem sj_sh_out (m : Nat → Int32) : ∀ k, ∃ c s, sj_shp m k = nI c ∧ sj_shl m k = nI s ∧ c ≤ sj_tri k ∧ s ≤ 6 * c
  | 0 => ⟨0, 0, rfl, rfl, Nat.le_refl _, Nat.le_refl _⟩
  | k + 1 => by
    obtain ⟨c, s, h1, h2, h3, h4⟩ := sj_sh_out m k
    obtain ⟨c2, s2, g1, g2, g3, g4⟩ := sj_sh_in m k k
    refine ⟨c + c2, s + s2, ?_, ?_, ?_, by omega⟩
    · show sj_shp m k + sj_sum _ k = _
      rw [h1, g1, nI_add]
    · show sj_shl m k + sj_sum _ k = _
      rw [h2, g2, nI_add]
    · show c + c2 ≤ sj_tri k + k
      omega
/-- what a share of hands may be: one, or a likeness through pairs -/
theorem sj_sh_ps (m : Nat → Int32) (hn : sj_tn (m 9) ≤ 8) : sj_shp m (sj_tn (m 9)) = 0 ∨ ∃ p s, p < 28 ∧ s < 169 ∧ s ≤ 6 * (p + 1) ∧ sj_shp m (sj_tn (m 9)) = nI (p + 1) ∧ sj_shl m (sj_tn (m 9)) = nI s := by
  obtain ⟨c, s, h1, h2, h3, h4⟩ := sj_sh_out m (sj_tn (m 9))
  have h5 := sj_tri_28 _ hn
  cases c with
  | zero => exact Or.inl h1
  | succ p => exact Or.inr ⟨p, s, by omega, by omega, h4, h1, h2⟩
def sj_shok (x : UInt64) : Bool := decide (x &&& 0x7fffffffffffffff ≤ 0x7ff0000000000000) && (decide (Op.cmpValue (FP.dcmp x x) .l = 0) && (decide (Op.cmpValue (FP.dcmp x x) .g = 0) && (if Op.cmpValue (FP.dcmp x FP.dconst0) .g ≤ 0 then decide (x.toInt64 = 0) else decide (sj_bol 12 x 1023 = some x.toInt64))))
theorem sj_shok_1 : sj_shok FP.dconst1 = true := by decide +kernel
theorem sj_sh_d {m : Nat → Int32} (hn : sj_tn (m 9) ≤ 8) (h : ¬ sj_shp m (sj_tn (m 9)) = 0) : sj_shok (FP.ddiv (FP.i2d (sj_shl m (sj_tn (m 9)))) (FP.i2d (6 * sj_shp m (sj_tn (m 9))))) = true := by
  rcases sj_sh_ps m hn with h1 | ⟨p, s, hp, hs, hsp, e1, e2⟩
  · exact absurd h1 h
  · have h2 := sj_shg_ok p hp s hs
    rw [decide_eq_false (by omega), Bool.false_or] at h2
    rw [e1, e2, show (6 : Int32) * nI (p + 1) = nI (6 * (p + 1)) from sj_nmul 6 _]
    exact h2
theorem sj_shr_ok {m : Nat → Int32} (hn : sj_tn (m 9) ≤ 8) : sj_shok (sj_shr m) = true := by
  unfold sj_shr
  by_cases h : sj_shp m (sj_tn (m 9)) = 0
  · rw [if_pos h]
    exact sj_shok_1
  · rw [if_neg h]
    exact sj_sh_d hn h
theorem sj_shok_n {x : UInt64} (h : sj_shok x = true) : vf_n64 x := by
  unfold sj_shok at h
  rw [Bool.and_eq_true] at h
  have h8 : x &&& 0x7fffffffffffffff ≤ 0x7ff0000000000000 := of_decide_eq_true h.1
  exact h8
theorem sj_shok_l {x : UInt64} (h : sj_shok x = true) : Op.cmpValue (FP.dcmp x x) .l = 0 := by
  unfold sj_shok at h
  rw [Bool.and_eq_true, Bool.and_eq_true] at h
  exact of_decide_eq_true h.2.1
/-- a likeness as it would be behind years -/
def sj_ifp (m : Nat → Int32) (i e : Nat) (y : Int32) : Int32 := if sj_old m y (sj_tn (m 9)) = -1 then 0 else sj_lik (sj_pas m y (sj_tn (m 9))) i e
def sj_q_ifp (m : Nat → Int32) (v e y : Int32) : Int32 × Int32 := if sj_isn m v = false ∨ sj_isn m e = false then (0, 1) else if sj_wi y 1 99 = false then (0, 2) else (sj_ifp m (sj_tn v) (sj_tn e) y, 0)
theorem sj_pas_434 (m : Nat → Int32) (y : Int32) (f : Nat → Int32) (n : Nat) (hn : n ≤ 8) : sj_cp 434 (sj_cp 434 m f) (sj_pas m y n) = m := by
  funext j
  unfold sj_cp
  by_cases h : j < 434
  · rw [if_pos h, if_pos h]
  · rw [if_neg h]
    exact sj_pas_o m y n (fun i hi => by omega)
