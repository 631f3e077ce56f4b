/-! WHAT A STATE'S ROW ALWAYS KEEPS -/
theorem sj_ti_add {a b : Int32} (h1 : -1000000000 ≤ a.toInt) (h2 : a.toInt ≤ 1000000000) (h3 : -1000000000 ≤ b.toInt) (h4 : b.toInt ≤ 1000000000) : (a + b).toInt = a.toInt + b.toInt := by
  rw [Int32.toInt_add]
  exact Int.bmod_eq_of_le (by omega) (by omega)
theorem sj_ti_sub {a b : Int32} (h1 : -1000000000 ≤ a.toInt) (h2 : a.toInt ≤ 1000000000) (h3 : -1000000000 ≤ b.toInt) (h4 : b.toInt ≤ 1000000000) : (a - b).toInt = a.toInt - b.toInt := by
  rw [Int32.toInt_sub]
  exact Int.bmod_eq_of_le (by omega) (by omega)
theorem sj_ti_neg {a : Int32} (h1 : -1000000000 ≤ a.toInt) (h2 : a.toInt ≤ 1000000000) : (-a).toInt = -a.toInt := by
  rw [Int32.toInt_neg]
  exact Int.bmod_eq_of_le (by omega) (by omega)
theorem sj_ti_mul {a b : Int32} {c : Int} (h : a.toInt * b.toInt = c) (h1 : -1000000000 ≤ c) (h2 : c ≤ 1000000000) : (a * b).toInt = c := by
  rw [Int32.toInt_mul, h]
  exact Int.bmod_eq_of_le (by omega) (by omega)
theorem sj_leT {a b : Int32} : a ≤ b ↔ a.toInt ≤ b.toInt := Int32.le_iff_toInt_le
theorem sj_ltT {a b : Int32} : a < b ↔ a.toInt < b.toInt := Int32.lt_iff_toInt_lt
theorem sj_nIb {v : Int32} {n : Nat} (hn : n < 2 ^ 31) (h0 : 0 ≤ v) (h1 : v ≤ nI n) : ∃ j, j ≤ n ∧ v = nI j := sj_wi_nI hn (sj_wi_iff.mpr ⟨h0, h1⟩)
theorem sj_pig : ∀ (M N : Nat) (f : Nat → Nat), (∀ k, k < N → f k < M) → (∀ j k, j < k → k < N → ¬ f j = f k) → N ≤ M
  | 0, 0, _, _, _ => Nat.le_refl _
  | 0, N + 1, f, h, _ => absurd (h 0 (by omega)) (by omega)
  | M + 1, 0, _, _, _ => Nat.zero_le _
  | M + 1, N + 1, f, h, hi => by
    have key := sj_pig M N (fun k => if f k = M then f N else f k) (fun k hk => by
      show (if f k = M then f N else f k) < M
      have h1 := h k (by omega)
      have h2 := h N (by omega)
      have h3 := hi k N hk (by omega)
      by_cases h4 : f k = M
      · rw [if_pos h4]; omega
      · rw [if_neg h4]; omega) (fun j k hjk hk => by
      show ¬ (if f j = M then f N else f j) = (if f k = M then f N else f k)
      have h1 := hi j k hjk (by omega)
      have h2 := hi j N (by omega) (by omega)
      have h3 := hi k N hk (by omega)
      by_cases h4 : f j = M
      · rw [if_pos h4]
        by_cases h5 : f k = M
        · rw [if_pos h5]; omega
        · rw [if_neg h5]; omega
      · rw [if_neg h4]
        by_cases h5 : f k = M
        · rw [if_pos h5]; omega
        · rw [if_neg h5]; omega)
    omega
/-- a sheet as it may be -/
def sj_shw (m : Nat → Int32) (i : Nat) : Prop := (0 ≤ sj_of m i 0 ∧ sj_of m i 0 ≤ 99) ∧ (sj_of m i 1 = nI (sj_ns m i) ∧ 1 ≤ sj_ns m i ∧ sj_ns m i ≤ 8) ∧ ∀ k, k < sj_ns m i → (-45 ≤ sj_os m i k 0 ∧ sj_os m i k 0 ≤ 45) ∧ (1 ≤ sj_os m i k 1 ∧ sj_os m i k 1 ≤ 60) ∧ (sj_os m i k 2 = 0 ∨ sj_os m i k 2 = 1) ∧ (1 ≤ sj_os m i k 3 ∧ sj_os m i k 3 ≤ 9) ∧ (0 ≤ sj_os m i k 4 ∧ sj_os m i k 4 ≤ 9)
/-- N oaths over n sheets as they may be -/
def sj_oas (m : Nat → Int32) (N n : Nat) : Prop := (∀ k, k < N → (sj_oa m k 0 = nI (sj_tn (sj_oa m k 0)) ∧ sj_tn (sj_oa m k 0) < n) ∧ (sj_oa m k 1 = nI (sj_tn (sj_oa m k 1)) ∧ sj_tn (sj_oa m k 1) < n) ∧ (sj_oa m k 2 = 0 ∨ sj_oa m k 2 = 1)) ∧ (∀ k, k < N → ¬ sj_oa m k 0 = sj_oa m k 1) ∧ ∀ j k, j < k → k < N → ¬ (sj_oa m j 0 = sj_oa m k 0 ∧ sj_oa m j 1 = sj_oa m k 1) ∧ ¬ (sj_oa m j 0 = sj_oa m k 1 ∧ sj_oa m j 1 = sj_oa m k 0)
def sj_inv (m : Nat → Int32) : Prop := (m 9 = nI (sj_tn (m 9)) ∧ sj_tn (m 9) ≤ 8) ∧ (m 10 = nI (sj_tn (m 10)) ∧ sj_tn (m 10) ≤ 28) ∧ sj_oas m (sj_tn (m 10)) (sj_tn (m 9)) ∧ (∀ i, i < sj_tn (m 9) → sj_shw m i) ∧ ∀ s, s < 9 → 0 ≤ m s ∧ m s ≤ sj_mst (nI s)
theorem sj_inv_oav {m : Nat → Int32} (h : sj_inv m) : sj_oav m := ⟨h.1, h.2.1, h.2.2.1.1⟩
theorem sj_oas_map {m m' : Nat → Int32} {N N' n : Nat} (φ : Nat → Nat) (h1 : ∀ k, k < N' → φ k < N) (h2 : ∀ j k, j < k → k < N' → φ j < φ k) (h3 : ∀ k w, k < N' → w < 3 → sj_oa m' k w = sj_oa m (φ k) w) (h : sj_oas m N n) : sj_oas m' N' n := by
  obtain ⟨a, b, c⟩ := h
  refine ⟨fun k hk => ?_, fun k hk => ?_, fun j k hjk hk => ?_⟩
  · rw [h3 k 0 hk (by omega), h3 k 1 hk (by omega), h3 k 2 hk (by omega)]
    exact a _ (h1 k hk)
  · rw [h3 k 0 hk (by omega), h3 k 1 hk (by omega)]
    exact b _ (h1 k hk)
  · rw [h3 k 0 hk (by omega), h3 k 1 hk (by omega), h3 j 0 (by omega) (by omega), h3 j 1 (by omega) (by omega)]
    exact c _ _ (h2 j k hjk hk) (h1 k hk)
theorem sj_shw_map {m m' : Nat → Int32} {i i' : Nat} (h0 : 0 ≤ sj_of m' i' 0 ∧ sj_of m' i' 0 ≤ 99) (h1 : ∀ w, 1 ≤ w → w < 42 → sj_of m' i' w = sj_of m i w) (h : sj_shw m i) : sj_shw m' i' := by
  obtain ⟨a, b, c⟩ := h
  have hn : sj_ns m' i' = sj_ns m i := by
    unfold sj_ns
    rw [h1 1 (by omega) (by omega)]
  have hs : ∀ k w, k < 8 → w < 5 → sj_os m' i' k w = sj_os m i k w := fun k w hk hw => h1 (2 + 5 * k + w) (by omega) (by omega)
  refine ⟨h0, ?_, fun k hk => ?_⟩
  · rw [hn, h1 1 (by omega) (by omega)]
    exact b
  · rw [hn] at hk
    rw [hs k 0 (by omega) (by omega), hs k 1 (by omega) (by omega), hs k 2 (by omega) (by omega), hs k 3 (by omega) (by omega), hs k 4 (by omega) (by omega)]
    exact c k hk
theorem sj_inv_cg {m m' : Nat → Int32} (h1 : ∀ j, j < 434 → j < 11 ∨ 14 ≤ j → m' j = m j) (h : sj_inv m) : sj_inv m' := by
  obtain ⟨a, b, c, d, e⟩ := h
  have h9 := h1 9 (by omega) (by omega)
  have h10 := h1 10 (by omega) (by omega)
  refine ⟨?_, ?_, ?_, fun i hi => ?_, fun s hs => ?_⟩
  · rw [h9]; exact a
  · rw [h10]; exact b
  · rw [h9, h10]
    exact sj_oas_map (fun k => k) (fun k hk => hk) (fun j k hjk hk => hjk) (fun k w hk hw => h1 (14 + 3 * k + w) (by omega) (by omega)) c
  · rw [h9] at hi
    have hw : ∀ w, w < 42 → sj_of m' i w = sj_of m i w := fun w hw => h1 (98 + 42 * i + w) (by omega) (by omega)
    exact sj_shw_map (by rw [hw 0 (by omega)]; exact (d i hi).1) (fun w _ hw2 => hw w hw2) (d i hi)
  · rw [h1 s (by omega) (by omega)]
    exact e s hs
theorem sj_sumI (f : Nat → Int32) (a z : Nat) : ∀ N, (∀ k, k < N → ∃ j, a ≤ j ∧ j ≤ z ∧ f k = nI j) → ∃ s, sj_sum f N = nI s ∧ a * N ≤ s ∧ s ≤ z * N
  | 0, _ => ⟨0, rfl, Nat.le_refl _, Nat.le_refl _⟩
  | N + 1, h => by
    obtain ⟨s, h1, h2, h3⟩ := sj_sumI f a z N (fun k hk => h k (by omega))
    obtain ⟨j, h4, h5, h6⟩ := h N (by omega)
    refine ⟨s + j, ?_, ?_, ?_⟩
    · show sj_sum f N + f N = _
      rw [h1, h6, nI_add]
    · rw [Nat.mul_succ]; omega
    · rw [Nat.mul_succ]; omega
theorem sj_nIab {v : Int32} {a z : Nat} (hz : z < 2 ^ 31) (h0 : nI a ≤ v) (h1 : v ≤ nI z) (ha : a ≤ z) : ∃ j, a ≤ j ∧ j ≤ z ∧ v = nI j := by
  obtain ⟨j, hj, rfl⟩ := sj_nIb hz (Int32.le_trans (nI_pos' (show a < 2 ^ 31 by omega)) h0) h1
  exact ⟨j, (nI_leI (by omega) (by omega)).mp h0, hj, rfl⟩
theorem sj_ndiv {a b : Nat} (ha : a < 2 ^ 31) (hb : b < 2 ^ 31) : nI a / nI b = nI (a / b) := by
  apply Int32.toInt_inj.mp
  have h1 : a / b ≤ a := Nat.div_le_self a b
  rw [Int32.toInt_div, nI_toInt ha, nI_toInt hb, nI_toInt (show a / b < 2 ^ 31 by omega), ← Int.ofNat_tdiv]
  generalize a / b = q at h1 ⊢
  exact Int.bmod_eq_of_le (by omega) (by omega)
theorem sj_shw_tot {m : Nat → Int32} {i : Nat} (h : sj_shw m i) : ∃ s, sj_tot m i 1 = nI s ∧ sj_ns m i ≤ s ∧ s ≤ 60 * sj_ns m i := by
  obtain ⟨-, ⟨hn, hn1, hn8⟩, hk⟩ := h
  obtain ⟨s, h1, h2, h3⟩ := sj_sumI (fun k => sj_os m i k 1) 1 60 (sj_ns m i) (fun k hk9 => sj_nIab (by omega) (hk k hk9).2.1.1 (hk k hk9).2.1.2 (by omega))
  exact ⟨s, h1, by omega, h3⟩
theorem sj_shw_shv {m : Nat → Int32} {i : Nat} (hi : i < 8) (h : sj_shw m i) : sj_shv m i := by
  obtain ⟨s, h1, h2, h3⟩ := sj_shw_tot h
  obtain ⟨-, ⟨hn, hn1, hn8⟩, -⟩ := h
  refine ⟨hi, hn, hn1, hn8, ?_⟩
  rw [h1, sj_ndiv (by omega) (by omega)]
  exact nI_ne0 (Nat.div_pos h2 hn1) (Nat.lt_of_le_of_lt (Nat.div_le_self _ _) (by omega))
theorem sj_inv_shs {m : Nat → Int32} (h : sj_inv m) : sj_shs m := fun i hi => sj_shw_shv (Nat.lt_of_lt_of_le hi h.1.2) (h.2.2.2.1 i hi)
/-- years -/
theorem sj_age_ok {m : Nat → Int32} {k : Nat} {y : Int32} (h : 0 ≤ sj_of m k 0 ∧ sj_of m k 0 ≤ 99) (hy : 0 ≤ y ∧ y ≤ 99) : 0 ≤ sj_age m y k ∧ sj_age m y k ≤ 99 := by
  obtain ⟨a, ha, e1⟩ := sj_nIb (n := 99) (by omega) h.1 h.2
  obtain ⟨c, hc, e2⟩ := sj_nIb (n := 99) (by omega) hy.1 hy.2
  unfold sj_age
  rw [e1, e2, nI_add]
  by_cases h1 : (99 : Int32) < nI (a + c)
  · rw [if_pos h1]; decide
  · rw [if_neg h1]
    exact ⟨nI_pos' (by omega), sj_nlt.mp h1⟩
theorem sj_pas_at (m : Nat → Int32) (y : Int32) {i : Nat} : ∀ n, i < n → sj_of (sj_pas m y n) i 0 = sj_age m y i
  | n + 1, h => by
    show upd (sj_pas m y n) (98 + 42 * n) (sj_age m y n) (98 + 42 * i + 0) = _
    by_cases h1 : i = n
    · subst h1
      exact sj_upd_self _ _ _
    · rw [sj_upd_ne _ _ (by omega)]
      exact sj_pas_at m y n (by omega)
theorem sj_pas_o (m : Nat → Int32) (y : Int32) {j : Nat} : ∀ n, (∀ i, i < n → ¬ j = 98 + 42 * i) → sj_pas m y n j = m j
  | 0, _ => rfl
  | n + 1, h => (sj_upd_ne _ _ (h n (by omega))).trans (sj_pas_o m y n (fun i hi => h i (by omega)))
theorem sj_inv_pas {m : Nat → Int32} {y : Int32} (h : sj_inv m) (hy : 0 ≤ y ∧ y ≤ 99) (n : Nat) (hn : n = sj_tn (m 9)) : sj_inv (sj_pas m y n) := by
  obtain ⟨a, b, c, d, e⟩ := h
  have lo : ∀ j, j < 98 → sj_pas m y n j = m j := fun j hj => sj_pas_lo m y hj n
  have h9 := lo 9 (by omega)
  have h10 := lo 10 (by omega)
  refine ⟨?_, ?_, ?_, fun i hi => ?_, fun s hs => ?_⟩
  · rw [h9]; exact a
  · rw [h10]; exact b
  · rw [h9, h10]
    exact sj_oas_map (fun k => k) (fun k hk => hk) (fun j k hjk hk => hjk) (fun k w hk hw => lo (14 + 3 * k + w) (by omega)) c
  · rw [h9] at hi
    refine sj_shw_map ?_ (fun w h1 h2 => ?_) (d i hi)
    · rw [sj_pas_at m y n (by omega)]
      exact sj_age_ok (d i hi).1 hy
    · exact sj_pas_o m y n (fun i' _ => by omega)
  · rw [lo s (by omega)]
    exact e s hs
theorem sj_inv_set {m : Nat → Int32} {i : Nat} {v : Int32} (h : sj_inv m) (hi : i < 9) (hv : sj_wi v 0 (sj_mst (nI i)) = true) : sj_inv (upd m i v) := by
  obtain ⟨a, b, c, d, e⟩ := h
  have lo : ∀ j, 9 ≤ j → upd m i v j = m j := fun j hj => sj_upd_ne _ _ (by omega)
  have h9 := lo 9 (by omega)
  have h10 := lo 10 (by omega)
  refine ⟨?_, ?_, ?_, fun j hj => ?_, fun s hs => ?_⟩
  · rw [h9]; exact a
  · rw [h10]; exact b
  · rw [h9, h10]
    exact sj_oas_map (fun k => k) (fun k hk => hk) (fun j k hjk hk => hjk) (fun k w hk hw => lo (14 + 3 * k + w) (by omega)) c
  · rw [h9] at hj
    exact sj_shw_map (by rw [show sj_of (upd m i v) j 0 = sj_of m j 0 from lo _ (by omega)]; exact (d j hj).1) (fun w _ _ => lo _ (by omega)) (d j hj)
  · by_cases h1 : s = i
    · subst h1
      rw [sj_upd_self]
      exact sj_wi_iff.mp hv
    · rw [sj_upd_ne _ _ h1]
      exact e s hs
/-- an oath that is dropped -/
theorem sj_dO_oa (m : Nat → Int32) (p k w : Nat) (hw : w < 3) (hk : k + 1 < sj_tn (m 10) ∨ k < p) (hp : p < sj_tn (m 10)) : sj_oa (sj_dO m p) k w = sj_oa m (if k < p then k else k + 1) w := by
  unfold sj_dO sj_oa sj_dj
  rw [if_neg (by omega)]
  by_cases h : k < p
  · rw [if_pos h, if_neg (by omega)]
  · rw [if_neg h, if_pos ⟨by omega, by omega⟩]
    exact congrArg m (by omega)
theorem sj_dO_hi (m : Nat → Int32) (p : Nat) {j : Nat} (h : j < 10 ∨ 10 < j ∧ j < 14 ∨ 98 ≤ j) (h28 : sj_tn (m 10) ≤ 28) : sj_dO m p j = m j := by
  unfold sj_dO sj_dj
  rw [if_neg (by omega), if_neg (by omega)]
theorem sj_oas_dO {m : Nat → Int32} {p n : Nat} (h : sj_oas m (sj_tn (m 10)) n) (hp : p < sj_tn (m 10)) : sj_oas (sj_dO m p) (sj_tn (m 10) - 1) n :=
  sj_oas_map (fun k => if k < p then k else k + 1) (fun k hk => by
    show (if k < p then k else k + 1) < _
    by_cases h : k < p
    · rw [if_pos h]; omega
    · rw [if_neg h]; omega) (fun j k hjk hk => by
    show (if j < p then j else j + 1) < (if k < p then k else k + 1)
    by_cases h1 : j < p
    · rw [if_pos h1]
      by_cases h2 : k < p
      · rw [if_pos h2]; omega
      · rw [if_neg h2]; omega
    · rw [if_neg h1, if_neg (by omega)]; omega) (fun k w hk hw => sj_dO_oa m p k w hw (Or.inl (by omega)) hp) h
theorem sj_inv_dO {m : Nat → Int32} {p : Nat} (h : sj_inv m) (hp : p < sj_tn (m 10)) : sj_inv (sj_dO m p) := by
  obtain ⟨a, b, c, d, e⟩ := h
  have hi : ∀ j, (j < 10 ∨ 98 ≤ j) → sj_dO m p j = m j := fun j hj => sj_dO_hi m p (by omega) b.2
  have h9 := hi 9 (by omega)
  have e10 : sj_tn (sj_dO m p 10) = sj_tn (m 10) - 1 := by rw [sj_dO_10]; exact sj_tn_nI (by omega)
  refine ⟨?_, ?_, ?_, fun i hi9 => ?_, fun s hs => ?_⟩
  · rw [h9]; exact a
  · rw [e10]; exact ⟨sj_dO_10 m p, by omega⟩
  · rw [h9, e10]
    exact sj_oas_dO c hp
  · rw [h9] at hi9
    exact sj_shw_map (by rw [show sj_of (sj_dO m p) i 0 = sj_of m i 0 from hi _ (by omega)]; exact (d i hi9).1) (fun w _ _ => hi _ (by omega)) (d i hi9)
  · rw [hi s (by omega)]
    exact e s hs
/-- a new oath: what was told first, and why it may be sworn -/
theorem sj_fst_no {p : Nat → Bool} : ∀ n k, sj_fst p n k = -1 → n + k < 2 ^ 31 → ∀ j, k ≤ j → j < k + n → p j = false
  | 0, _, _, _, j, h1, h2 => by omega
  | n + 1, k, h, hb, j, h1, h2 => by
    by_cases h3 : p k = true
    · exfalso
      have e : sj_fst p (n + 1) k = nI k := if_pos h3
      rw [e] at h
      have h4 : (0 : Int32) ≤ nI k := nI_pos' (by omega)
      rw [h] at h4
      exact absurd h4 (by decide)
    · have e : sj_fst p (n + 1) k = sj_fst p n (k + 1) := if_neg h3
      by_cases h4 : j = k
      · subst h4
        exact Bool.eq_false_iff.mpr h3
      · exact sj_fst_no n (k + 1) (e.symm.trans h) (by omega) j (by omega) (by omega)
def sj_pc (a b : Nat) : Nat := if a < b then b * (b - 1) / 2 + a else a * (a - 1) / 2 + b
theorem sj_pc_lt : ∀ a, a < 8 → ∀ b, b < 8 → ¬ a = b → sj_pc a b < 28 := by decide +kernel
theorem sj_pc_in0 : ∀ a, a < 8 → ∀ b, b < 8 → ∀ c, c < 8 → ∀ d, d < 8 → (decide (a = b) || (decide (c = d) || (!decide (sj_pc a b = sj_pc c d) || ((decide (a = c) && decide (b = d)) || (decide (a = d) && decide (b = c)))))) = true := by decide +kernel
theorem sj_pc_in (a : Nat) (ha : a < 8) (b : Nat) (hb : b < 8) (c : Nat) (hc : c < 8) (d : Nat) (hd : d < 8) (h1 : ¬ a = b) (h2 : ¬ c = d) (h3 : sj_pc a b = sj_pc c d) : (a = c ∧ b = d) ∨ (a = d ∧ b = c) := by
  have h := sj_pc_in0 a ha b hb c hc d hd
  rw [decide_eq_false h1, decide_eq_false h2, decide_eq_true h3] at h
  simpa using h
/-- of 8 sheets there are no more than 28 oaths, all of other pairs -/
theorem sj_oas_28 {m : Nat → Int32} {N n : Nat} (h : sj_oas m N n) (hn : n ≤ 8) : N ≤ 28 := by
  obtain ⟨a, b, c⟩ := h
  refine sj_pig 28 N (fun k => sj_pc (sj_tn (sj_oa m k 0)) (sj_tn (sj_oa m k 1))) (fun k hk => ?_) (fun j k hjk hk => ?_)
  · obtain ⟨⟨a0, a1⟩, ⟨a2, a3⟩, -⟩ := a k hk
    refine sj_pc_lt _ (by omega) _ (by omega) (fun h8 => b k hk ?_)
    rw [a0, a2, h8]
  · intro h8
    obtain ⟨⟨a0, a1⟩, ⟨a2, a3⟩, -⟩ := a k hk
    obtain ⟨⟨b0, b1⟩, ⟨b2, b3⟩, -⟩ := a j (by omega)
    have hk9 := b k hk
    have hj9 := b j (by omega)
    rcases sj_pc_in _ (show sj_tn (sj_oa m j 0) < 8 by omega) _ (show sj_tn (sj_oa m j 1) < 8 by omega) _ (show sj_tn (sj_oa m k 0) < 8 by omega) _ (show sj_tn (sj_oa m k 1) < 8 by omega) (fun h7 => hj9 (by rw [b0, b2, h7])) (fun h7 => hk9 (by rw [a0, a2, h7])) h8 with ⟨h6, h7⟩ | ⟨h6, h7⟩
    · exact (c j k hjk hk).1 ⟨by rw [b0, a0, h6], by rw [b2, a2, h7]⟩
    · exact (c j k hjk hk).2 ⟨by rw [b0, a2, h6], by rw [b2, a0, h7]⟩
theorem sj_sw_o (m : Nat → Int32) (i e : Nat) (like : Bool) {j : Nat} (h10 : ¬ j = 10) (h11 : ¬ j = 11) (hj : j < 14 + 3 * sj_tn (m 10) ∨ 14 + 3 * sj_tn (m 10) + 3 ≤ j) : sj_sw m i e like j = m j := by
  unfold sj_sw sj_sw2 sj_sw1
  rw [sj_upd_ne _ _ (by omega), sj_upd_ne _ _ (by omega), sj_upd_ne _ _ (by omega), sj_upd_ne _ _ (by omega), sj_upd_ne _ _ (by omega)]
theorem sj_sw_10 (m : Nat → Int32) (i e : Nat) (like : Bool) : sj_sw m i e like 10 = m 10 + 1 := by
  unfold sj_sw sj_sw2 sj_sw1
  rw [sj_upd_ne _ _ (by omega), sj_upd_self, sj_upd_ne _ _ (by omega), sj_upd_ne _ _ (by omega), sj_upd_ne _ _ (by omega)]
theorem sj_sw_11 (m : Nat → Int32) (i e : Nat) (like : Bool) : sj_sw m i e like 11 = m 11 + 1 := by
  unfold sj_sw sj_sw2 sj_sw1
  rw [sj_upd_self, sj_upd_ne _ _ (by omega), sj_upd_ne _ _ (by omega), sj_upd_ne _ _ (by omega), sj_upd_ne _ _ (by omega)]
theorem sj_sw_0 (m : Nat → Int32) (i e : Nat) (like : Bool) : sj_oa (sj_sw m i e like) (sj_tn (m 10)) 0 = nI i := by
  unfold sj_oa sj_sw sj_sw2 sj_sw1
  rw [sj_upd_ne _ _ (by omega), sj_upd_ne _ _ (by omega), sj_upd_ne _ _ (by omega), sj_upd_ne _ _ (by omega)]
  exact sj_upd_self _ _ _
theorem sj_sw_1 (m : Nat → Int32) (i e : Nat) (like : Bool) : sj_oa (sj_sw m i e like) (sj_tn (m 10)) 1 = nI e := by
  unfold sj_oa sj_sw sj_sw2 sj_sw1
  rw [sj_upd_ne _ _ (by omega), sj_upd_ne _ _ (by omega), sj_upd_ne _ _ (by omega)]
  exact sj_upd_self _ _ _
theorem sj_sw_2 (m : Nat → Int32) (i e : Nat) (like : Bool) : sj_oa (sj_sw m i e like) (sj_tn (m 10)) 2 = sj_bi like := by
  unfold sj_oa sj_sw sj_sw2 sj_sw1
  rw [sj_upd_ne _ _ (by omega), sj_upd_ne _ _ (by omega)]
  exact sj_upd_self _ _ _
theorem sj_sw_oa (m : Nat → Int32) (i e : Nat) (like : Bool) {k w : Nat} (hk : k < sj_tn (m 10)) (hw : w < 3) : sj_oa (sj_sw m i e like) k w = sj_oa m k w := sj_sw_o m i e like (by omega) (by omega) (Or.inl (by omega))
theorem sj_why_0 {m : Nat → Int32} {i e : Nat} {like : Bool} (h : sj_why m i e like = 0) : ¬ i = e ∧ sj_fo m i e = -1 := by
  unfold sj_why at h
  by_cases h1 : i = e
  · rw [if_pos h1] at h
    exact absurd h (by decide)
  · refine ⟨h1, ?_⟩
    rw [if_neg h1] at h
    by_cases h2 : sj_fo m i e = -1
    · exact h2
    · rw [if_pos h2] at h
      exact absurd h (by decide)
theorem sj_bi01 (b : Bool) : sj_bi b = 0 ∨ sj_bi b = 1 := by cases b <;> decide
theorem sj_oas_sw {m : Nat → Int32} {i e n : Nat} {like : Bool} (h : sj_oas m (sj_tn (m 10)) n) (h28 : sj_tn (m 10) ≤ 28) (hn8 : n ≤ 8) (hi : i < n) (he : e < n) (hie : ¬ i = e) (hfo : sj_fo m i e = -1) : sj_oas (sj_sw m i e like) (sj_tn (m 10) + 1) n := by
  obtain ⟨a, b, c⟩ := h
  have hp : ∀ j, j < sj_tn (m 10) → sj_fp m i e j = false := fun j hj => sj_fst_no _ 0 hfo (by omega) j (Nat.zero_le _) (by omega)
  have ti : sj_tn (nI i) = i := sj_tn_nI (by omega)
  have te : sj_tn (nI e) = e := sj_tn_nI (by omega)
  refine ⟨fun k hk => ?_, fun k hk => ?_, fun j k hjk hk => ?_⟩
  · by_cases h1 : k = sj_tn (m 10)
    · subst h1
      rw [sj_sw_0, sj_sw_1, sj_sw_2, ti, te]
      exact ⟨⟨rfl, hi⟩, ⟨rfl, he⟩, sj_bi01 _⟩
    · rw [sj_sw_oa m i e like (by omega) (by omega), sj_sw_oa m i e like (by omega) (by omega), sj_sw_oa m i e like (by omega) (by omega)]
      exact a k (by omega)
  · by_cases h1 : k = sj_tn (m 10)
    · subst h1
      rw [sj_sw_0, sj_sw_1]
      exact fun h8 => hie ((nI_eq (by omega) (by omega)).mp h8)
    · rw [sj_sw_oa m i e like (by omega) (by omega), sj_sw_oa m i e like (by omega) (by omega)]
      exact b k (by omega)
  · rw [sj_sw_oa m i e like (k := j) (by omega) (by omega), sj_sw_oa m i e like (k := j) (by omega) (by omega)]
    by_cases h1 : k = sj_tn (m 10)
    · subst h1
      rw [sj_sw_0, sj_sw_1]
      have h8 := hp j hjk
      unfold sj_fp at h8
      exact ⟨fun h7 => by rw [h7.1, h7.2] at h8; simp at h8, fun h7 => by rw [h7.1, h7.2] at h8; simp at h8⟩
    · rw [sj_sw_oa m i e like (by omega) (by omega), sj_sw_oa m i e like (by omega) (by omega)]
      exact c j k hjk (by omega)
theorem sj_sw_28 {m : Nat → Int32} {i e : Nat} {like : Bool} (h : sj_inv m) (hi : i < sj_tn (m 9)) (he : e < sj_tn (m 9)) (hw : sj_why m i e like = 0) : sj_tn (m 10) < 28 := by
  have h1 := sj_oas_28 (sj_oas_sw (like := like) h.2.2.1 h.2.1.2 h.1.2 hi he (sj_why_0 hw).1 (sj_why_0 hw).2) h.1.2
  omega
theorem sj_inv_sw {m : Nat → Int32} {i e : Nat} {like : Bool} (h : sj_inv m) (hi : i < sj_tn (m 9)) (he : e < sj_tn (m 9)) (hw : sj_why m i e like = 0) : sj_inv (sj_sw m i e like) := by
  have h28 := sj_sw_28 h hi he hw
  obtain ⟨a, b, c, d, f⟩ := h
  have h9 : sj_sw m i e like 9 = m 9 := sj_sw_o m i e like (by omega) (by omega) (Or.inl (by omega))
  have h10 : sj_sw m i e like 10 = nI (sj_tn (m 10) + 1) := by rw [sj_sw_10, ← nI_1, ← b.1]
  have e10 : sj_tn (sj_sw m i e like 10) = sj_tn (m 10) + 1 := by rw [h10]; exact sj_tn_nI (by omega)
  refine ⟨?_, ?_, ?_, fun k hk => ?_, fun s hs => ?_⟩
  · rw [h9]; exact a
  · rw [e10]; exact ⟨h10, by omega⟩
  · rw [h9, e10]
    exact sj_oas_sw c b.2 a.2 hi he (sj_why_0 hw).1 (sj_why_0 hw).2
  · rw [h9] at hk
    have lo : ∀ w, sj_of (sj_sw m i e like) k w = sj_of m k w := fun w => sj_sw_o m i e like (by omega) (by omega) (Or.inr (by omega))
    exact sj_shw_map (by rw [lo 0]; exact (d k hk).1) (fun w _ _ => lo w) (d k hk)
  · rw [sj_sw_o m i e like (by omega) (by omega) (Or.inl (by omega))]
    exact f s hs
/-- a sheet that goes -/
def sj_of2 (m : Nat → Int32) (i k : Nat) : Prop := sj_oa m k 0 = nI i ∨ sj_oa m k 1 = nI i
theorem sj_dl_in (i : Nat) {n : Nat} : ∀ (k : Nat) (m : Nat → Int32) (g : Int32), m 10 = nI (sj_tn (m 10)) → sj_tn (m 10) ≤ 28 → k ≤ sj_tn (m 10) → sj_oas m (sj_tn (m 10)) n → (∀ j, k ≤ j → j < sj_tn (m 10) → ¬ sj_of2 m i j) → sj_oas (sj_dl i k m g).1 (sj_tn ((sj_dl i k m g).1 10)) n ∧ (∀ j, j < sj_tn ((sj_dl i k m g).1 10) → ¬ sj_of2 (sj_dl i k m g).1 i j) ∧ ∀ j, (j < 10 ∨ 10 < j ∧ j < 14 ∨ 98 ≤ j) → (sj_dl i k m g).1 j = m j
  | 0, m, g, h1, h2, h3, h4, h5 => ⟨h4, fun j hj => h5 j (Nat.zero_le _) hj, fun _ _ => rfl⟩
  | k + 1, m, g, h1, h2, h3, h4, h5 => by
    by_cases h : sj_oa m k 0 = nI i ∨ sj_oa m k 1 = nI i
    · have e : sj_dl i (k + 1) m g = sj_dl i k (sj_dO m k) (g + 1) := if_pos h
      have e1 : sj_tn (sj_dO m k 10) = sj_tn (m 10) - 1 := by rw [sj_dO_10]; exact sj_tn_nI (by omega)
      rw [e]
      have ih := sj_dl_in i k (sj_dO m k) (g + 1) (by rw [e1]; exact sj_dO_10 m k) (by omega) (by omega) (by rw [e1]; exact sj_oas_dO h4 (by omega)) (fun j hj hj2 => by
        rw [e1] at hj2
        unfold sj_of2
        rw [sj_dO_oa m k j 0 (by omega) (Or.inl (by omega)) (by omega), sj_dO_oa m k j 1 (by omega) (Or.inl (by omega)) (by omega), if_neg (by omega)]
        exact h5 (j + 1) (by omega) (by omega))
      exact ⟨ih.1, ih.2.1, fun j hj => (ih.2.2 j hj).trans (sj_dO_hi m k hj h2)⟩
    · have e : sj_dl i (k + 1) m g = sj_dl i k m g := if_neg h
      rw [e]
      exact sj_dl_in i k m g h1 h2 (by omega) h4 (fun j hj hj2 => by
        by_cases h6 : j = k
        · subst h6; exact h
        · exact h5 j (by omega) hj2)
theorem sj_rn_o (m : Nat → Int32) (i : Nat) {j : Nat} : ∀ n, (∀ k, k < n → ¬ j = 14 + 3 * k ∧ ¬ j = 14 + 3 * k + 1) → sj_rn m i n j = m j
  | 0, _ => rfl
  | n + 1, h => (sj_upd_ne _ _ (h n (by omega)).2).trans ((sj_upd_ne _ _ (h n (by omega)).1).trans (sj_rn_o m i n (fun k hk => h k (by omega))))
/-- a sheet's new number -/
def sj_nw (i : Nat) (v : Int32) : Int32 := v - sj_bi (decide (nI i < v))
theorem sj_rn_0 (m : Nat → Int32) (i : Nat) {k : Nat} : ∀ n, k < n → sj_oa (sj_rn m i n) k 0 = sj_nw i (sj_oa m k 0)
  | n + 1, h => by
    show upd (sj_rn1 (sj_rn m i n) i n) (14 + 3 * n + 1) _ (14 + 3 * k + 0) = _
    rw [sj_upd_ne _ _ (by omega)]
    show upd (sj_rn m i n) (14 + 3 * n) _ (14 + 3 * k + 0) = _
    by_cases h1 : k = n
    · subst h1
      rw [show 14 + 3 * k + 0 = 14 + 3 * k from rfl, sj_upd_self]
      have e1 : sj_rn m i k (14 + 3 * k) = m (14 + 3 * k) := sj_rn_o m i k (fun j hj => by omega)
      have e2 : sj_oa (sj_rn m i k) k 0 = sj_oa m k 0 := e1
      rw [e1, e2]
      rfl
    · rw [sj_upd_ne _ _ (by omega)]
      exact sj_rn_0 m i n (by omega)
theorem sj_rn_1 (m : Nat → Int32) (i : Nat) {k : Nat} : ∀ n, k < n → sj_oa (sj_rn m i n) k 1 = sj_nw i (sj_oa m k 1)
  | n + 1, h => by
    show upd (sj_rn1 (sj_rn m i n) i n) (14 + 3 * n + 1) _ (14 + 3 * k + 1) = _
    by_cases h1 : k = n
    · subst h1
      rw [sj_upd_self]
      have e0 : sj_rn1 (sj_rn m i k) i k (14 + 3 * k + 1) = sj_rn m i k (14 + 3 * k + 1) := sj_upd_ne _ _ (by omega)
      have e1 : sj_rn m i k (14 + 3 * k + 1) = m (14 + 3 * k + 1) := sj_rn_o m i k (fun j hj => by omega)
      have e2 : sj_oa (sj_rn1 (sj_rn m i k) i k) k 1 = sj_oa m k 1 := e0.trans e1
      rw [e0, e1, e2]
      rfl
    · rw [sj_upd_ne _ _ (by omega)]
      show upd (sj_rn m i n) (14 + 3 * n) _ (14 + 3 * k + 1) = _
      rw [sj_upd_ne _ _ (by omega)]
      exact sj_rn_1 m i n (by omega)
theorem sj_rn_2 (m : Nat → Int32) (i : Nat) {k : Nat} (n : Nat) : sj_oa (sj_rn m i n) k 2 = sj_oa m k 2 := sj_rn_o m i n (fun j hj => by omega)
theorem sj_nw_n {i a : Nat} (ha : a < 2 ^ 31) (hi : i < 2 ^ 31) : sj_nw i (nI a) = nI (if i < a then a - 1 else a) := by
  unfold sj_nw
  by_cases h : i < a
  · rw [if_pos h, decide_eq_true ((nI_ltI hi ha).mpr h)]
    obtain ⟨c, rfl⟩ : ∃ c, a = c + 1 := ⟨a - 1, by omega⟩
    exact nI_pred c
  · rw [if_neg h, decide_eq_false (fun h8 => h ((nI_ltI hi ha).mp h8))]
    exact Int32.sub_zero _
theorem sj_oas_rn {m : Nat → Int32} {i N n : Nat} (h : sj_oas m N n) (hn8 : n ≤ 8) (hi : i < n) (hno : ∀ j, j < N → ¬ sj_of2 m i j) : sj_oas (sj_rn m i N) N (n - 1) := by
  obtain ⟨a, b, c⟩ := h
  have key : ∀ k w, k < N → w < 2 → ∃ v, v < n ∧ ¬ v = i ∧ sj_oa m k w = nI v ∧ sj_oa (sj_rn m i N) k w = nI (if i < v then v - 1 else v) := by
    intro k w hk hw
    obtain ⟨⟨a0, a1⟩, ⟨a2, a3⟩, -⟩ := a k hk
    have hno9 := hno k hk
    rcases (show w = 0 ∨ w = 1 by omega) with rfl | rfl
    · refine ⟨sj_tn (sj_oa m k 0), a1, fun h8 => hno9 (Or.inl (by rw [a0, h8])), a0, ?_⟩
      rw [sj_rn_0 m i N hk, ← sj_nw_n (by omega) (by omega), ← a0]
    · refine ⟨sj_tn (sj_oa m k 1), a3, fun h8 => hno9 (Or.inr (by rw [a2, h8])), a2, ?_⟩
      rw [sj_rn_1 m i N hk, ← sj_nw_n (by omega) (by omega), ← a2]
  have inj : ∀ k w k' w', k < N → w < 2 → k' < N → w' < 2 → sj_oa (sj_rn m i N) k w = sj_oa (sj_rn m i N) k' w' → sj_oa m k w = sj_oa m k' w' := by
    intro k w k' w' hk hw hk' hw' h8
    obtain ⟨v, h1, h2, h3, h4⟩ := key k w hk hw
    obtain ⟨v', h1', h2', h3', h4'⟩ := key k' w' hk' hw'
    rw [h4, h4'] at h8
    have h9 := (nI_eq (by split <;> omega) (by split <;> omega)).mp h8
    rw [h3, h3']
    have : v = v' := by
      by_cases c1 : i < v
      · rw [if_pos c1] at h9
        by_cases c2 : i < v'
        · rw [if_pos c2] at h9; omega
        · rw [if_neg c2] at h9; omega
      · rw [if_neg c1] at h9
        by_cases c2 : i < v'
        · rw [if_pos c2] at h9; omega
        · rw [if_neg c2] at h9; omega
    rw [this]
  have rng : ∀ k w, k < N → w < 2 → sj_oa (sj_rn m i N) k w = nI (sj_tn (sj_oa (sj_rn m i N) k w)) ∧ sj_tn (sj_oa (sj_rn m i N) k w) < n - 1 := by
    intro k w hk hw
    obtain ⟨v, h1, h2, h3, h4⟩ := key k w hk hw
    rw [h4, sj_tn_nI (by split <;> omega)]
    refine ⟨rfl, ?_⟩
    split <;> omega
  refine ⟨fun k hk => ⟨rng k 0 hk (by omega), rng k 1 hk (by omega), ?_⟩, fun k hk h8 => b k hk (inj k 0 k 1 hk (by omega) hk (by omega) h8), fun j k hjk hk => ⟨fun h8 => ?_, fun h8 => ?_⟩⟩
  · rw [sj_rn_2]
    exact (a k hk).2.2
  · exact (c j k hjk hk).1 ⟨inj j 0 k 0 (by omega) (by omega) hk (by omega) h8.1, inj j 1 k 1 (by omega) (by omega) hk (by omega) h8.2⟩
  · exact (c j k hjk hk).2 ⟨inj j 0 k 1 (by omega) (by omega) hk (by omega) h8.1, inj j 1 k 0 (by omega) (by omega) hk (by omega) h8.2⟩
theorem sj_ct_lo (m : Nat → Int32) (n i j : Nat) {q : Nat} (h9 : ¬ q = 9) (h : q < 98) : sj_ct m n i j q = m q := by
  unfold sj_ct
  rw [if_neg h9, if_neg (by omega)]
theorem sj_ct_of (m : Nat → Int32) (n i : Nat) {k w : Nat} (hk : k < n) (hw : w < 42) : sj_of (sj_ct m n i (98 + 42 * n)) k w = sj_of m (if k < i then k else k + 1) w := by
  unfold sj_ct sj_of
  dsimp only
  rw [if_neg (by omega)]
  by_cases h : k < i
  · rw [if_pos h, if_neg (by omega)]
  · rw [if_neg h, if_pos (by omega)]
    exact congrArg m (by omega)
theorem sj_inv_drp {m : Nat → Int32} {i : Nat} (h : sj_inv m) (hi : i < sj_tn (m 9)) : sj_inv (sj_drp m i) := by
  obtain ⟨a, b, c, d, f⟩ := h
  have hd := sj_dl_ok i (sj_tn (m 10)) m 0 b.1 b.2 (Nat.le_refl _)
  have hq := sj_dl_in i (n := sj_tn (m 9)) (sj_tn (m 10)) m 0 b.1 b.2 (Nat.le_refl _) c (fun j h1 h2 => absurd h1 (by omega))
  have e1 : (sj_dl i (sj_tn (m 10)) m 0).1 = sj_dp1 m i := rfl
  rw [e1] at hd hq
  have hr := sj_oas_rn hq.1 a.2 hi hq.2.1
  have e2 : sj_rn (sj_dp1 m i) i (sj_tn (sj_dp1 m i 10)) = sj_dp2 m i := rfl
  rw [e2] at hr
  have lo2 : ∀ j, (j < 14 ∨ 98 ≤ j) → sj_dp2 m i j = sj_dp1 m i j := fun j hj => sj_rn_o _ _ _ (fun k hk => by omega)
  have h9 : sj_drp m i 9 = nI (sj_tn (m 9) - 1) := by
    unfold sj_drp sj_ct
    exact if_pos rfl
  have e9 : sj_tn (sj_drp m i 9) = sj_tn (m 9) - 1 := by rw [h9]; exact sj_tn_nI (by omega)
  have h10 : sj_drp m i 10 = sj_dp1 m i 10 := (sj_ct_lo _ _ _ _ (by omega) (by omega)).trans (lo2 10 (by omega))
  refine ⟨?_, ?_, ?_, fun k hk => ?_, fun s hs => ?_⟩
  · rw [e9]; exact ⟨h9, by omega⟩
  · rw [h10]; exact ⟨hd.1, hd.2.1⟩
  · rw [h10, e9]
    exact sj_oas_map (fun k => k) (fun k hk => hk) (fun j k hjk hk => hjk) (fun k w hk hw => sj_ct_lo _ _ _ _ (by omega) (by omega)) hr
  · rw [e9] at hk
    have hof : ∀ w, w < 42 → sj_of (sj_drp m i) k w = sj_of m (if k < i then k else k + 1) w := fun w hw => by
      unfold sj_drp
      rw [sj_ct_of _ _ _ hk hw]
      exact (lo2 _ (by omega)).trans (hq.2.2 _ (by omega))
    have hk2 : (if k < i then k else k + 1) < sj_tn (m 9) := by split <;> omega
    exact sj_shw_map (by rw [hof 0 (by omega)]; exact (d _ hk2).1) (fun w _ hw2 => hof w hw2) (d _ hk2)
  · have e3 : sj_drp m i s = m s := (sj_ct_lo _ _ _ _ (by omega) (by omega)).trans ((lo2 s (by omega)).trans (hq.2.2 s (by omega)))
    rw [e3]
    exact f s hs
