/-! THE SAME: the class's oaths and hands against the reference's -/
theorem sj_jn_in {n : Nat} {f : Nat → Int32} {a c : Int32} {i : Nat} (hi : i < n) (h : f i = a ∨ f i = c) : sj_jn n f a c i = if a < c then a else c := if_pos ⟨hi, h⟩
theorem sj_jn_out {n : Nat} {f : Nat → Int32} {a c : Int32} {i : Nat} (h : ¬ (f i = a ∨ f i = c)) : sj_jn n f a c i = f i := if_neg (fun h2 => h h2.2)
theorem sj_jn_ge {n : Nat} {f : Nat → Int32} {a c : Int32} {i : Nat} (h : n ≤ i) : sj_jn n f a c i = f i := if_neg (fun h2 => by omega)
theorem sj_min2 (a c : Int32) : (if a < c then a else c) = a ∨ (if a < c then a else c) = c := by
  by_cases h : a < c
  · exact Or.inl (if_pos h)
  · exact Or.inr (if_neg h)
theorem sj_hnd_y {m : Nat → Int32} {w : Int32} {k : Nat} (h1 : ¬ nI k = w) (h2 : sj_oa m k 2 = 1) : sj_hnd m w (k + 1) = sj_jn (sj_tn (m 9)) (sj_hnd m w k) (sj_hnd m w k (sj_tn (sj_oa m k 0))) (sj_hnd m w k (sj_tn (sj_oa m k 1))) := if_pos ⟨h1, h2⟩
theorem sj_hnd_n {m : Nat → Int32} {w : Int32} {k : Nat} (h : ¬ (¬ nI k = w ∧ sj_oa m k 2 = 1)) : sj_hnd m w (k + 1) = sj_hnd m w k := if_neg h
/-- a hand is a sheet, at most the sheet itself -/
theorem sj_hnd_v {m : Nat → Int32} (hv : sj_oav m) (w : Int32) : ∀ k, k ≤ sj_tn (m 10) → ∀ i, (i < sj_tn (m 9) → ∃ x, x ≤ i ∧ sj_hnd m w k i = nI x) ∧ (sj_tn (m 9) ≤ i → sj_hnd m w k i = nI i)
  | 0, _, i => ⟨fun _ => ⟨i, Nat.le_refl i, rfl⟩, fun _ => rfl⟩
  | k + 1, hk, i => by
    have ih := sj_hnd_v hv w k (by omega)
    have hn8 := hv.1.2
    by_cases hc : ¬ nI k = w ∧ sj_oa m k 2 = 1
    · rw [sj_hnd_y hc.1 hc.2]
      refine ⟨fun hi => ?_, fun hi => (sj_jn_ge hi).trans ((ih i).2 hi)⟩
      obtain ⟨x, hx, ex⟩ := (ih i).1 hi
      by_cases hin : sj_hnd m w k i = sj_hnd m w k (sj_tn (sj_oa m k 0)) ∨ sj_hnd m w k i = sj_hnd m w k (sj_tn (sj_oa m k 1))
      · rw [sj_jn_in hi hin]
        obtain ⟨⟨e0, h0⟩, ⟨e1, h1⟩, _⟩ := hv.2.2 k (by omega)
        obtain ⟨y, hy, ey⟩ := (ih _).1 h0
        obtain ⟨z, hz, ez⟩ := (ih _).1 h1
        rw [ex, ey, ez] at hin
        rw [ey, ez]
        rcases hin with h | h
        · have hxy := (nI_eq (by omega) (by omega)).mp h
          by_cases hl : nI y < nI z
          · rw [if_pos hl]
            exact ⟨y, by omega, rfl⟩
          · rw [if_neg hl]
            have := mt (nI_ltI (a := y) (b := z) (by omega) (by omega)).mpr hl
            exact ⟨z, by omega, rfl⟩
        · have hxz := (nI_eq (by omega) (by omega)).mp h
          by_cases hl : nI y < nI z
          · rw [if_pos hl]
            have := (nI_ltI (a := y) (b := z) (by omega) (by omega)).mp hl
            exact ⟨y, by omega, rfl⟩
          · rw [if_neg hl]
            exact ⟨z, by omega, rfl⟩
      · rw [sj_jn_out hin]
        exact ⟨x, hx, ex⟩
    · rw [sj_hnd_n hc]
      exact ih i
/-- what is alike on the ends of each oath is alike on the sheets of a hand -/
theorem sj_hnd_T {m : Nat → Int32} (hv : sj_oav m) (w : Int32) (T : Nat → Prop) : ∀ K, K ≤ sj_tn (m 10) → (∀ k, k < K → ¬ nI k = w → sj_oa m k 2 = 1 → (T (sj_tn (sj_oa m k 0)) ↔ T (sj_tn (sj_oa m k 1)))) → ∀ x y, x < sj_tn (m 9) → y < sj_tn (m 9) → sj_hnd m w K x = sj_hnd m w K y → (T x ↔ T y)
  | 0, _, _, x, y, hx, hy, e => by
    have hn8 := hv.1.2
    have h1 : x = y := (nI_eq (by omega) (by omega)).mp e
    rw [h1]
  | K + 1, hK, hT, x, y, hx, hy, e => by
    have ih := sj_hnd_T hv w T K (by omega) (fun k hk => hT k (by omega))
    by_cases hc : ¬ nI K = w ∧ sj_oa m K 2 = 1
    · rw [sj_hnd_y hc.1 hc.2] at e
      obtain ⟨⟨_, h0⟩, ⟨_, h1⟩, _⟩ := hv.2.2 K (by omega)
      have hAB := hT K (by omega) hc.1 hc.2
      have key : ∀ z, z < sj_tn (m 9) → (sj_hnd m w K z = sj_hnd m w K (sj_tn (sj_oa m K 0)) ∨ sj_hnd m w K z = sj_hnd m w K (sj_tn (sj_oa m K 1))) → (T z ↔ T (sj_tn (sj_oa m K 0))) := fun z hz h => h.elim (fun h2 => ih z _ hz h0 h2) (fun h2 => (ih z _ hz h1 h2).trans hAB.symm)
      by_cases hx1 : sj_hnd m w K x = sj_hnd m w K (sj_tn (sj_oa m K 0)) ∨ sj_hnd m w K x = sj_hnd m w K (sj_tn (sj_oa m K 1))
      · by_cases hy1 : sj_hnd m w K y = sj_hnd m w K (sj_tn (sj_oa m K 0)) ∨ sj_hnd m w K y = sj_hnd m w K (sj_tn (sj_oa m K 1))
        · exact (key x hx hx1).trans (key y hy hy1).symm
        · rw [sj_jn_in hx hx1, sj_jn_out hy1] at e
          exact absurd ((sj_min2 _ _).imp (fun h => e.symm.trans h) (fun h => e.symm.trans h)) hy1
      · by_cases hy1 : sj_hnd m w K y = sj_hnd m w K (sj_tn (sj_oa m K 0)) ∨ sj_hnd m w K y = sj_hnd m w K (sj_tn (sj_oa m K 1))
        · rw [sj_jn_out hx1, sj_jn_in hy hy1] at e
          exact absurd ((sj_min2 _ _).imp (fun h => e.trans h) (fun h => e.trans h)) hx1
        · rw [sj_jn_out hx1, sj_jn_out hy1] at e
          exact ih x y hx hy e
    · rw [sj_hnd_n hc] at e
      exact ih x y hx hy e
theorem sj_jn_eq {n : Nat} {f : Nat → Int32} {a c : Int32} {x y : Nat} (hx : x < n) (hy : y < n) (e : f x = f y) : sj_jn n f a c x = sj_jn n f a c y := by
  by_cases h : f x = a ∨ f x = c
  · rw [sj_jn_in hx h, sj_jn_in hy (by rw [← e]; exact h)]
  · rw [sj_jn_out h, sj_jn_out (by rw [← e]; exact h), e]
/-- the ends of an oath of one hand are of one hand -/
theorem sj_hnd_1 {m : Nat → Int32} (hv : sj_oav m) (w : Int32) {k : Nat} (h1 : ¬ nI k = w) (h2 : sj_oa m k 2 = 1) : ∀ K, k < K → K ≤ sj_tn (m 10) → sj_hnd m w K (sj_tn (sj_oa m k 0)) = sj_hnd m w K (sj_tn (sj_oa m k 1))
  | 0, h, _ => by omega
  | K + 1, h, hK => by
    obtain ⟨⟨_, h3⟩, ⟨_, h4⟩, _⟩ := hv.2.2 k (by omega)
    by_cases hkK : k = K
    · subst hkK
      rw [sj_hnd_y h1 h2, sj_jn_in h3 (Or.inl rfl), sj_jn_in h4 (Or.inr rfl)]
    · have ih := sj_hnd_1 hv w h1 h2 K (by omega) (by omega)
      by_cases hc : ¬ nI K = w ∧ sj_oa m K 2 = 1
      · rw [sj_hnd_y hc.1 hc.2]
        exact sj_jn_eq h3 h4 ih
      · rw [sj_hnd_n hc]
        exact ih
theorem sj_at8 (f : Nat → Int32) {a : Nat} (h : a < 8) : sj_at 8 f (nI a) = f a := sj_at_nI f h (by omega)
theorem sj_nIm1 {k : Nat} (h : k < 2 ^ 31) : ¬ nI k = -1 := by
  intro e
  have h0 := nI_pos h
  rw [e] at h0
  exact h0 (by decide)
/-- joined over all eight places: the same -/
theorem sq_hn_hnd {m : Nat → Int32} (hv : sj_oav m) {f1 f2 f3 : Nat → Int32} (hf : ∀ k, k < sj_tn (m 10) → f1 k = sj_oa m k 0 ∧ f2 k = sj_oa m k 1 ∧ f3 k = sj_oa m k 2) : ∀ k, k ≤ sj_tn (m 10) → ∀ i, i < 8 → sq_hn f1 f2 f3 k i = sj_hnd m (-1) k i
  | 0, _, _, _ => rfl
  | k + 1, hk, i, hi => by
    have ih := sq_hn_hnd hv hf k (by omega)
    have hn8 := hv.1.2
    have hN := hv.2.1.2
    obtain ⟨g1, g2, g3⟩ := hf k (by omega)
    obtain ⟨⟨e0, h0⟩, ⟨e1, h1⟩, _⟩ := hv.2.2 k (by omega)
    by_cases hc : sj_oa m k 2 = 1
    · have e9 : sq_hn f1 f2 f3 (k + 1) = sj_jn 8 (sq_hn f1 f2 f3 k) (sj_at 8 (sq_hn f1 f2 f3 k) (f1 k)) (sj_at 8 (sq_hn f1 f2 f3 k) (f2 k)) := if_pos (g3.trans hc)
      have hA : sj_at 8 (sq_hn f1 f2 f3 k) (f1 k) = sj_hnd m (-1) k (sj_tn (sj_oa m k 0)) := by
        rw [g1, e0, sj_at8 _ (by omega), ← e0]
        exact ih _ (by omega)
      have hB : sj_at 8 (sq_hn f1 f2 f3 k) (f2 k) = sj_hnd m (-1) k (sj_tn (sj_oa m k 1)) := by
        rw [g2, e1, sj_at8 _ (by omega), ← e1]
        exact ih _ (by omega)
      rw [e9, hA, hB, sj_hnd_y (sj_nIm1 (by omega)) hc]
      by_cases hin : i < sj_tn (m 9)
      · by_cases hq : sj_hnd m (-1) k i = sj_hnd m (-1) k (sj_tn (sj_oa m k 0)) ∨ sj_hnd m (-1) k i = sj_hnd m (-1) k (sj_tn (sj_oa m k 1))
        · rw [sj_jn_in hi (by rw [ih i hi]; exact hq), sj_jn_in hin hq]
        · rw [sj_jn_out (by rw [ih i hi]; exact hq), sj_jn_out hq]
          exact ih i hi
      · have hge : sj_tn (m 9) ≤ i := by omega
        have ei := ((sj_hnd_v hv (-1) k (by omega) i).2 hge)
        obtain ⟨y, hy, ey⟩ := (sj_hnd_v hv (-1) k (by omega) _).1 h0
        obtain ⟨z, hz, ez⟩ := (sj_hnd_v hv (-1) k (by omega) _).1 h1
        rw [sj_jn_ge hge, sj_jn_out ?_]
        · exact ih i hi
        · rw [ih i hi, ei, ey, ez]
          intro h
          rcases h with h | h
          · have := (nI_eq (by omega) (by omega)).mp h
            omega
          · have := (nI_eq (by omega) (by omega)).mp h
            omega
    · have e9 : sq_hn f1 f2 f3 (k + 1) = sq_hn f1 f2 f3 k := if_neg (fun h => hc (g3.symm.trans h))
      rw [e9, sj_hnd_n (fun h => hc h.2)]
      exact ih i hi
/-! masks -/
set_option maxRecDepth 100000 in
theorem sj_mk_and : ∀ M, M < 256 → ∀ a, a < 8 → ∀ b, b < 8 → (decide (nI M &&& ((1 <<< (nI a &&& 31)) ||| (1 <<< (nI b &&& 31))) = 0) = !(M.testBit a || M.testBit b)) ∧ nI M ||| ((1 <<< (nI a &&& 31)) ||| (1 <<< (nI b &&& 31))) = nI (M ||| (2 ^ a ||| 2 ^ b)) := by decide +kernel
set_option maxRecDepth 100000 in
theorem sj_mk_one : ∀ M, M < 256 → ∀ b, b < 8 → decide (nI M &&& (1 <<< (nI b &&& 31)) = 0) = !M.testBit b := by decide +kernel
theorem sj_mk_bit : ∀ a, a < 8 → (1 <<< (nI a &&& 31)) = nI (2 ^ a) := by decide +kernel
theorem sj_tb2 (M a b i : Nat) : (M ||| (2 ^ a ||| 2 ^ b)).testBit i = (M.testBit i || (decide (a = i) || decide (b = i))) := by
  rw [Nat.testBit_or, Nat.testBit_or, Nat.testBit_two_pow, Nat.testBit_two_pow]
theorem sj_lt2 {M a b : Nat} (h : M < 256) (ha : a < 8) (hb : b < 8) : M ||| (2 ^ a ||| 2 ^ b) < 256 := Nat.or_lt_two_pow (n := 8) h (Nat.or_lt_two_pow (n := 8) (Nat.pow_lt_pow_right (by omega) ha) (Nat.pow_lt_pow_right (by omega) hb))
theorem sj_tbeq {M M' : Nat} (h : M < 256) (h' : M' < 256) (e : ∀ i, i < 8 → M.testBit i = M'.testBit i) : M = M' := by
  refine Nat.eq_of_testBit_eq (fun i => ?_)
  by_cases hi : i < 8
  · exact e i hi
  · have h2 : 2 ^ 8 ≤ 2 ^ i := Nat.pow_le_pow_right (by omega) (by omega)
    rw [Nat.testBit_lt_two_pow (Nat.lt_of_lt_of_le h h2), Nat.testBit_lt_two_pow (Nat.lt_of_lt_of_le h' h2)]
/-- the masks that the reference's oaths would lead to -/
def sq_sN (m : Nat → Int32) (w : Int32) (M : Nat) : Nat → Nat
  | 0 => M
  | k + 1 => if (¬ nI k = w ∧ sj_oa m k 2 = 1) ∧ ((sq_sN m w M k).testBit (sj_tn (sj_oa m k 0)) || (sq_sN m w M k).testBit (sj_tn (sj_oa m k 1))) = true then sq_sN m w M k ||| (2 ^ sj_tn (sj_oa m k 0) ||| 2 ^ sj_tn (sj_oa m k 1)) else sq_sN m w M k
def sq_lN (m : Nat → Int32) (w : Int32) : Nat → Nat → Nat
  | 0, M => M
  | j + 1, M => if sq_sN m w M (sj_tn (m 10)) = M then M else sq_lN m w j (sq_sN m w M (sj_tn (m 10)))
theorem sq_sN_lt {m : Nat → Int32} (hv : sj_oav m) (w : Int32) {M : Nat} (hM : M < 256) : ∀ k, k ≤ sj_tn (m 10) → sq_sN m w M k < 256
  | 0, _ => hM
  | k + 1, hk => by
    have ih := sq_sN_lt hv w hM k (by omega)
    have hn8 := hv.1.2
    obtain ⟨⟨_, h0⟩, ⟨_, h1⟩, _⟩ := hv.2.2 k (by omega)
    unfold sq_sN
    by_cases hc : (¬ nI k = w ∧ sj_oa m k 2 = 1) ∧ ((sq_sN m w M k).testBit (sj_tn (sj_oa m k 0)) || (sq_sN m w M k).testBit (sj_tn (sj_oa m k 1))) = true
    · rw [if_pos hc]
      exact sj_lt2 ih (by omega) (by omega)
    · rw [if_neg hc]
      exact ih
theorem sq_sw_sN {m : Nat → Int32} (hv : sj_oav m) {f1 f2 f3 : Nat → Int32} (hf : ∀ k, k < sj_tn (m 10) → f1 k = sj_oa m k 0 ∧ f2 k = sj_oa m k 1 ∧ f3 k = sj_oa m k 2) (w : Int32) {M : Nat} (hM : M < 256) : ∀ k, k ≤ sj_tn (m 10) → sq_sw f1 f2 f3 w (nI M) k = nI (sq_sN m w M k)
  | 0, _ => rfl
  | k + 1, hk => by
    have ih := sq_sw_sN hv hf w hM k (by omega)
    have hlt := sq_sN_lt hv w hM k (by omega)
    have hn8 := hv.1.2
    obtain ⟨g1, g2, g3⟩ := hf k (by omega)
    obtain ⟨⟨e0, h0⟩, ⟨e1, h1⟩, _⟩ := hv.2.2 k (by omega)
    unfold sq_sw sq_sN
    have een : sq_en f1 f2 k = (1 <<< (nI (sj_tn (sj_oa m k 0)) &&& 31)) ||| (1 <<< (nI (sj_tn (sj_oa m k 1)) &&& 31)) := by
      unfold sq_en
      rw [g1, g2, ← e0, ← e1]
    obtain ⟨p1, p2⟩ := sj_mk_and (sq_sN m w M k) hlt _ (show sj_tn (sj_oa m k 0) < 8 by omega) _ (show sj_tn (sj_oa m k 1) < 8 by omega)
    rw [ih, een, g3]
    by_cases hc : (¬ nI k = w ∧ sj_oa m k 2 = 1) ∧ ((sq_sN m w M k).testBit (sj_tn (sj_oa m k 0)) || (sq_sN m w M k).testBit (sj_tn (sj_oa m k 1))) = true
    · rw [if_pos hc]
      rw [hc.2] at p1
      rw [if_pos ⟨hc.1.1, hc.1.2, of_decide_eq_false p1⟩]
      exact p2
    · rw [if_neg hc, if_neg]
      intro h
      refine hc ⟨⟨h.1, h.2.1⟩, ?_⟩
      rw [decide_eq_false h.2.2] at p1
      cases hb : ((sq_sN m w M k).testBit (sj_tn (sj_oa m k 0)) || (sq_sN m w M k).testBit (sj_tn (sj_oa m k 1)))
      · rw [hb] at p1
        exact absurd p1 (by decide)
      · rfl
theorem sq_ldr_lN {m : Nat → Int32} (hv : sj_oav m) {f1 f2 f3 : Nat → Int32} (hf : ∀ k, k < sj_tn (m 10) → f1 k = sj_oa m k 0 ∧ f2 k = sj_oa m k 1 ∧ f3 k = sj_oa m k 2) (w : Int32) : ∀ j M, M < 256 → sq_ldr f1 f2 f3 (sj_tn (m 10)) w j (nI M) = nI (sq_lN m w j M) ∧ sq_lN m w j M < 256
  | 0, M, hM => ⟨rfl, hM⟩
  | j + 1, M, hM => by
    have hlt := sq_sN_lt hv w hM (sj_tn (m 10)) (Nat.le_refl _)
    have ih := sq_ldr_lN hv hf w j _ hlt
    unfold sq_ldr sq_lN
    rw [sq_sw_sN hv hf w hM _ (Nat.le_refl _)]
    by_cases hc : sq_sN m w M (sj_tn (m 10)) = M
    · rw [if_pos hc, if_pos (by rw [hc])]
      exact ⟨rfl, hM⟩
    · rw [if_neg hc, if_neg (fun h => hc ((nI_eq (by omega) (by omega)).mp h))]
      exact ih
theorem sq_sN_mono {m : Nat → Int32} {w : Int32} {M i : Nat} : ∀ k d, (sq_sN m w M k).testBit i = true → (sq_sN m w M (k + d)).testBit i = true
  | _, 0, h => h
  | k, d + 1, h => by
    have ih := sq_sN_mono k d h
    show (sq_sN m w M (k + d + 1)).testBit i = true
    unfold sq_sN
    by_cases hc : (¬ nI (k + d) = w ∧ sj_oa m (k + d) 2 = 1) ∧ ((sq_sN m w M (k + d)).testBit (sj_tn (sj_oa m (k + d) 0)) || (sq_sN m w M (k + d)).testBit (sj_tn (sj_oa m (k + d) 1))) = true
    · rw [if_pos hc, sj_tb2, ih, Bool.true_or]
    · rw [if_neg hc]
      exact ih
/-- what holds of a mask's sheets, and goes over along the oaths, holds behind a sweep -/
theorem sq_sN_T {m : Nat → Int32} {w : Int32} {M : Nat} (T : Nat → Prop) (h0 : ∀ i, M.testBit i = true → T i) : ∀ K, (∀ k, k < K → ¬ nI k = w → sj_oa m k 2 = 1 → (T (sj_tn (sj_oa m k 0)) ↔ T (sj_tn (sj_oa m k 1)))) → ∀ i, (sq_sN m w M K).testBit i = true → T i
  | 0, _, i, h => h0 i h
  | K + 1, hT, i, h => by
    have ih := sq_sN_T T h0 K (fun k hk => hT k (by omega))
    unfold sq_sN at h
    by_cases hc : (¬ nI K = w ∧ sj_oa m K 2 = 1) ∧ ((sq_sN m w M K).testBit (sj_tn (sj_oa m K 0)) || (sq_sN m w M K).testBit (sj_tn (sj_oa m K 1))) = true
    · rw [if_pos hc, sj_tb2] at h
      have hAB := hT K (by omega) hc.1.1 hc.1.2
      have hA : T (sj_tn (sj_oa m K 0)) := by
        rcases (Bool.or_eq_true _ _).mp hc.2 with h2 | h2
        · exact ih _ h2
        · exact hAB.mpr (ih _ h2)
      rcases (Bool.or_eq_true _ _).mp h with h2 | h2
      · exact ih i h2
      · rcases (Bool.or_eq_true _ _).mp h2 with h3 | h3
        · rw [← of_decide_eq_true h3]
          exact hA
        · rw [← of_decide_eq_true h3]
          exact hAB.mp hA
    · rw [if_neg hc] at h
      exact ih i h
theorem sq_lN_T {m : Nat → Int32} {w : Int32} (T : Nat → Prop) (hT : ∀ k, k < sj_tn (m 10) → ¬ nI k = w → sj_oa m k 2 = 1 → (T (sj_tn (sj_oa m k 0)) ↔ T (sj_tn (sj_oa m k 1)))) : ∀ j M, (∀ i, M.testBit i = true → T i) → ∀ i, (sq_lN m w j M).testBit i = true → T i
  | 0, _, h0 => h0
  | j + 1, M, h0 => by
    unfold sq_lN
    by_cases hc : sq_sN m w M (sj_tn (m 10)) = M
    · rw [if_pos hc]
      exact h0
    · rw [if_neg hc]
      exact sq_lN_T T hT j _ (sq_sN_T T h0 _ hT)
theorem sq_lN_mono {m : Nat → Int32} {w : Int32} {i : Nat} : ∀ j M, M.testBit i = true → (sq_lN m w j M).testBit i = true
  | 0, _, h => h
  | j + 1, M, h => by
    unfold sq_lN
    by_cases hc : sq_sN m w M (sj_tn (m 10)) = M
    · rw [if_pos hc]
      exact h
    · rw [if_neg hc]
      exact sq_lN_mono j _ (by have := sq_sN_mono (m := m) (w := w) (M := M) (i := i) 0 (sj_tn (m 10)) h; rwa [Nat.zero_add] at this)
/-- a mask along which no oath leads on -/
def sq_cl (m : Nat → Int32) (w : Int32) (M : Nat) : Prop := ∀ k, k < sj_tn (m 10) → ¬ nI k = w → sj_oa m k 2 = 1 → M.testBit (sj_tn (sj_oa m k 0)) = M.testBit (sj_tn (sj_oa m k 1))
theorem sq_fix_cl {m : Nat → Int32} {w : Int32} {M : Nat} (h : sq_sN m w M (sj_tn (m 10)) = M) : sq_cl m w M := by
  intro k hk h1 h2
  have up : ∀ j, j ≤ sj_tn (m 10) → ∀ i, (sq_sN m w M j).testBit i = true → M.testBit i = true := fun j hj i hi => by
    have h3 := sq_sN_mono (m := m) (w := w) (M := M) (i := i) j (sj_tn (m 10) - j) hi
    rw [show j + (sj_tn (m 10) - j) = sj_tn (m 10) by omega, h] at h3
    exact h3
  have dn : ∀ j i, M.testBit i = true → (sq_sN m w M j).testBit i = true := fun j i hi => by
    have h3 := sq_sN_mono (m := m) (w := w) (M := M) (i := i) 0 j hi
    rwa [Nat.zero_add] at h3
  by_cases hc : ((sq_sN m w M k).testBit (sj_tn (sj_oa m k 0)) || (sq_sN m w M k).testBit (sj_tn (sj_oa m k 1))) = true
  · have e : sq_sN m w M (k + 1) = sq_sN m w M k ||| (2 ^ sj_tn (sj_oa m k 0) ||| 2 ^ sj_tn (sj_oa m k 1)) := if_pos ⟨⟨h1, h2⟩, hc⟩
    have hA : M.testBit (sj_tn (sj_oa m k 0)) = true := up (k + 1) (by omega) _ (by rw [e, sj_tb2, decide_eq_true (rfl : sj_tn (sj_oa m k 0) = sj_tn (sj_oa m k 0)), Bool.true_or, Bool.or_true])
    have hB : M.testBit (sj_tn (sj_oa m k 1)) = true := up (k + 1) (by omega) _ (by rw [e, sj_tb2, decide_eq_true (rfl : sj_tn (sj_oa m k 1) = sj_tn (sj_oa m k 1)), Bool.or_true, Bool.or_true])
    rw [hA, hB]
  · have h3 : ∀ a, M.testBit a = true → (a = sj_tn (sj_oa m k 0) ∨ a = sj_tn (sj_oa m k 1)) → False := fun a ha hab => hc (by
      rcases hab with rfl | rfl
      · rw [dn k _ ha, Bool.true_or]
      · rw [dn k _ ha, Bool.or_true])
    cases hA : M.testBit (sj_tn (sj_oa m k 0))
    · cases hB : M.testBit (sj_tn (sj_oa m k 1))
      · rfl
      · exact (h3 _ hB (Or.inr rfl)).elim
    · exact (h3 _ hA (Or.inl rfl)).elim
/-- how many of the first k sheets a mask has -/
def sq_cn (M : Nat) : Nat → Nat
  | 0 => 0
  | k + 1 => sq_cn M k + (M.testBit k).toNat
theorem sq_cn_le (M : Nat) : ∀ k, sq_cn M k ≤ k
  | 0 => Nat.le_refl 0
  | k + 1 => by
    have := sq_cn_le M k
    have h2 := Bool.toNat_le (M.testBit k)
    show sq_cn M k + (M.testBit k).toNat ≤ k + 1
    omega
theorem sq_cn_mono {M M' : Nat} (h : ∀ i, M.testBit i = true → M'.testBit i = true) : ∀ k, sq_cn M k ≤ sq_cn M' k
  | 0 => Nat.le_refl 0
  | k + 1 => by
    have ih := sq_cn_mono h k
    show sq_cn M k + (M.testBit k).toNat ≤ sq_cn M' k + (M'.testBit k).toNat
    cases h1 : M.testBit k
    · show sq_cn M k + 0 ≤ _
      omega
    · rw [h k h1]
      omega
theorem sq_cn_lt {M M' : Nat} (h : ∀ i, M.testBit i = true → M'.testBit i = true) : ∀ k, (∃ i, i < k ∧ ¬ M.testBit i = M'.testBit i) → sq_cn M k < sq_cn M' k
  | 0, ⟨i, hi, _⟩ => by omega
  | k + 1, ⟨i, hi, hne⟩ => by
    show sq_cn M k + (M.testBit k).toNat < sq_cn M' k + (M'.testBit k).toNat
    by_cases hik : i = k
    · subst hik
      have ih := sq_cn_mono h i
      cases h1 : M.testBit i
      · cases h2 : M'.testBit i
        · rw [h1, h2] at hne
          exact absurd rfl hne
        · show sq_cn M i + 0 < sq_cn M' i + 1
          omega
      · rw [h1, h i h1] at hne
        exact absurd rfl hne
    · have ih := sq_cn_lt h k ⟨i, by omega, hne⟩
      cases h1 : M.testBit k
      · show sq_cn M k + 0 < _
        omega
      · rw [h k h1]
        omega
theorem sq_lN_cl {m : Nat → Int32} (hv : sj_oav m) (w : Int32) : ∀ j M, M < 256 → 9 ≤ sq_cn M 8 + j → sq_cl m w (sq_lN m w j M)
  | 0, M, _, h => by
    have := sq_cn_le M 8
    omega
  | j + 1, M, hM, h => by
    unfold sq_lN
    by_cases hc : sq_sN m w M (sj_tn (m 10)) = M
    · rw [if_pos hc]
      exact sq_fix_cl hc
    · rw [if_neg hc]
      have hlt := sq_sN_lt hv w hM (sj_tn (m 10)) (Nat.le_refl _)
      have hsub : ∀ i, M.testBit i = true → (sq_sN m w M (sj_tn (m 10))).testBit i = true := fun i hi => by
        have h3 := sq_sN_mono (m := m) (w := w) (M := M) (i := i) 0 (sj_tn (m 10)) hi
        rwa [Nat.zero_add] at h3
      refine sq_lN_cl hv w j _ hlt ?_
      have h4 := sq_cn_lt hsub 8 (Classical.byContradiction fun hno => hc (sj_tbeq hlt hM (fun i hi => (Classical.byContradiction fun hne => hno ⟨i, hi, fun e => hne e.symm⟩))))
      omega
theorem sq_cn_one : ∀ a, a < 8 → sq_cn (2 ^ a) 8 = 1 := by decide +kernel
/-- to lead from a sheet to a sheet along oaths is to be of one hand -/
theorem sq_lds_hH {m : Nat → Int32} (hv : sj_oav m) {f1 f2 f3 : Nat → Int32} (hf : ∀ k, k < sj_tn (m 10) → f1 k = sj_oa m k 0 ∧ f2 k = sj_oa m k 1 ∧ f3 k = sj_oa m k 2) (w : Int32) {a b : Nat} (ha : a < sj_tn (m 9)) (hb : b < sj_tn (m 9)) : sq_lds f1 f2 f3 (sj_tn (m 10)) (nI a) (nI b) w = decide (sj_hH m w a = sj_hH m w b) := by
  have hn8 := hv.1.2
  have h2a : 2 ^ a < 256 := Nat.pow_lt_pow_right (n := 8) (by omega) (by omega)
  obtain ⟨e1, hR⟩ := sq_ldr_lN hv hf w 8 (2 ^ a) h2a
  unfold sq_lds
  rw [sj_mk_bit a (by omega), e1, sj_mk_one _ hR b (by omega), Bool.not_not]
  have hstart : ∀ i, (2 ^ a).testBit i = true → i = a := fun i hi => by
    rw [Nat.testBit_two_pow] at hi
    exact (of_decide_eq_true hi).symm
  have hcl := sq_lN_cl hv w 8 (2 ^ a) h2a (by have := sq_cn_one a (by omega); omega)
  have ha1 : (sq_lN m w 8 (2 ^ a)).testBit a = true := sq_lN_mono 8 (2 ^ a) (by rw [Nat.testBit_two_pow]; exact decide_eq_true rfl)
  cases hbb : (sq_lN m w 8 (2 ^ a)).testBit b
  · refine (decide_eq_false (fun e => ?_)).symm
    have h5 := (sj_hnd_T hv w (fun i => (sq_lN m w 8 (2 ^ a)).testBit i = true) (sj_tn (m 10)) (Nat.le_refl _) (fun k hk h1 h2 => by rw [hcl k hk h1 h2]) a b ha hb e).mp ha1
    rw [hbb] at h5
    exact absurd h5 (by decide)
  · refine (decide_eq_true ?_).symm
    have h6 := sq_lN_T (m := m) (w := w) (fun i => sj_hH m w a = sj_hH m w i) (fun k hk h1 h2 => by
      have h7 := sj_hnd_1 hv w h1 h2 (sj_tn (m 10)) hk (Nat.le_refl _)
      show sj_hH m w a = sj_hH m w _ ↔ sj_hH m w a = sj_hH m w _
      unfold sj_hH
      rw [h7]) 8 (2 ^ a) (fun i hi => by rw [hstart i hi]) b hbb
    exact h6
/-! what is told of the oaths -/
def sq_oR (c : sq_C) (m : Nat → Int32) : Prop := c.1 = m 10 ∧ c.2.1 = m 11 ∧ (∀ k, k < sj_tn (m 10) → c.2.2.1 k = sj_oa m k 0 ∧ c.2.2.2.1 k = sj_oa m k 1 ∧ c.2.2.2.2.1 k = sj_oa m k 2) ∧ ∀ i, i < 8 → c.2.2.2.2.2 i = sj_hH m (-1) i
/-- no oath of two hands is within a hand -/
def sj_uc (m : Nat → Int32) : Prop := ∀ k, k < sj_tn (m 10) → sj_oa m k 2 = 0 → ¬ sj_hH m (-1) (sj_tn (sj_oa m k 0)) = sj_hH m (-1) (sj_tn (sj_oa m k 1))
theorem sq_of_m {m : Nat → Int32} {f1 f2 f3 : Nat → Int32} (hf : ∀ k, k < sj_tn (m 10) → f1 k = sj_oa m k 0 ∧ f2 k = sj_oa m k 1 ∧ f3 k = sj_oa m k 2) {k : Nat} (hk : k < sj_tn (m 10)) (s : Int32) : sq_of f1 f2 k s = (decide (sj_oa m k 0 = s) || decide (sj_oa m k 1 = s)) := by
  unfold sq_of
  rw [(hf k hk).1, (hf k hk).2.1]
theorem sj_fst_cg {p q : Nat → Bool} : ∀ n k, (∀ j, k ≤ j → j < k + n → p j = q j) → sj_fst p n k = sj_fst q n k
  | 0, _, _ => rfl
  | n + 1, k, h => by
    unfold sj_fst
    rw [h k (Nat.le_refl k) (by omega), sj_fst_cg n (k + 1) (fun j h1 h2 => h j (by omega) (by omega))]
theorem sj_sum_cg {f g : Nat → Int32} : ∀ n, (∀ k, k < n → f k = g k) → sj_sum f n = sj_sum g n
  | 0, _ => rfl
  | n + 1, h => by
    unfold sj_sum
    rw [h n (by omega), sj_sum_cg n (fun k hk => h k (by omega))]
/-- the place of an oath: the same -/
theorem sq_po_fo {m : Nat → Int32} (hI : sj_inv m) {f1 f2 f3 : Nat → Int32} (hf : ∀ k, k < sj_tn (m 10) → f1 k = sj_oa m k 0 ∧ f2 k = sj_oa m k 1 ∧ f3 k = sj_oa m k 2) {i e : Nat} (hi : i < 2 ^ 31) (he : e < 2 ^ 31) : sq_po f1 f2 (sj_tn (m 10)) (nI i) (nI e) = sj_fo m i e := by
  unfold sq_po sj_fo
  refine sj_fst_cg _ _ (fun k _ hk => ?_)
  have hk2 : k < sj_tn (m 10) := by omega
  have hne := hI.2.2.1.2.1 k hk2
  rw [sq_of_m hf hk2, sq_of_m hf hk2]
  unfold sj_fp
  by_cases h1 : sj_oa m k 0 = nI i
  · have h2 : ¬ sj_oa m k 1 = nI i := fun h => hne (h1.trans h.symm)
    rw [decide_eq_true h1, decide_eq_false h2]
    by_cases h3 : i = e
    · subst h3
      rw [decide_eq_true h1, decide_eq_false h2, decide_eq_true rfl]
      rfl
    · have h4 : ¬ nI i = nI e := fun h => h3 ((nI_eq hi he).mp h)
      have h5 : ¬ sj_oa m k 0 = nI e := fun h => h4 (h1.symm.trans h)
      rw [decide_eq_false h4, decide_eq_false h5]
      cases decide (sj_oa m k 1 = nI e) <;> rfl
  · rw [decide_eq_false h1]
    by_cases h2 : sj_oa m k 1 = nI i
    · rw [decide_eq_true h2]
      by_cases h3 : i = e
      · subst h3
        rw [decide_eq_false h1, decide_eq_true h2, decide_eq_true rfl]
        rfl
      · have h4 : ¬ nI i = nI e := fun h => h3 ((nI_eq hi he).mp h)
        have h5 : ¬ sj_oa m k 1 = nI e := fun h => h4 (h2.symm.trans h)
        rw [decide_eq_false h4, decide_eq_false h5]
        cases decide (sj_oa m k 0 = nI e) <;> rfl
    · rw [decide_eq_false h2]
      cases decide (sj_oa m k 0 = nI e) <;> cases decide (sj_oa m k 1 = nI e) <;> cases decide (nI i = nI e) <;> rfl
theorem sq_fst_in {p : Nat → Bool} : ∀ n k, sj_fst p n k = -1 ∨ ∃ j, k ≤ j ∧ j < k + n ∧ p j = true ∧ sj_fst p n k = nI j
  | 0, _ => Or.inl rfl
  | n + 1, k => by
    unfold sj_fst
    by_cases h : p k = true
    · rw [if_pos h]
      exact Or.inr ⟨k, by omega, by omega, h, rfl⟩
    · rw [if_neg h]
      rcases sq_fst_in (p := p) n (k + 1) with h1 | ⟨j, h1, h2, h3, h4⟩
      · exact Or.inl h1
      · exact Or.inr ⟨j, by omega, by omega, h3, h4⟩
theorem sq_ko_too {m : Nat → Int32} (hI : sj_inv m) {f1 f2 f3 : Nat → Int32} (hf : ∀ k, k < sj_tn (m 10) → f1 k = sj_oa m k 0 ∧ f2 k = sj_oa m k 1 ∧ f3 k = sj_oa m k 2) {i e : Nat} (hi : i < 2 ^ 31) (he : e < 2 ^ 31) : sq_ko f1 f2 f3 (sj_tn (m 10)) (nI i) (nI e) = sj_too m i e := by
  have hN := hI.2.1.2
  unfold sq_ko sj_too
  rw [sq_po_fo hI hf hi he]
  rcases sq_fst_in (p := sj_fp m i e) (sj_tn (m 10)) 0 with h | ⟨j, _, hj, _, h⟩
  · rw [if_pos (show sj_fo m i e = -1 from h), if_pos (show sj_fo m i e = -1 from h)]
  · have hj2 : j < sj_tn (m 10) := by omega
    have h' : sj_fo m i e = nI j := h
    rw [h', if_neg (sj_nIm1 (by omega)), if_neg (sj_nIm1 (by omega)), sj_at_nI _ (by omega) (by omega), (hf j hj2).2.2]
    unfold sj_tn
    rw [nI_clamp (by omega)]
theorem sq_ofs_m {m : Nat → Int32} {f1 f2 f3 : Nat → Int32} (hf : ∀ k, k < sj_tn (m 10) → f1 k = sj_oa m k 0 ∧ f2 k = sj_oa m k 1 ∧ f3 k = sj_oa m k 2) (i : Nat) : sj_sum (fun k => sj_bi (sq_of f1 f2 k (nI i))) (sj_tn (m 10)) = sj_oof m i := sj_sum_cg _ (fun k hk => congrArg sj_bi (sq_of_m hf hk (nI i)))
theorem sq_hlt_hld {m : Nat → Int32} (hv : sj_oav m) {f1 f2 f3 : Nat → Int32} (hf : ∀ k, k < sj_tn (m 10) → f1 k = sj_oa m k 0 ∧ f2 k = sj_oa m k 1 ∧ f3 k = sj_oa m k 2) {k : Nat} (hk : k < sj_tn (m 10)) : sq_hlt f1 f2 f3 (sj_tn (m 10)) k = sj_hld m k := by
  obtain ⟨g1, g2, g3⟩ := hf k hk
  obtain ⟨⟨e0, h0⟩, ⟨e1, h1⟩, _⟩ := hv.2.2 k hk
  unfold sq_hlt sj_hld
  rw [g3, g1, g2, e0, e1, sq_lds_hH hv hf (nI k) h0 h1, ← e0, ← e1, decide_not]
theorem sq_no_tlo {m : Nat → Int32} (hv : sj_oav m) {f1 f2 f3 : Nat → Int32} (hf : ∀ k, k < sj_tn (m 10) → f1 k = sj_oa m k 0 ∧ f2 k = sj_oa m k 1 ∧ f3 k = sj_oa m k 2) {k q : Nat} (hk : k < sj_tn (m 10)) (hq : q < 4) : sq_no f1 f2 f3 (sj_tn (m 10)) k q = sj_tlo m k q := by
  obtain ⟨g1, g2, g3⟩ := hf k hk
  unfold sj_tlo
  rw [if_neg (show ¬ sj_tn (m 10) ≤ k by omega)]
  obtain rfl | rfl | rfl | rfl : q = 0 ∨ q = 1 ∨ q = 2 ∨ q = 3 := by omega
  · exact g1
  · exact g2
  · exact g3
  · exact congrArg sj_bi (sq_hlt_hld hv hf hk)
theorem sq_ex_or {p : Nat → Bool} : ∀ n k, sq_ex p (n + 1) k = (sq_ex p n k || p (k + n))
  | 0, k => by
    show (p k || false) = (false || p (k + 0))
    rw [Bool.or_false, Bool.false_or, Nat.add_zero]
  | n + 1, k => by
    show (p k || sq_ex p (n + 1) (k + 1)) = ((p k || sq_ex p n (k + 1)) || p (k + (n + 1)))
    rw [sq_ex_or n (k + 1), Bool.or_assoc, show k + 1 + n = k + (n + 1) by omega]
theorem sj_jn_iff {n : Nat} {f : Nat → Int32} {a c : Int32} {x y : Nat} (hx : x < n) (hy : y < n) : sj_jn n f a c x = sj_jn n f a c y ↔ (f x = f y ∨ ((f x = a ∨ f x = c) ∧ (f y = a ∨ f y = c))) := by
  by_cases h1 : f x = a ∨ f x = c
  · by_cases h2 : f y = a ∨ f y = c
    · rw [sj_jn_in hx h1, sj_jn_in hy h2]
      exact ⟨fun _ => Or.inr ⟨h1, h2⟩, fun _ => rfl⟩
    · rw [sj_jn_in hx h1, sj_jn_out h2]
      constructor
      · intro e
        exact absurd ((sj_min2 a c).imp (fun h => e.symm.trans h) (fun h => e.symm.trans h)) h2
      · intro e
        rcases e with e | e
        · rw [e] at h1
          exact absurd h1 h2
        · exact absurd e.2 h2
  · rw [sj_jn_out h1]
    by_cases h2 : f y = a ∨ f y = c
    · rw [sj_jn_in hy h2]
      constructor
      · intro e
        exact absurd ((sj_min2 a c).imp (fun h => e.trans h) (fun h => e.trans h)) h1
      · intro e
        rcases e with e | e
        · rw [← e] at h2
          exact absurd h2 h1
        · exact absurd e.1 h1
    · rw [sj_jn_out h2]
      exact ⟨Or.inl, fun e => e.elim id (fun e2 => absurd e2.1 h1)⟩
theorem sq_fb_brk {m : Nat → Int32} (hv : sj_oav m) (hu : sj_uc m) {f1 f2 f3 f7 : Nat → Int32} (hf : ∀ k, k < sj_tn (m 10) → f1 k = sj_oa m k 0 ∧ f2 k = sj_oa m k 1 ∧ f3 k = sj_oa m k 2) (h7 : ∀ i, i < 8 → f7 i = sj_hH m (-1) i) {i e : Nat} (hi : i < sj_tn (m 9)) (he : e < sj_tn (m 9)) : sq_ex (sq_fbp f1 f2 f3 f7 (nI i) (nI e)) (sj_tn (m 10)) 0 = sj_brk m i e (sj_tn (m 10)) := by
  have hn8 := hv.1.2
  have key : ∀ K, K ≤ sj_tn (m 10) → sq_ex (sq_fbp f1 f2 f3 f7 (nI i) (nI e)) K 0 = sj_brk m i e K := by
    intro K
    induction K with
    | zero => intro _; rfl
    | succ K ih =>
      intro hK
      rw [sq_ex_or, ih (by omega), Nat.zero_add]
      show (sj_brk m i e K || sq_fbp f1 f2 f3 f7 (nI i) (nI e) K) = (sj_brk m i e K || (decide (sj_oa m K 2 = 0) && decide (sj_jH m i e (sj_tn (sj_oa m K 0)) = sj_jH m i e (sj_tn (sj_oa m K 1)))))
      refine congrArg (fun z => sj_brk m i e K || z) ?_
      obtain ⟨g1, g2, g3⟩ := hf K (by omega)
      obtain ⟨⟨e0, h0⟩, ⟨e1, h1⟩, _⟩ := hv.2.2 K (by omega)
      unfold sq_fbp sq_inH
      rw [g3, g1, g2]
      by_cases hc : sj_oa m K 2 = 0
      · rw [decide_eq_true hc, Bool.true_and, Bool.true_and, e0, e1, sj_at8 f7 (show sj_tn (sj_oa m K 0) < 8 by omega), sj_at8 f7 (show sj_tn (sj_oa m K 1) < 8 by omega), sj_at8 f7 (show i < 8 by omega), sj_at8 f7 (show e < 8 by omega), h7 _ (show sj_tn (sj_oa m K 0) < 8 by omega), h7 _ (show sj_tn (sj_oa m K 1) < 8 by omega), h7 i (by omega), h7 e (by omega), ← e0, ← e1]
        rw [← Bool.decide_or, ← Bool.decide_or, ← Bool.decide_and]
        refine decide_eq_decide.mpr ?_
        unfold sj_jH
        rw [sj_jn_iff h0 h1]
        exact ⟨Or.inr, fun h => h.elim (fun h2 => absurd h2 (hu K (by omega) hc)) id⟩
      · rw [decide_eq_false hc, Bool.false_and, Bool.false_and]
  exact key _ (Nat.le_refl _)
