/-! THE REFERENCE: what it tells; undo and the snapshot; a sheet goes -/
theorem sj_fst_in {p : Nat → Bool} : ∀ n k, sj_fst p n k = -1 ∨ ∃ j, k ≤ j ∧ j < k + n ∧ p j = true ∧ sj_fst p n k = nI j
  | 0, _ => Or.inl rfl
  | n + 1, k => by
    by_cases h : p k = true
    · exact Or.inr ⟨k, by omega, by omega, h, if_pos h⟩
    · have e : sj_fst p (n + 1) k = sj_fst p n (k + 1) := if_neg h
      rw [e]
      rcases sj_fst_in n (k + 1) with h1 | ⟨j, h1, h2, h3, h4⟩
      · exact Or.inl h1
      · exact Or.inr ⟨j, by omega, by omega, h3, h4⟩
def sj_ts (m : Nat → Int32) (i : Nat) : Nat → Int32
  | 0 => sj_of m i 1
  | 1 => sj_of m i 0
  | 2 => sj_tot m i 2
  | 3 => sj_bi (sj_trm m i)
  | 4 => sj_hH m (-1) i
  | 5 => sj_oof m i
  | _ => sj_bi (sj_hf m i)
def sj_cps (m : Nat → Int32) (i e : Nat) : Nat → Int32
  | 0 => sj_lik m i e
  | 1 => sj_agr m i e 6
  | 2 => sj_bi (sj_a1 m i e)
  | 3 => sj_bi (sj_a1 m i e)
  | _ => sj_too m i e
def sj_tlo (m : Nat → Int32) (k w : Nat) : Int32 := if sj_tn (m 10) ≤ k then -1 else if w = 3 then sj_bi (sj_hld m k) else sj_oa m k w
def sj_tc (m : Nat → Int32) (q : Int32) : Nat → Int32
  | 0 => m 9
  | 1 => m 10
  | 2 => sj_lko m
  | 3 => sj_hds m
  | 4 => sj_moh m
  | 5 => sj_trs m
  | 6 => m 11
  | 7 => sj_lps m (sj_tn (m 9))
  | 17 => q
  | w => m (w - 8)
/-- the oaths of a sheet are dropped, from the k-th one down; how many -/
def sj_dl (i : Nat) : Nat → (Nat → Int32) → Int32 → (Nat → Int32) × Int32
  | 0, m, g => (m, g)
  | k + 1, m, g => if sj_oa m k 0 = nI i ∨ sj_oa m k 1 = nI i then sj_dl i k (sj_dO m k) (g + 1) else sj_dl i k m g
def sj_rn1 (f : Nat → Int32) (i k : Nat) : Nat → Int32 := upd f (14 + 3 * k) (f (14 + 3 * k) - sj_bi (decide (nI i < sj_oa f k 0)))
def sj_rn2 (f : Nat → Int32) (i k : Nat) : Nat → Int32 := upd f (14 + 3 * k + 1) (f (14 + 3 * k + 1) - sj_bi (decide (nI i < sj_oa f k 1)))
def sj_rn (m : Nat → Int32) (i : Nat) : Nat → Nat → Int32
  | 0 => m
  | k + 1 => sj_rn2 (sj_rn1 (sj_rn m i k) i k) i k
/-- a sheet is taken out: the number of sheets, and the numbers from its place up to j, one sheet down -/
def sj_ct (m : Nat → Int32) (n i j : Nat) : Nat → Int32 := fun q => if q = 9 then nI n else if 98 + 42 * i ≤ q ∧ q < j then m (q + 42) else m q
theorem sj_ct_0 (m : Nat → Int32) (n i : Nat) : sj_ct m n i (98 + 42 * i) = upd m 9 (nI n) := by
  funext q
  unfold sj_ct upd
  by_cases h : q = 9
  · rw [if_pos h, if_pos h]
  · rw [if_neg h, if_neg h, if_neg (by omega)]
theorem sj_ct_3 (m : Nat → Int32) (n i j : Nat) (h : 98 + 42 * i ≤ j) : sj_ct m n i j (j + 42) = m (j + 42) := by
  unfold sj_ct
  rw [if_neg (by omega), if_neg (by omega)]
theorem sj_ct_s (m : Nat → Int32) (n i j : Nat) (h : 98 + 42 * i ≤ j) : upd (sj_ct m n i j) j (m (j + 42)) = sj_ct m n i (j + 1) := by
  funext q
  unfold upd sj_ct
  by_cases h1 : q = j
  · subst h1
    rw [if_pos rfl, if_neg (by omega), if_pos ⟨h, by omega⟩]
  · rw [if_neg h1]
    by_cases h2 : q = 9
    · rw [if_pos h2, if_pos h2]
    · rw [if_neg h2, if_neg h2]
      by_cases h3 : 98 + 42 * i ≤ q ∧ q < j
      · rw [if_pos h3, if_pos ⟨h3.1, by omega⟩]
      · rw [if_neg h3, if_neg (fun h4 => h3 ⟨h4.1, by omega⟩)]
theorem sj_rn_lo (m : Nat → Int32) (i : Nat) {j : Nat} (hj : j < 14) : ∀ k, sj_rn m i k j = m j
  | 0 => rfl
  | k + 1 => (sj_upd_ne _ _ (by omega)).trans ((sj_upd_ne _ _ (by omega)).trans (sj_rn_lo m i hj k))
theorem sj_dO_10 (m : Nat → Int32) (k : Nat) : sj_dO m k 10 = nI (sj_tn (m 10) - 1) := by
  unfold sj_dO sj_dj
  exact if_pos rfl
theorem sj_dO_9 (m : Nat → Int32) (k : Nat) {j : Nat} (h : j < 10) : sj_dO m k j = m j := by
  unfold sj_dO sj_dj
  rw [if_neg (by omega), if_neg (by omega)]
theorem sj_tn_nI {n : Nat} (h : n < 2 ^ 31) : sj_tn (nI n) = n := nI_clamp h
/-- what is dropped first: the numbers stay within their bounds -/
theorem sj_dl_ok (i : Nat) : ∀ (k : Nat) (m : Nat → Int32) (g : Int32), m 10 = nI (sj_tn (m 10)) → sj_tn (m 10) ≤ 28 → k ≤ sj_tn (m 10) → (sj_dl i k m g).1 10 = nI (sj_tn ((sj_dl i k m g).1 10)) ∧ sj_tn ((sj_dl i k m g).1 10) ≤ 28 ∧ (sj_dl i k m g).1 9 = m 9
  | 0, m, g, h1, h2, _ => ⟨h1, h2, rfl⟩
  | k + 1, m, g, h1, h2, h3 => by
    by_cases h : sj_oa m k 0 = nI i ∨ sj_oa m k 1 = nI i
    · have e : sj_dl i (k + 1) m g = sj_dl i k (sj_dO m k) (g + 1) := if_pos h
      have e1 : sj_tn (sj_dO m k 10) = sj_tn (m 10) - 1 := by rw [sj_dO_10]; exact sj_tn_nI (by omega)
      rw [e]
      have ih := sj_dl_ok i k (sj_dO m k) (g + 1) (by rw [e1]; exact sj_dO_10 m k) (by omega) (by omega)
      exact ⟨ih.1, ih.2.1, ih.2.2.trans (sj_dO_9 m k (by omega))⟩
    · have e : sj_dl i (k + 1) m g = sj_dl i k m g := if_neg h
      rw [e]
      exact sj_dl_ok i k m g h1 h2 (by omega)
def sj_dp1 (m : Nat → Int32) (i : Nat) : Nat → Int32 := (sj_dl i (sj_tn (m 10)) m 0).1
def sj_dp2 (m : Nat → Int32) (i : Nat) : Nat → Int32 := sj_rn (sj_dp1 m i) i (sj_tn (sj_dp1 m i 10))
def sj_drp (m : Nat → Int32) (i : Nat) : Nat → Int32 := sj_ct (sj_dp2 m i) (sj_tn (m 9) - 1) i (98 + 42 * (sj_tn (m 9) - 1))
def sj_drn (m : Nat → Int32) (i : Nat) : Int32 := (sj_dl i (sj_tn (m 10)) m 0).2
