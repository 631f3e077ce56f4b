/-! THE REFERENCE: the questions, as they are asked from outside: an answer, and what was thrown (0: nothing) -/
def sj_pq (P : Int32 × Int32) (S : sj_St) (h : Nat) (b : Nat → Nat) : Option Value → sj_St → Prop := fun v S' => v = some (.int P.1) ∧ ∃ g, S' = sj_sIa (sj_wFi S h 0 P.2) (b 15) g
def sj_isn (m : Nat → Int32) (v : Int32) : Bool := sj_wi v 0 (m 9 - 1)
theorem sj_wi_nI {v : Int32} {n : Nat} (hn : n < 2 ^ 31) (h : sj_wi v 0 (nI n) = true) : ∃ i, i ≤ n ∧ v = nI i := by
  obtain ⟨h1, h2⟩ := sj_wi_iff.mp h
  obtain ⟨j, hj, rfl⟩ := nI_of (sj_nlt.mpr h1)
  exact ⟨j, (nI_leI hj hn).mp h2, rfl⟩
theorem sj_isn_n {m : Nat → Int32} {v : Int32} {n : Nat} (h9 : m 9 = nI n) (hn : n ≤ 8) (h : sj_isn m v = true) : ∃ i, i < n ∧ v = nI i := by
  unfold sj_isn at h
  rw [h9] at h
  rcases Nat.eq_zero_or_pos n with h0 | h0
  · subst h0
    obtain ⟨h1, h2⟩ := sj_wi_iff.mp h
    exact absurd (Int32.le_trans h1 h2) (by decide)
  · rw [show nI n - 1 = nI (n - 1) from sj_nsub (b := 1) h0] at h
    obtain ⟨i, hi, rfl⟩ := sj_wi_nI (by omega) h
    exact ⟨i, by omega, rfl⟩
def sj_q_sheet (m : Nat → Int32) (v w : Int32) : Int32 × Int32 := if sj_isn m v = false then (0, 1) else if sj_wi w 0 6 = false then (0, 2) else (sj_ts m (sj_tn v) (sj_tn w), 0)
def sj_q_stroke (m : Nat → Int32) (v k w : Int32) : Int32 × Int32 := if sj_isn m v = false then (0, 1) else if sj_wi k 0 7 = false ∨ sj_wi w 0 4 = false then (0, 2) else (sj_tst m (sj_tn v) (sj_tn k) (sj_tn w), 0)
def sj_q_mark (m : Nat → Int32) (v j : Int32) : Int32 × Int32 := if sj_isn m v = false then (0, 1) else if sj_wi j 0 5 = false then (0, 2) else (sj_mk m (sj_tn v) (sj_tn j) + 1000, 0)
def sj_q_compare (m : Nat → Int32) (v e w : Int32) : Int32 × Int32 := if sj_isn m v = false ∨ sj_isn m e = false then (0, 1) else if sj_wi w 0 4 = false then (0, 2) else (sj_cps m (sj_tn v) (sj_tn e) (sj_tn w), 0)
def sj_q_oath (m : Nat → Int32) (k w : Int32) : Int32 × Int32 := if k < 0 ∨ sj_wi w 0 3 = false then (0, 1) else (sj_tlo m (sj_tn k) (sj_tn w), 0)
def sj_q_count (m : Nat → Int32) (q w : Int32) : Int32 × Int32 := if sj_wi w 0 17 = false then (0, 1) else (sj_tc m q (sj_tn w), 0)
def sj_q_why (m : Nat → Int32) (v e : Int32) (like : Bool) : Int32 × Int32 := if sj_isn m v = false ∨ sj_isn m e = false then (0, 1) else (sj_why m (sj_tn v) (sj_tn e) like, 0)
def sj_q_near (m : Nat → Int32) (v : Int32) : Int32 × Int32 := if sj_isn m v = false then (0, 1) else (sj_on (sj_mal m (sj_tn v) (sj_tn (m 9))), 0)
def sj_q_tol (m : Nat → Int32) (v e j : Int32) : Int32 × Int32 := if sj_isn m v = false ∨ sj_isn m e = false then (0, 1) else if sj_wi j 0 5 = false then (0, 2) else (sj_tol m (sj_tn v) (sj_tn e) (sj_tn j), 0)
def sj_q_stop (m : Nat → Int32) (w : Int32) : Int32 × Int32 := if sj_wi w 0 1 = false then (0, 1) else (m (12 + sj_tn w), 0)
