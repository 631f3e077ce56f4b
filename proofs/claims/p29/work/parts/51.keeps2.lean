/-! THE SAME: what a table tells when a sheet goes, when one is laid, when a table is taken over; and no oath of two hands within a hand -/
theorem sq_of_i {m : Nat → Int32} {f1 f2 : Nat → Int32} {k i : Nat} (h0 : f1 k = sj_oa m k 0) (h1 : f2 k = sj_oa m k 1) : sq_of f1 f2 k (nI i) = true ↔ (sj_oa m k 0 = nI i ∨ sj_oa m k 1 = nI i) := by
  unfold sq_of
  rw [h0, h1, Bool.or_eq_true, decide_eq_true_iff, decide_eq_true_iff]
/-- the oaths of a sheet taken out: class and reference -/
theorem sq_fg_dl (i : Nat) : ∀ (k : Nat) (c : Nat × (Nat → Int32) × (Nat → Int32) × (Nat → Int32)) (m : Nat → Int32) (g : Int32), sj_tn (m 10) = c.1 → c.1 ≤ 28 → k ≤ c.1 → (∀ j, j < c.1 → c.2.1 j = sj_oa m j 0 ∧ c.2.2.1 j = sj_oa m j 1 ∧ c.2.2.2 j = sj_oa m j 2) →
    sj_tn ((sj_dl i k m g).1 10) = (sq_fg (nI i) k c).1 ∧ (sj_dl i k m g).2 = g + nI (c.1 - (sq_fg (nI i) k c).1) ∧ (∀ j, j < (sq_fg (nI i) k c).1 → (sq_fg (nI i) k c).2.1 j = sj_oa (sj_dl i k m g).1 j 0 ∧ (sq_fg (nI i) k c).2.2.1 j = sj_oa (sj_dl i k m g).1 j 1 ∧ (sq_fg (nI i) k c).2.2.2 j = sj_oa (sj_dl i k m g).1 j 2) ∧ ∀ j, j < (sq_fg (nI i) k c).1 → ∃ j', j' < c.1 ∧ ∀ w, w < 3 → sj_oa (sj_dl i k m g).1 j w = sj_oa m j' w
  | 0, c, m, g, h10, h28, hk, hc => ⟨h10, by
      show g = g + nI (c.1 - c.1)
      rw [Nat.sub_self]
      exact (Int32.add_zero g).symm, hc, fun j hj => ⟨j, hj, fun _ _ => rfl⟩⟩
  | k + 1, c, m, g, h10, h28, hk, hc => by
    by_cases hof : sj_oa m k 0 = nI i ∨ sj_oa m k 1 = nI i
    · have e1 : sj_dl i (k + 1) m g = sj_dl i k (sj_dO m k) (g + 1) := if_pos hof
      have e2 : sq_fg (nI i) (k + 1) c = sq_fg (nI i) k (sq_tk k c) := congrArg (sq_fg (nI i) k) (if_pos ((sq_of_i (hc k (by omega)).1 (hc k (by omega)).2.1).mpr hof))
      have hN : sj_tn (sj_dO m k 10) = c.1 - 1 := by
        rw [sj_dO_10, h10]
        exact sj_tn_nI (by omega)
      have oa : ∀ j w, j < c.1 - 1 → w < 3 → sj_oa (sj_dO m k) j w = sj_oa m (if j < k then j else j + 1) w := fun j w hj hw => sj_dO_oa m k j w hw (by omega) (by omega)
      have ih := sq_fg_dl i k (sq_tk k c) (sj_dO m k) (g + 1) hN (show c.1 - 1 ≤ 28 by omega) (show k ≤ c.1 - 1 by omega) (fun j hj => by
        have hj' : j < c.1 - 1 := hj
        rw [oa j 0 hj' (by omega), oa j 1 hj' (by omega), oa j 2 hj' (by omega)]
        show sj_cu k 27 c.2.1 j = _ ∧ sj_cu k 27 c.2.2.1 j = _ ∧ sj_cu k 27 c.2.2.2 j = _
        unfold sj_cu
        by_cases hjk : j < k
        · rw [if_pos hjk, if_neg (by omega), if_neg (by omega), if_neg (by omega)]
          exact hc j (by omega)
        · rw [if_neg hjk, if_pos (by omega), if_pos (by omega), if_pos (by omega)]
          exact hc (j + 1) (by omega))
      have hle := sq_fg_le (nI i) k (sq_tk k c)
      have hle' : (sq_fg (nI i) k (sq_tk k c)).1 ≤ c.1 - 1 := hle
      rw [e1, e2]
      refine ⟨ih.1, ?_, ih.2.2.1, fun j hj => ?_⟩
      · rw [ih.2.1]
        show g + 1 + nI (c.1 - 1 - (sq_fg (nI i) k (sq_tk k c)).1) = _
        rw [Int32.add_assoc, show (1 : Int32) = nI 1 from rfl, nI_add, show 1 + (c.1 - 1 - (sq_fg (nI i) k (sq_tk k c)).1) = c.1 - (sq_fg (nI i) k (sq_tk k c)).1 by omega]
      · obtain ⟨j', hj', e⟩ := ih.2.2.2 j hj
        have hj2 : j' < c.1 - 1 := hj'
        exact ⟨if j' < k then j' else j' + 1, by split <;> omega, fun w hw => (e w hw).trans (oa j' w hj2 hw)⟩
    · have e1 : sj_dl i (k + 1) m g = sj_dl i k m g := if_neg hof
      have e2 : sq_fg (nI i) (k + 1) c = sq_fg (nI i) k c := congrArg (sq_fg (nI i) k) (if_neg (fun h => hof ((sq_of_i (hc k (by omega)).1 (hc k (by omega)).2.1).mp h)))
      rw [e1, e2]
      exact sq_fg_dl i k c m g h10 h28 (by omega) hc
theorem sq_nw_n (i : Nat) (v : Int32) : sq_nw (nI i) v = sj_nw i v := by
  unfold sq_nw sj_nw
  by_cases h : nI i < v
  · rw [if_pos h, decide_eq_true h]
    rfl
  · rw [if_neg h, decide_eq_false h]
    exact (Int32.sub_zero v).symm
/-- what a dropped sheet leaves, in the row's numbers -/
theorem sj_drp_lo {m : Nat → Int32} {i : Nat} (hI : sj_inv m) {j : Nat} (h9 : j ≠ 9) (h : j < 10 ∨ 10 < j ∧ j < 14) : sj_drp m i j = m j := by
  have hq := sj_dl_in i (n := sj_tn (m 9)) (sj_tn (m 10)) m 0 hI.2.1.1 hI.2.1.2 (Nat.le_refl _) hI.2.2.1 (fun j h1 h2 => absurd h1 (by omega))
  exact (sj_ct_lo _ _ _ _ h9 (by omega)).trans ((sj_rn_o _ _ _ (fun k hk => by omega)).trans (hq.2.2 j (by omega)))
theorem sj_drp_9 (m : Nat → Int32) (i : Nat) : sj_drp m i 9 = nI (sj_tn (m 9) - 1) := by
  unfold sj_drp sj_ct
  exact if_pos rfl
theorem sj_drp_of {m : Nat → Int32} {i : Nat} (hI : sj_inv m) {k w : Nat} (hk : k < sj_tn (m 9) - 1) (hw : w < 42) : sj_of (sj_drp m i) k w = sj_of m (if k < i then k else k + 1) w := by
  have hq := sj_dl_in i (n := sj_tn (m 9)) (sj_tn (m 10)) m 0 hI.2.1.1 hI.2.1.2 (Nat.le_refl _) hI.2.2.1 (fun j h1 h2 => absurd h1 (by omega))
  have hd := sj_dl_ok i (sj_tn (m 10)) m 0 hI.2.1.1 hI.2.1.2 (Nat.le_refl _)
  have e1 : (sj_dl i (sj_tn (m 10)) m 0).1 = sj_dp1 m i := rfl
  rw [e1] at hd
  unfold sj_drp
  rw [sj_ct_of _ _ _ hk hw]
  exact (sj_rn_o _ _ _ (fun k hk => by omega)).trans (hq.2.2 _ (by omega))
/-- the oaths behind it: those of the reference are the class's -/
theorem sj_drp_oa {m : Nat → Int32} {i : Nat} (hI : sj_inv m) {f1 f2 f3 : Nat → Int32} (hf : ∀ k, k < sj_tn (m 10) → f1 k = sj_oa m k 0 ∧ f2 k = sj_oa m k 1 ∧ f3 k = sj_oa m k 2) :
    sj_tn (sj_drp m i 10) = (sq_fw (nI i) (sj_tn (m 10)) f1 f2 f3).1 ∧ sj_drn m i = nI (sj_tn (m 10) - (sq_fw (nI i) (sj_tn (m 10)) f1 f2 f3).1) ∧ (∀ k, k < (sq_fw (nI i) (sj_tn (m 10)) f1 f2 f3).1 → sq_rn (nI i) (sq_fw (nI i) (sj_tn (m 10)) f1 f2 f3).1 (sq_fw (nI i) (sj_tn (m 10)) f1 f2 f3).2.1 k = sj_oa (sj_drp m i) k 0 ∧ sq_rn (nI i) (sq_fw (nI i) (sj_tn (m 10)) f1 f2 f3).1 (sq_fw (nI i) (sj_tn (m 10)) f1 f2 f3).2.2.1 k = sj_oa (sj_drp m i) k 1 ∧ (sq_fw (nI i) (sj_tn (m 10)) f1 f2 f3).2.2.2 k = sj_oa (sj_drp m i) k 2) ∧
    ∀ k, k < sj_tn (sj_drp m i 10) → ∃ k', k' < sj_tn (m 10) ∧ ¬ sj_of2 m i k' ∧ sj_oa (sj_drp m i) k 0 = sj_nw i (sj_oa m k' 0) ∧ sj_oa (sj_drp m i) k 1 = sj_nw i (sj_oa m k' 1) ∧ sj_oa (sj_drp m i) k 2 = sj_oa m k' 2 := by
  have hd := sj_dl_ok i (sj_tn (m 10)) m 0 hI.2.1.1 hI.2.1.2 (Nat.le_refl _)
  have hq := sj_dl_in i (n := sj_tn (m 9)) (sj_tn (m 10)) m 0 hI.2.1.1 hI.2.1.2 (Nat.le_refl _) hI.2.2.1 (fun j h1 h2 => absurd h1 (by omega))
  have t := sq_fg_dl i (sj_tn (m 10)) (sj_tn (m 10), f1, f2, f3) m 0 rfl hI.2.1.2 (Nat.le_refl _) hf
  have e0 : sq_fg (nI i) (sj_tn (m 10)) (sj_tn (m 10), f1, f2, f3) = sq_fw (nI i) (sj_tn (m 10)) f1 f2 f3 := rfl
  have e1 : (sj_dl i (sj_tn (m 10)) m 0).1 = sj_dp1 m i := rfl
  have e3 : (sj_dl i (sj_tn (m 10)) m 0).2 = sj_drn m i := rfl
  rw [e0, e1, e3] at t
  rw [e1] at hd hq
  generalize sq_fw (nI i) (sj_tn (m 10)) f1 f2 f3 = R at t
  obtain ⟨t1, t2, t3, t4⟩ := t
  have h10 : sj_drp m i 10 = sj_dp1 m i 10 := (sj_ct_lo _ _ _ _ (by omega) (by omega)).trans (sj_rn_o _ _ _ (fun k hk => by omega))
  have hR28 : R.1 ≤ 28 := by
    rw [← t1]
    exact hd.2.1
  have oa : ∀ k w, k < R.1 → w < 3 → sj_oa (sj_drp m i) k w = sj_oa (sj_rn (sj_dp1 m i) i (sj_tn (sj_dp1 m i 10))) k w := fun k w hk hw => sj_ct_lo _ _ _ _ (by omega) (by omega)
  have o0 : ∀ k, k < R.1 → sj_oa (sj_drp m i) k 0 = sj_nw i (sj_oa (sj_dp1 m i) k 0) := fun k hk => (oa k 0 hk (by omega)).trans (sj_rn_0 _ i _ (by rw [t1]; exact hk))
  have o1 : ∀ k, k < R.1 → sj_oa (sj_drp m i) k 1 = sj_nw i (sj_oa (sj_dp1 m i) k 1) := fun k hk => (oa k 1 hk (by omega)).trans (sj_rn_1 _ i _ (by rw [t1]; exact hk))
  have o2 : ∀ k, k < R.1 → sj_oa (sj_drp m i) k 2 = sj_oa (sj_dp1 m i) k 2 := fun k hk => (oa k 2 hk (by omega)).trans (sj_rn_2 _ i _)
  refine ⟨(congrArg sj_tn h10).trans t1, ?_, fun k hk => ?_, fun k hk => ?_⟩
  · rw [t2]
    exact Int32.zero_add _
  · obtain ⟨g0, g1, g2⟩ := t3 k hk
    rw [o0 k hk, o1 k hk, o2 k hk, ← g0, ← g1, ← g2, ← sq_nw_n, ← sq_nw_n]
    exact ⟨if_pos hk, if_pos hk, rfl⟩
  · rw [h10, t1] at hk
    obtain ⟨k', hk', e⟩ := t4 k hk
    refine ⟨k', hk', fun h2 => hq.2.1 k (by rw [t1]; exact hk) ?_, ?_, ?_, ?_⟩
    · unfold sj_of2 at *
      rw [e 0 (by omega), e 1 (by omega)]
      exact h2
    · rw [o0 k hk, e 0 (by omega)]
    · rw [o1 k hk, e 1 (by omega)]
    · rw [o2 k hk, e 2 (by omega)]
section
variable {S : sj_St} {F : Nat → Prop} {D : Nat → Nat} {m : Nat → Int32}
theorem sq_fr_ta (i n : Nat) : sq_fr (sq_P D) S (sq_ta S D i n) := sq_fr_tr (sq_fr_tr (sq_fr_ra _ (sq_Pi D)) (sq_fr_ia _ (sq_Pi D))) (sq_fr_fi 3 _ (sq_Pi D))
theorem sq_fr_tz (i n N : Nat) : sq_fr (sq_P D) S (sq_tz S D i n N) := sq_fr_tr (sq_fr_ta i n) (sq_fr_os _ (sq_Pi D) (sq_Pi D (i := 5 + 2)) (sq_Pi D (i := 5 + 4)) (sq_Pi D (i := 5 + 6)) (sq_Pi D (i := 5 + 8)))
/-- a sheet taken away -/
theorem sq_T_drp (h : sq_T S F D m) (hF : ∀ a, sq_P D a → F a) (hI : sj_inv m) {i : Nat} (hi : i < sj_tn (m 9)) : sq_T (sq_tz S D i (sj_tn (m 9)) (sj_tn (m 10))) F D (sj_drp m i) ∧ sj_drn m i = nI (sj_tn (m 10) - (sq_fw (nI i) (sj_tn (m 10)) (sj_ia S (D 7)) (sj_ia S (D 9)) (sj_ia S (D 11))).1) := by
  have hIM := sj_inv_drp hI hi
  obtain ⟨h1, ⟨h3, h6, h7⟩, hA, hE, hO, hR⟩ := id h
  have hn8 := hI.1.2
  have hf : ∀ k, k < sj_tn (m 10) → sj_ia S (D 7) k = sj_oa m k 0 ∧ sj_ia S (D 9) k = sj_oa m k 1 ∧ sj_ia S (D 11) k = sj_oa m k 2 := hO.2.2.1
  obtain ⟨q1, q2, q3, -⟩ := sj_drp_oa (i := i) hI hf
  refine ⟨?_, q2⟩
  have hol := h1.2.2.2.2.1.2
  have e9 : sj_tn (sj_drp m i 9) = sj_tn (m 9) - 1 := by
    rw [sj_drp_9]
    exact sj_tn_nI (by omega)
  have hl : sq_tl (sq_ta S D i (sj_tn (m 9))) D := sq_tl_fr (sq_fr_ta i _) h1
  have hor := sq_or_os (S := sq_ta S D i (sj_tn (m 9))) hl.2.2.2.2.1.2 (nI (sq_fw (nI i) (sj_tn (m 10)) (sj_ia S (D 7)) (sj_ia S (D 9)) (sj_ia S (D 11))).1, sj_fi S (D 5) 1, sq_rn (nI i) (sq_fw (nI i) (sj_tn (m 10)) (sj_ia S (D 7)) (sj_ia S (D 9)) (sj_ia S (D 11))).1 (sq_fw (nI i) (sj_tn (m 10)) (sj_ia S (D 7)) (sj_ia S (D 9)) (sj_ia S (D 11))).2.1, sq_rn (nI i) (sq_fw (nI i) (sj_tn (m 10)) (sj_ia S (D 7)) (sj_ia S (D 9)) (sj_ia S (D 11))).1 (sq_fw (nI i) (sj_tn (m 10)) (sj_ia S (D 7)) (sj_ia S (D 9)) (sj_ia S (D 11))).2.2.1, (sq_fw (nI i) (sj_tn (m 10)) (sj_ia S (D 7)) (sj_ia S (D 9)) (sj_ia S (D 11))).2.2.2, sj_cp 8 (sq_hn (sq_rn (nI i) (sq_fw (nI i) (sj_tn (m 10)) (sj_ia S (D 7)) (sj_ia S (D 9)) (sj_ia S (D 11))).1 (sq_fw (nI i) (sj_tn (m 10)) (sj_ia S (D 7)) (sj_ia S (D 9)) (sj_ia S (D 11))).2.1) (sq_rn (nI i) (sq_fw (nI i) (sj_tn (m 10)) (sj_ia S (D 7)) (sj_ia S (D 9)) (sj_ia S (D 11))).1 (sq_fw (nI i) (sj_tn (m 10)) (sj_ia S (D 7)) (sj_ia S (D 9)) (sj_ia S (D 11))).2.2.1) (sq_fw (nI i) (sj_tn (m 10)) (sj_ia S (D 7)) (sj_ia S (D 9)) (sj_ia S (D 11))).2.2.2 (sq_fw (nI i) (sj_tn (m 10)) (sj_ia S (D 7)) (sj_ia S (D 9)) (sj_ia S (D 11))).1) (sj_ia S (D 13)))
  have fr : ∀ c, (∀ k, sj_fi (sq_os (sq_ta S D i (sj_tn (m 9))) (D 5) (fun i => D (5 + i)) c) (D 0) k = sj_fi (sq_ta S D i (sj_tn (m 9))) (D 0) k) ∧ sj_ia (sq_os (sq_ta S D i (sj_tn (m 9))) (D 5) (fun i => D (5 + i)) c) (D 4) = sj_ia (sq_ta S D i (sj_tn (m 9))) (D 4) ∧ sj_ia (sq_os (sq_ta S D i (sj_tn (m 9))) (D 5) (fun i => D (5 + i)) c) (D 15) = sj_ia (sq_ta S D i (sj_tn (m 9))) (D 15) ∧ sj_ra (sq_os (sq_ta S D i (sj_tn (m 9))) (D 5) (fun i => D (5 + i)) c) (D 1) = sj_ra (sq_ta S D i (sj_tn (m 9))) (D 1) := fun c => sq_os_o hl c
  refine sq_T_P h hF (sq_fr_tz i _ _) ?_ ?_ ?_ (fun q hq => ?_) (fun j hj => ?_) ?_ (fun q hq => ?_)
  · refine ((fr _).1 3).trans ?_
    rw [sj_drp_9]
    exact sj_fi_wFi _ _ _ _
  · refine ((fr _).1 6).trans ?_
    rw [sj_drp_lo hI (by omega) (by omega)]
    exact (sj_fi_wFi_k _ _ _ (by omega)).trans h6
  · refine ((fr _).1 7).trans ?_
    rw [sj_drp_lo hI (by omega) (by omega)]
    exact (sj_fi_wFi_k _ _ _ (by omega)).trans h7
  · rw [e9] at hq
    refine (congrFun (fr _).2.1 q).trans ?_
    rw [sj_drp_of hI hq (by omega)]
    refine (congrFun (sj_ia_sIa (sj_sRa S (D 1) (sq_cr i 7 (sj_ra S (D 1)))) (D 4) (sj_cu i 7 (sj_ia S (D 4)))) q).trans ?_
    unfold sj_cu
    by_cases hqi : q < i
    · rw [if_pos hqi, if_neg (by omega)]
      exact hA q (by omega)
    · rw [if_neg hqi, if_pos (by omega)]
      exact hA (q + 1) (by omega)
  · refine (congrFun (fr _).2.2.1 j).trans ?_
    rw [sj_drp_lo hI (by omega) (by omega)]
    exact (congrFun (sj_ia_sIa_ne (sj_sRa S (D 1) (sq_cr i 7 (sj_ra S (D 1)))) _ (sq_D_ne h1 (i := 15) (j := 4) (by omega))) j).trans (hE j hj)
  · show sq_oR (sq_or (sq_os (sq_ta S D i (sj_tn (m 9))) (D 5) (fun i => D (5 + i)) _) (D 5) (fun i => D (5 + i))) (sj_drp m i)
    rw [hor]
    refine sq_oR_new (sj_inv_oav hIM) q1 ?_ q3
    rw [sj_drp_lo hI (by omega) (by omega)]
    exact hO.2.1
  · rw [e9] at hq
    have hq' : (if q < i then q else q + 1) < sj_tn (m 9) := by split <;> omega
    obtain ⟨a, ha, hs9⟩ := hR _ hq'
    refine ⟨a, ?_, sq_sm_cg (fun w _ hw => sj_drp_of hI hq hw) (hI.2.2.2.1 _ hq') (hIM.2.2.2.1 q (by rw [e9]; exact hq)) hs9⟩
    refine (congrFun (fr _).2.2.2 q).trans ?_
    refine (congrFun (sj_ra_sRa S (D 1) (sq_cr i 7 (sj_ra S (D 1)))) q).trans ?_
    unfold sq_cr
    by_cases hqi : q < i
    · rw [if_pos hqi] at ha
      rw [if_neg (by omega)]
      exact ha
    · rw [if_neg hqi] at ha
      rw [if_pos (by omega)]
      exact ha
/-- a sheet laid -/
theorem sq_T_lay (h : sq_T S F D m) (hF : ∀ a, sq_P D a → F a) (hI : sj_inv m) (h8 : sj_tn (m 9) < 8) {M : Nat → Int32} {age : Int32} {a : Nat} (lo : ∀ j, j < 98 + 42 * sj_tn (m 9) → j ≠ 9 → M j = m j) (e9 : M 9 = nI (sj_tn (m 9) + 1)) (eA : sj_of M (sj_tn (m 9)) 0 = age) (hIM : sj_inv M) (hs : sq_sm S F M (sj_tn (m 9)) a) : sq_T (sj_wFi (sj_sIa (sj_sRa S (D 1) (va_up (sj_ra S (D 1)) (sj_tn (m 9)) (some a))) (D 4) (upd (sj_ia S (D 4)) (sj_tn (m 9)) age)) (D 0) 3 (nI (sj_tn (m 9) + 1))) F D M := by
  obtain ⟨h1, ⟨h3, h6, h7⟩, hA, hE, hO, hR⟩ := id h
  have t9 : sj_tn (M 9) = sj_tn (m 9) + 1 := by
    rw [e9]
    exact sj_tn_nI (by omega)
  have hN := hI.2.1.2
  have hl : sq_tl (sj_sRa S (D 1) (va_up (sj_ra S (D 1)) (sj_tn (m 9)) (some a))) D := h1
  refine sq_T_P h hF (sq_fr_tr (sq_fr_tr (sq_fr_ra _ (sq_Pi D)) (sq_fr_ia _ (sq_Pi D))) (sq_fr_fi 3 _ (sq_Pi D))) ?_ ?_ ?_ (fun q hq => ?_) (fun j hj => ?_) ?_ (fun q hq => ?_)
  · rw [sj_fi_wFi, e9]
  · rw [sj_fi_wFi_k _ _ _ (by omega), lo 12 (by omega) (by omega)]
    exact h6
  · rw [sj_fi_wFi_k _ _ _ (by omega), lo 13 (by omega) (by omega)]
    exact h7
  · rw [t9] at hq
    refine (congrFun (sj_ia_sIa (sj_sRa S (D 1) (va_up (sj_ra S (D 1)) (sj_tn (m 9)) (some a))) (D 4) _) q).trans ?_
    by_cases e : q = sj_tn (m 9)
    · rw [e, sj_upd_self]
      exact eA.symm
    · rw [sj_upd_ne _ _ e]
      exact (hA q (by omega)).trans (lo _ (by omega) (by omega)).symm
  · refine (congrFun (sj_ia_sIa_ne (sj_sRa S (D 1) (va_up (sj_ra S (D 1)) (sj_tn (m 9)) (some a))) _ (sq_D_ne h1 (i := 15) (j := 4) (by omega))) j).trans ?_
    exact (hE j hj).trans (lo j (by omega) (by omega)).symm
  · rw [sq_or_fi (S := sj_sIa (sj_sRa S (D 1) (va_up (sj_ra S (D 1)) (sj_tn (m 9)) (some a))) (D 4) (upd (sj_ia S (D 4)) (sj_tn (m 9)) age)) h1, sq_or_ia hl (Or.inl rfl)]
    exact sq_oR_cg (sj_inv_oav hI) (sj_inv_oav hIM) (lo 10 (by omega) (by omega)) (lo 11 (by omega) (by omega)) (fun k w _ _ => lo _ (by omega) (by omega)) hO
  · rw [t9] at hq
    by_cases e : q = sj_tn (m 9)
    · rw [e]
      refine ⟨a, ?_, hs⟩
      refine (congrFun (sj_ra_sRa S (D 1) _) _).trans ?_
      exact if_pos rfl
    · obtain ⟨a', ha', hs'⟩ := hR q (by omega)
      refine ⟨a', ?_, sq_sm_cg (fun w _ _ => lo _ (by omega) (by omega)) (hI.2.2.2.1 q (by omega)) (hIM.2.2.2.1 q (by rw [t9]; exact hq)) hs'⟩
      refine (congrFun (sj_ra_sRa S (D 1) _) _).trans ?_
      exact (if_neg e).trans ha'
/-- a table taken over -/
theorem sq_T_to {E : Nat → Nat} (hl : sq_tl S D) (hF : ∀ a, sq_P D a → F a) (hp : sq_tp D E) (hI : sj_inv m) (h : sq_T S F E m) : sq_T (sq_to S D E) F D m := by
  obtain ⟨h1, ⟨h3, h6, h7⟩, hA, hE, hO, hR⟩ := id h
  have hn8 := hI.1.2
  have hN := hI.2.1.2
  have ne : ∀ i j, i < 16 → j < 16 → i ≠ j → D i ≠ D j := fun i j hi hj hij e => hij (hl.2.2.2.2.2.2 i j hi hj e)
  have hl2 : sq_tl (sq_to2 S D E) D := sq_tl_fr (sq_fr_to2 S D E) hl
  have hl3 : sq_tl (sq_to3 S D E) D := sq_tl_fr (sq_fr_to3 S D E) hl
  have o := sq_os_o hl2 (sq_tc (sq_or S (D 5) (fun i => D (5 + i))) (sq_or S (E 5) (fun i => E (5 + i))))
  have e3 : sq_os (sq_to2 S D E) (D 5) (fun i => D (5 + i)) (sq_tc (sq_or S (D 5) (fun i => D (5 + i))) (sq_or S (E 5) (fun i => E (5 + i)))) = sq_to3 S D E := rfl
  rw [e3] at o
  have hor : sq_or (sq_to S D E) (D 5) (fun i => D (5 + i)) = sq_tc (sq_or S (D 5) (fun i => D (5 + i))) (sq_or S (E 5) (fun i => E (5 + i))) := by
    unfold sq_to
    rw [sq_or_fi (S := sj_wFi (sj_sIa (sq_to3 S D E) (D 15) (sj_cp 9 (sj_ia S (E 15)) (sj_ia S (D 15)))) (D 0) 6 (sj_fi S (E 0) 6)) hl3, sq_or_fi (S := sj_sIa (sq_to3 S D E) (D 15) (sj_cp 9 (sj_ia S (E 15)) (sj_ia S (D 15)))) hl3, sq_or_ia hl3 (Or.inr rfl), ← e3]
    exact sq_or_os hl2.2.2.2.2.1.2 _
  refine ⟨sq_tl_fr (sq_fr_to S D E) hl, ⟨?_, ?_, ?_⟩, fun i hi => ?_, fun j hj => ?_, ?_, fun i hi => ?_⟩
  · refine (sj_fi_wFi_k _ _ _ (by omega)).trans ((sj_fi_wFi_k _ _ _ (by omega)).trans ((o.1 3).trans ?_))
    exact (sj_fi_wFi _ _ _ _).trans h3
  · exact (sj_fi_wFi_k _ _ _ (by omega)).trans ((sj_fi_wFi _ _ _ _).trans h6)
  · exact (sj_fi_wFi _ _ _ _).trans h7
  · refine (congrFun (sj_ia_sIa_ne (sq_to3 S D E) _ (ne 4 15 (by omega) (by omega) (by omega))) i).trans ?_
    refine (congrFun o.2.1 i).trans ?_
    refine (congrFun (sj_ia_sIa (sq_to1 S D E 8) (D 4) _) i).trans ?_
    exact (if_pos (by omega)).trans (hA i hi)
  · refine (congrFun (sj_ia_sIa (sq_to3 S D E) (D 15) _) j).trans ?_
    exact (if_pos hj).trans (hE j hj)
  · rw [hor]
    refine ⟨hO.1, hO.2.1, fun k hk => ?_, fun i hi => (if_pos hi).trans (hO.2.2.2 i hi)⟩
    obtain ⟨g0, g1, g2⟩ := hO.2.2.1 k hk
    exact ⟨(if_pos (by omega)).trans g0, (if_pos (by omega)).trans g1, (if_pos (by omega)).trans g2⟩
  · obtain ⟨a, ha, hs⟩ := hR i hi
    refine ⟨a, ?_, sq_sm_fr (sq_fr_to S D E) hF hs⟩
    refine (congrFun o.2.2.2 i).trans ?_
    refine (congrFun (sj_ra_sRa S (D 1) _) i).trans ?_
    exact (if_pos (by omega)).trans ha
theorem sq_k3_to {E : Nat → Nat} (hl : sq_tl S D) (h : sq_k3 S E) : sq_k3 (sq_to S D E) D := by
  intro j b hj hb
  have hl2 : sq_tl (sq_to2 S D E) D := sq_tl_fr (sq_fr_to2 S D E) hl
  have o := sq_os_o hl2 (sq_tc (sq_or S (D 5) (fun i => D (5 + i))) (sq_or S (E 5) (fun i => E (5 + i))))
  have h2 : sj_ra (sq_to S D E) (D 1) j = sj_ra S (E 1) j := (congrFun o.2.2.2 j).trans ((congrFun (sj_ra_sRa S (D 1) _) j).trans (if_pos hj))
  have h3 := h j b hj (h2.symm.trans hb)
  have e := (sq_fr_to S D E).1
  unfold sj_kd at *
  rw [e]
  exact h3
theorem sq_k3_tz (hl : sq_tl S D) (h : sq_k3 S D) (i n N : Nat) : sq_k3 (sq_tz S D i n N) D := by
  intro j b hj hb
  have hl2 : sq_tl (sq_ta S D i n) D := sq_tl_fr (sq_fr_ta i n) hl
  have h2 : sj_ra (sq_tz S D i n N) (D 1) j = sq_cr i 7 (sj_ra S (D 1)) j := (congrFun (sq_os_o hl2 _).2.2.2 j).trans (congrFun (sj_ra_sRa S (D 1) _) j)
  have e := (sq_fr_tz (S := S) (D := D) i n N).1
  unfold sj_kd
  rw [e]
  rw [h2] at hb
  unfold sq_cr at hb
  by_cases hc : i ≤ j ∧ j < 7
  · rw [if_pos hc] at hb
    exact h (j + 1) b (by omega) hb
  · rw [if_neg hc] at hb
    exact h j b hj hb
end
/-! no oath of two hands within a hand -/
theorem sj_uc_pas {m : Nat → Int32} (hI : sj_inv m) (hu : sj_uc m) {y : Int32} (hIM : sj_inv (sj_pas m y (sj_tn (m 9)))) : sj_uc (sj_pas m y (sj_tn (m 9))) := by
  have hN := hI.2.1.2
  exact sj_uc_cg (sj_inv_oav hI) (sj_inv_oav hIM) (congrArg sj_tn (sj_pas_lo m y (by omega) _)) (fun k w _ _ => sj_pas_lo m y (by omega) _) hu
theorem sj_uc_dO {m : Nat → Int32} (hI : sj_inv m) (hu : sj_uc m) {p : Nat} (hp : p < sj_tn (m 10)) : sj_uc (sj_dO m p) := by
  have hIM := sj_inv_dO hI hp
  have hv := sj_inv_oav hI
  have hV := sj_inv_oav hIM
  have hN := hI.2.1.2
  have eN : sj_tn (sj_dO m p 10) = sj_tn (m 10) - 1 := by
    rw [sj_dO_10]
    exact sj_tn_nI (by omega)
  have e9 : sj_dO m p 9 = m 9 := by
    unfold sj_dO sj_dj
    rw [if_neg (by omega), if_neg (by omega)]
  have oa : ∀ k w, k < sj_tn (m 10) - 1 → w < 3 → sj_oa (sj_dO m p) k w = sj_oa m (if k < p then k else k + 1) w := fun k w hk hw => sj_dO_oa m p k w hw (by omega) hp
  intro k hk h2 he
  rw [eN] at hk
  have hk' : (if k < p then k else k + 1) < sj_tn (m 10) := by split <;> omega
  obtain ⟨⟨_, h0⟩, ⟨_, h1⟩, _⟩ := hV.2.2 k (by rw [eN]; exact hk)
  have fine := sj_hnd_T hV (-1) (fun x => sj_hH m (-1) x = sj_hH m (-1) (sj_tn (sj_oa (sj_dO m p) k 1))) (sj_tn (sj_dO m p 10)) (Nat.le_refl _) (fun q hq hq1 hq2 => by
    rw [eN] at hq
    have hq' : (if q < p then q else q + 1) < sj_tn (m 10) := by split <;> omega
    rw [oa q 2 hq (by omega)] at hq2
    have e := sj_hnd_1 hv (-1) (k := if q < p then q else q + 1) (sj_nIm1 (by omega)) hq2 (sj_tn (m 10)) hq' (Nat.le_refl _)
    show sj_hH m (-1) _ = _ ↔ sj_hH m (-1) _ = _
    rw [oa q 0 hq (by omega), oa q 1 hq (by omega)]
    unfold sj_hH
    rw [e]) _ _ h0 h1 he
  have e2 := fine.mpr rfl
  rw [oa k 2 hk (by omega)] at h2
  rw [oa k 0 hk (by omega), oa k 1 hk (by omega)] at e2
  exact hu _ hk' h2 e2
theorem sj_uc_drp {m : Nat → Int32} (hI : sj_inv m) (hu : sj_uc m) {i : Nat} (hi : i < sj_tn (m 9)) : sj_uc (sj_drp m i) := by
  have hIM := sj_inv_drp hI hi
  have hv := sj_inv_oav hI
  have hV := sj_inv_oav hIM
  have hn8 := hI.1.2
  have hN := hI.2.1.2
  obtain ⟨-, -, -, q⟩ := sj_drp_oa (i := i) hI (f1 := fun k => sj_oa m k 0) (f2 := fun k => sj_oa m k 1) (f3 := fun k => sj_oa m k 2) (fun k _ => sq_oaf k)
  have e9 : sj_tn (sj_drp m i 9) = sj_tn (m 9) - 1 := by
    rw [sj_drp_9]
    exact sj_tn_nI (by omega)
  have up : ∀ k', k' < sj_tn (m 10) → ¬ sj_of2 m i k' → (if sj_tn (sj_nw i (sj_oa m k' 0)) < i then sj_tn (sj_nw i (sj_oa m k' 0)) else sj_tn (sj_nw i (sj_oa m k' 0)) + 1) = sj_tn (sj_oa m k' 0) ∧ (if sj_tn (sj_nw i (sj_oa m k' 1)) < i then sj_tn (sj_nw i (sj_oa m k' 1)) else sj_tn (sj_nw i (sj_oa m k' 1)) + 1) = sj_tn (sj_oa m k' 1) := fun k' hk' hno => by
    obtain ⟨⟨e0, h0⟩, ⟨e1, h1⟩, _⟩ := hv.2.2 k' hk'
    have n0 : ¬ sj_tn (sj_oa m k' 0) = i := fun e => hno (Or.inl (by rw [e0, e]))
    have n1 : ¬ sj_tn (sj_oa m k' 1) = i := fun e => hno (Or.inr (by rw [e1, e]))
    have g0 : sj_tn (sj_nw i (sj_oa m k' 0)) = if i < sj_tn (sj_oa m k' 0) then sj_tn (sj_oa m k' 0) - 1 else sj_tn (sj_oa m k' 0) := by
      refine (congrArg (fun z => sj_tn (sj_nw i z)) e0).trans ?_
      rw [sj_nw_n (by omega) (by omega)]
      exact sj_tn_nI (by split <;> omega)
    have g1 : sj_tn (sj_nw i (sj_oa m k' 1)) = if i < sj_tn (sj_oa m k' 1) then sj_tn (sj_oa m k' 1) - 1 else sj_tn (sj_oa m k' 1) := by
      refine (congrArg (fun z => sj_tn (sj_nw i z)) e1).trans ?_
      rw [sj_nw_n (by omega) (by omega)]
      exact sj_tn_nI (by split <;> omega)
    rw [g0, g1]
    constructor
    · by_cases c : i < sj_tn (sj_oa m k' 0)
      · rw [if_pos c, if_neg (by omega)]
        omega
      · rw [if_neg c, if_pos (by omega)]
    · by_cases c : i < sj_tn (sj_oa m k' 1)
      · rw [if_pos c, if_neg (by omega)]
        omega
      · rw [if_neg c, if_pos (by omega)]
  intro k hk h2 he
  obtain ⟨⟨_, h0⟩, ⟨_, h1⟩, _⟩ := hV.2.2 k hk
  have fine := sj_hnd_T hV (-1) (fun x => sj_hH m (-1) (if x < i then x else x + 1) = sj_hH m (-1) (if sj_tn (sj_oa (sj_drp m i) k 1) < i then sj_tn (sj_oa (sj_drp m i) k 1) else sj_tn (sj_oa (sj_drp m i) k 1) + 1)) (sj_tn (sj_drp m i 10)) (Nat.le_refl _) (fun q' hq' hq1 hq2 => by
    obtain ⟨k', hk', hno, a0, a1, a2⟩ := q q' hq'
    rw [a2] at hq2
    have e := sj_hnd_1 hv (-1) (sj_nIm1 (by omega)) hq2 (sj_tn (m 10)) hk' (Nat.le_refl _)
    show sj_hH m (-1) _ = _ ↔ sj_hH m (-1) _ = _
    rw [a0, a1, (up k' hk' hno).1, (up k' hk' hno).2]
    unfold sj_hH
    rw [e]) _ _ h0 h1 he
  have e2 := fine.mpr rfl
  obtain ⟨k', hk', hno, a0, a1, a2⟩ := q k hk
  rw [a2] at h2
  rw [a0, a1, (up k' hk' hno).1, (up k' hk' hno).2] at e2
  exact hu k' hk' h2 e2
theorem sj_brk_no {m : Nat → Int32} {i e : Nat} : ∀ K, sj_brk m i e K = false → ∀ k, k < K → sj_oa m k 2 = 0 → ¬ sj_jH m i e (sj_tn (sj_oa m k 0)) = sj_jH m i e (sj_tn (sj_oa m k 1))
  | K + 1, h, k, hk, h2 => by
    have h' : (sj_brk m i e K || (decide (sj_oa m K 2 = 0) && decide (sj_jH m i e (sj_tn (sj_oa m K 0)) = sj_jH m i e (sj_tn (sj_oa m K 1))))) = false := h
    obtain ⟨h3, h4⟩ := Bool.or_eq_false_iff.mp h'
    by_cases hkK : k = K
    · subst hkK
      rw [decide_eq_true h2, Bool.true_and] at h4
      exact of_decide_eq_false h4
    · exact sj_brk_no K h3 k (by omega) h2
theorem sj_uc_sw {m : Nat → Int32} (hI : sj_inv m) (hu : sj_uc m) {i e : Nat} (hi : i < sj_tn (m 9)) (he : e < sj_tn (m 9)) {like : Bool} (hw : sj_why m i e like = 0) : sj_uc (sj_sw m i e like) := by
  have hIM := sj_inv_sw hI hi he hw
  have h28 := sj_sw_28 hI hi he hw
  have hv := sj_inv_oav hI
  have hV := sj_inv_oav hIM
  have hn8 := hI.1.2
  have e9 : sj_sw m i e like 9 = m 9 := sj_sw_o m i e like (by omega) (by omega) (by omega)
  have eN : sj_tn (sj_sw m i e like 10) = sj_tn (m 10) + 1 := by
    rw [sj_sw_10, show m 10 + 1 = nI (sj_tn (m 10) + 1) from (congrArg (fun z => z + 1) hI.2.1.1).trans (nI_1 _)]
    exact sj_tn_nI (by omega)
  have hlow : ∀ K, K ≤ sj_tn (m 10) → sj_hnd (sj_sw m i e like) (-1) K = sj_hnd m (-1) K := by
    intro K
    induction K with
    | zero => intro _; rfl
    | succ K ih =>
      intro hK
      unfold sj_hnd
      rw [ih (by omega), e9, sj_sw_oa m i e like (k := K) (w := 0) (by omega) (by omega), sj_sw_oa m i e like (k := K) (w := 1) (by omega) (by omega), sj_sw_oa m i e like (k := K) (w := 2) (by omega) (by omega)]
  have hw' := hw
  unfold sj_why at hw'
  by_cases c1 : i = e
  · rw [if_pos c1] at hw'
    exact absurd hw' (by decide)
  rw [if_neg c1] at hw'
  by_cases c2 : ¬ sj_fo m i e = -1
  · rw [if_pos c2] at hw'
    exact absurd hw' (by decide)
  rw [if_neg c2] at hw'
  cases like with
  | false =>
    rw [if_pos rfl] at hw'
    have ha1 : sj_a1 m i e = false := by
      cases hc : sj_a1 m i e
      · rfl
      · rw [hc] at hw'
        exact absurd hw' (by decide)
    have hH : sj_hH (sj_sw m i e false) (-1) = sj_hH m (-1) := by
      unfold sj_hH
      rw [eN]
      rw [sj_hnd_n (fun h => by
        have h2 := h.2
        rw [sj_sw_2] at h2
        exact absurd h2 (by decide)), hlow _ (Nat.le_refl _)]
    intro k hk h2
    rw [eN] at hk
    rw [hH]
    by_cases hkN : k = sj_tn (m 10)
    · subst hkN
      rw [sj_sw_0, sj_sw_1, sj_tn_nI (by omega), sj_tn_nI (by omega)]
      exact of_decide_eq_false ha1
    · rw [sj_sw_oa m i e false (w := 2) (show k < sj_tn (m 10) by omega) (by omega)] at h2
      rw [sj_sw_oa m i e false (w := 0) (show k < sj_tn (m 10) by omega) (by omega), sj_sw_oa m i e false (w := 1) (show k < sj_tn (m 10) by omega) (by omega)]
      exact hu k (by omega) h2
  | true =>
    rw [if_neg (by decide)] at hw'
    by_cases c3 : (sj_trm m i || sj_trm m e) = true
    · rw [if_pos c3] at hw'
      exact absurd hw' (by decide)
    rw [if_neg c3] at hw'
    by_cases c4 : sj_lik m i e < m 8
    · rw [if_pos c4] at hw'
      exact absurd hw' (by decide)
    rw [if_neg c4] at hw'
    have hb : sj_brk m i e (sj_tn (m 10)) = false := by
      cases hc : sj_brk m i e (sj_tn (m 10))
      · rfl
      · rw [hc] at hw'
        exact absurd hw' (by decide)
    have hH : sj_hH (sj_sw m i e true) (-1) = sj_jH m i e := by
      unfold sj_hH
      rw [eN, sj_hnd_y (sj_nIm1 (by omega)) (by rw [sj_sw_2]; rfl), hlow _ (Nat.le_refl _), e9, sj_sw_0, sj_sw_1, sj_tn_nI (by omega), sj_tn_nI (by omega)]
      rfl
    intro k hk h2
    rw [eN] at hk
    rw [hH]
    by_cases hkN : k = sj_tn (m 10)
    · subst hkN
      rw [sj_sw_2] at h2
      exact absurd h2 (by decide)
    · rw [sj_sw_oa m i e true (w := 2) (show k < sj_tn (m 10) by omega) (by omega)] at h2
      rw [sj_sw_oa m i e true (w := 0) (show k < sj_tn (m 10) by omega) (by omega), sj_sw_oa m i e true (w := 1) (show k < sj_tn (m 10) by omega) (by omega)]
      exact sj_brk_no _ hb k (by omega) h2
