/-! THE REFERENCE: what does not hang on the stop -/
def sj_e2 (m M : Nat → Int32) : Prop := ∀ j, j ≠ 12 → j ≠ 13 → M j = m j
section
variable {m M : Nat → Int32}
theorem sj_e_of (h : sj_e2 m M) : sj_of M = sj_of m := by
  funext i w
  exact h _ (by omega) (by omega)
theorem sj_e_os (h : sj_e2 m M) : sj_os M = sj_os m := by
  funext i k w
  exact h _ (by omega) (by omega)
theorem sj_e_oa (h : sj_e2 m M) : sj_oa M = sj_oa m := by
  funext k w
  exact h _ (by omega) (by omega)
theorem sj_e_ns (h : sj_e2 m M) : sj_ns M = sj_ns m := by
  funext i
  unfold sj_ns
  rw [sj_e_of h]
theorem sj_e_tot (h : sj_e2 m M) : sj_tot M = sj_tot m := by
  funext i w
  unfold sj_tot
  rw [sj_e_os h, sj_e_ns h]
theorem sj_e_mk (h : sj_e2 m M) : sj_mk M = sj_mk m := by
  have e1 : sj_spr M = sj_spr m := by
    funext i
    unfold sj_spr
    rw [sj_e_os h, sj_e_ns h]
  have e2 : sj_lh M = sj_lh m := by
    funext i
    unfold sj_lh
    rw [sj_e_os h, sj_e_ns h, sj_e_tot h]
  have e3 : sj_ur M = sj_ur m := by
    funext i
    unfold sj_ur
    rw [sj_e_os h, sj_e_ns h]
  funext i j
  unfold sj_mk
  rw [sj_e_tot h, sj_e_ns h, e1, e2, e3]
theorem sj_e_lik (h : sj_e2 m M) : sj_lik M = sj_lik m := by
  have e1 : ∀ i e j, j < 12 → sj_agb M i e j = sj_agb m i e j := fun i e j hj => by
    unfold sj_agb sj_gn sj_hf sj_dfr
    rw [sj_e_mk h, sj_e_of h, h 6 (by omega) (by omega), h j (by omega) (by omega)]
  funext i e
  unfold sj_lik
  rw [sj_agr_m6, sj_agr_m6, e1 i e 0 (by omega), e1 i e 1 (by omega), e1 i e 2 (by omega), e1 i e 3 (by omega), e1 i e 4 (by omega), e1 i e 5 (by omega)]
theorem sj_e_trm (h : sj_e2 m M) : sj_trm M = sj_trm m := by
  funext i
  unfold sj_trm
  rw [sj_e_tot h, sj_e_ns h, h 7 (by omega) (by omega)]
theorem sj_e_hnd (h : sj_e2 m M) (w : Int32) : ∀ k, sj_hnd M w k = sj_hnd m w k
  | 0 => rfl
  | k + 1 => by
    unfold sj_hnd
    rw [sj_e_hnd h w k, sj_e_oa h, h 9 (by omega) (by omega)]
theorem sj_e_hH (h : sj_e2 m M) : sj_hH M = sj_hH m := by
  funext w
  unfold sj_hH
  rw [h 10 (by omega) (by omega), sj_e_hnd h]
theorem sj_e_fo (h : sj_e2 m M) : sj_fo M = sj_fo m := by
  have e1 : sj_fp M = sj_fp m := by
    funext i e k
    unfold sj_fp
    rw [sj_e_oa h]
  funext i e
  unfold sj_fo
  rw [e1, h 10 (by omega) (by omega)]
theorem sj_e_brk (h : sj_e2 m M) (i e : Nat) : ∀ k, sj_brk M i e k = sj_brk m i e k
  | 0 => rfl
  | k + 1 => by
    have e1 : sj_jH M i e = sj_jH m i e := by
      unfold sj_jH
      rw [sj_e_hH h, h 9 (by omega) (by omega)]
    unfold sj_brk
    rw [sj_e_brk h i e k, sj_e_oa h, e1]
theorem sj_e_why (h : sj_e2 m M) : sj_why M = sj_why m := by
  funext i e like
  unfold sj_why sj_a1
  rw [sj_e_fo h, sj_e_hH h, sj_e_trm h, sj_e_lik h, sj_e_brk h, h 8 (by omega) (by omega), h 10 (by omega) (by omega)]
theorem sj_e_wnp (h : sj_e2 m M) (sg f1 f2 : Int32) : sj_wnp M sg f1 f2 = sj_wnp m sg f1 f2 := by
  unfold sj_wnp sj_isn
  rw [sj_e_why h, h 9 (by omega) (by omega)]
theorem sj_e_pas (h : sj_e2 m M) (y : Int32) : ∀ n, sj_e2 (sj_pas m y n) (sj_pas M y n)
  | 0 => h
  | n + 1 => fun j h1 h2 => by
    have ea : sj_age M y n = sj_age m y n := by
      unfold sj_age
      rw [sj_e_of h]
    show upd (sj_pas M y n) (98 + 42 * n) (sj_age M y n) j = upd (sj_pas m y n) (98 + 42 * n) (sj_age m y n) j
    rw [ea]
    unfold upd
    rw [sj_e_pas h y n j h1 h2]
theorem sj_e_dO (h : sj_e2 m M) (k : Nat) : sj_e2 (sj_dO m k) (sj_dO M k) := fun j h1 h2 => by
  unfold sj_dO sj_dj
  rw [h 10 (by omega) (by omega), h j h1 h2]
  by_cases c : 14 + 3 * k ≤ j ∧ j < 14 + 3 * (sj_tn (m 10) - 1)
  · rw [h (j + 3) (by omega) (by omega)]
  · rw [if_neg c, if_neg c]
theorem sj_e_dl (i : Nat) : ∀ k (m M : Nat → Int32) g, sj_e2 m M → sj_e2 (sj_dl i k m g).1 (sj_dl i k M g).1
  | 0, _, _, _, h => h
  | k + 1, m, M, g, h => by
    unfold sj_dl
    rw [sj_e_oa h]
    by_cases c : sj_oa m k 0 = nI i ∨ sj_oa m k 1 = nI i
    · rw [if_pos c, if_pos c]
      exact sj_e_dl i k _ _ _ (sj_e_dO h k)
    · rw [if_neg c, if_neg c]
      exact sj_e_dl i k _ _ _ h
theorem sj_e_rn (h : sj_e2 m M) (i : Nat) : ∀ n, sj_e2 (sj_rn m i n) (sj_rn M i n)
  | 0 => h
  | n + 1 => by
    have ih := sj_e_rn h i n
    have h1 : sj_e2 (sj_rn1 (sj_rn m i n) i n) (sj_rn1 (sj_rn M i n) i n) := fun j h1 h2 => by
      unfold sj_rn1 upd
      rw [sj_e_oa ih, ih j h1 h2, ih (14 + 3 * n) (by omega) (by omega)]
    show sj_e2 (sj_rn2 (sj_rn1 (sj_rn m i n) i n) i n) (sj_rn2 (sj_rn1 (sj_rn M i n) i n) i n)
    intro j h3 h4
    unfold sj_rn2
    have e1 := sj_e_oa h1
    have e2 := h1 j h3 h4
    have e3 := h1 (14 + 3 * n + 1) (by omega) (by omega)
    generalize sj_rn1 (sj_rn m i n) i n = f at *
    generalize sj_rn1 (sj_rn M i n) i n = g at *
    unfold upd
    rw [e1, e2, e3]
theorem sj_e_drp (h : sj_e2 m M) (i : Nat) : sj_e2 (sj_drp m i) (sj_drp M i) := by
  have h10 : M 10 = m 10 := h 10 (by omega) (by omega)
  have h9 : M 9 = m 9 := h 9 (by omega) (by omega)
  have d1 : sj_e2 (sj_dp1 m i) (sj_dp1 M i) := by
    unfold sj_dp1
    rw [h10]
    exact sj_e_dl i _ _ _ _ h
  have d2 : sj_e2 (sj_dp2 m i) (sj_dp2 M i) := by
    unfold sj_dp2
    rw [d1 10 (by omega) (by omega)]
    exact sj_e_rn d1 i _
  intro j h1 h2
  unfold sj_drp sj_ct
  rw [h9, d2 j h1 h2]
  by_cases c : 98 + 42 * i ≤ j ∧ j < 98 + 42 * (sj_tn (m 9) - 1)
  · rw [d2 (j + 42) (by omega) (by omega)]
  · rw [if_neg c, if_neg c]
theorem sj_e_sw (h : sj_e2 m M) (i e : Nat) (like : Bool) : sj_e2 (sj_sw m i e like) (sj_sw M i e like) := by
  have h10 : M 10 = m 10 := h 10 (by omega) (by omega)
  have h1 : sj_e2 (sj_sw1 m i e like) (sj_sw1 M i e like) := fun j h1 h2 => by
    unfold sj_sw1 upd
    rw [h10, h j h1 h2]
  have h2 : sj_e2 (sj_sw2 (sj_sw1 m i e like)) (sj_sw2 (sj_sw1 M i e like)) := fun j h3 h4 => by
    unfold sj_sw2
    have e1 := h1 j h3 h4
    have e2 := h1 10 (by omega) (by omega)
    generalize sj_sw1 m i e like = f at *
    generalize sj_sw1 M i e like = g at *
    unfold upd
    rw [e1, e2]
  intro j h3 h4
  unfold sj_sw
  have e1 := h2 j h3 h4
  have e2 := h2 11 (by omega) (by omega)
  generalize sj_sw2 (sj_sw1 m i e like) = f at *
  generalize sj_sw2 (sj_sw1 M i e like) = g at *
  unfold upd
  rw [e1, e2]
theorem sj_e_dpt (h : sj_e2 m M) (sg f1 f2 : Int32) : sj_e2 (sj_dpt m sg f1 f2).1 (sj_dpt M sg f1 f2).1 := by
  have h9 : M 9 = m 9 := h 9 (by omega) (by omega)
  unfold sj_dpt
  rw [h9]
  by_cases c : sg = 121
  · rw [if_pos c, if_pos c]
    exact sj_e_pas h f1 _
  · rw [if_neg c, if_neg c]
    by_cases c2 : sg = 100
    · rw [if_pos c2, if_pos c2]
      exact sj_e_drp h _
    · rw [if_neg c2, if_neg c2]
      exact sj_e_sw h _ _ _
end
