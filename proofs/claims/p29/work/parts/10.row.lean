/-! ROWS: the class Row, and what its methods do -/
def sj_rw (S : sj_St) (r c n : Nat) : Prop := sj_kd S r = some 2 ∧ sj_rf S r 0 = some c ∧ sj_kd S c = some 8 ∧ sj_il S c = n ∧ n < 1000
def sj_at (n : Nat) (f : Nat → Int32) (i : Int32) : Int32 := if i < 0 then 0 else if Int32.ofNat n ≤ i then 0 else f i.toNatClampNeg
def sj_put (S : sj_St) (c n : Nat) (i v : Int32) : sj_St := if i < 0 then S else if Int32.ofNat n ≤ i then S else sj_wIa S c i.toNatClampNeg v
def sj_sIa (S : sj_St) (a : Nat) (f : Nat → Int32) : sj_St := (S.1, S.2.1, S.2.2.1, S.2.2.2.1, sj_up S.2.2.2.2.1 a f, S.2.2.2.2.2)
theorem sj_up_id {α : Type} (F : Nat → α) (a : Nat) : sj_up F a (F a) = F := by
  funext q
  unfold sj_up
  by_cases h : q = a
  · rw [if_pos h, h]
  · rw [if_neg h]
theorem sj_up_up {α : Type} (F : Nat → α) (a : Nat) (f g : α) : sj_up (sj_up F a f) a g = sj_up F a g := by
  funext q
  unfold sj_up
  by_cases h : q = a
  · rw [if_pos h, if_pos h]
  · rw [if_neg h, if_neg h, if_neg h]
theorem sj_up_comm {α : Type} (F : Nat → α) {a b : Nat} (h : a ≠ b) (f g : α) : sj_up (sj_up F a f) b g = sj_up (sj_up F b g) a f := by
  funext q
  unfold sj_up
  by_cases h1 : q = a
  · have h2 : ¬ q = b := fun e => h (h1.symm.trans e)
    simp only [if_neg h2, if_pos h1]
  · by_cases h2 : q = b
    · simp only [if_neg h1, if_pos h2]
    · simp only [if_neg h1, if_neg h2]
theorem sj_sIa_id (S : sj_St) (a : Nat) : sj_sIa S a (sj_ia S a) = S := by
  unfold sj_sIa sj_ia
  rw [sj_up_id]
theorem sj_sIa_sIa (S : sj_St) (a : Nat) (f g : Nat → Int32) : sj_sIa (sj_sIa S a f) a g = sj_sIa S a g := by
  unfold sj_sIa
  dsimp only
  rw [sj_up_up]
theorem sj_wIa_sIa (S : sj_St) (a : Nat) (f : Nat → Int32) (k : Nat) (v : Int32) : sj_wIa (sj_sIa S a f) a k v = sj_sIa S a (upd f k v) := by
  unfold sj_wIa sj_sIa
  dsimp only
  rw [sj_up_up, sj_up_self]
theorem sj_wIa_eq (S : sj_St) (a k : Nat) (v : Int32) : sj_wIa S a k v = sj_sIa S a (upd (sj_ia S a) k v) := rfl
theorem sj_ia_sIa (S : sj_St) (a : Nat) (f : Nat → Int32) : sj_ia (sj_sIa S a f) a = f := sj_up_self _ _ _
theorem sj_ia_sIa_ne (S : sj_St) {a b : Nat} (f : Nat → Int32) (h : b ≠ a) : sj_ia (sj_sIa S a f) b = sj_ia S b := sj_up_ne _ _ h
theorem sj_vp {n : Nat} {i : Int32} (hn : n < 2 ^ 31) (h1 : ¬ i < 0) (h2 : ¬ Int32.ofNat n ≤ i) : vp_in i n := by
  obtain ⟨j, hj, rfl⟩ := nI_of h1
  exact vp_in_nI (Nat.not_le.mp fun h => h2 ((nI_leI hn hj).mpr h)) hn
theorem sj_at_nI {n j : Nat} (f : Nat → Int32) (hj : j < n) (hn : n < 2 ^ 31) : sj_at n f (nI j) = f j := by
  have hj2 : j < 2 ^ 31 := Nat.lt_trans hj hn
  unfold sj_at
  rw [if_neg (nI_pos hj2), if_neg (show ¬ Int32.ofNat n ≤ nI j from nI_ge hj hn), nI_clamp hj2]
theorem sj_put_nI {S : sj_St} {c n j : Nat} {v : Int32} (hj : j < n) (hn : n < 2 ^ 31) : sj_put S c n (nI j) v = sj_wIa S c j v := by
  have hj2 : j < 2 ^ 31 := Nat.lt_trans hj hn
  unfold sj_put
  rw [if_neg (nI_pos hj2), if_neg (show ¬ Int32.ofNat n ≤ nI j from nI_ge hj hn), nI_clamp hj2]
set_option maxRecDepth 100000 in
set_option maxHeartbeats 4000000 in
theorem ct_X2_at (l : Launch) {S : sj_St} {r c n : Nat} (h : sj_rw S r c n) (i : Int32) : sj_Ctr l mX2_at [.ref r, .int i] S (sj_eq (some (.int (sj_at n (sj_ia S c) i))) S) := by
  refine sj_start ([some (.ref r), some (.int i)]) (by decide +kernel) rfl rfl (fun X hX C hR => ?_)
  subst hX
  obtain ⟨kd_r, rf_r_0, kd_c, il_c, hn⟩ := h
  have hn2 : sj_il S c < 2 ^ 31 := by omega
  refine sj_iload_n C 1 rfl dX2_at_0 rfl rfl ?_
  refine sj_if_lt C 22 4 rfl rfl dX2_at_1 (fun c_1 => ?_) (fun c_1 => ?_)
  · refine sj_iconstv C (0) 23 rfl dX2_at_22 rfl ?_
    refine sj_iret C hR rfl rfl dX2_at_23 ?_
    refine ⟨congrArg (fun z => some (Value.int z)) ?_, rfl⟩
    unfold sj_at
    rw [if_pos c_1]
  · refine sj_iload_n C 5 rfl dX2_at_4 rfl rfl ?_
    refine sj_aload_n C 6 rfl dX2_at_5 rfl rfl ?_
    refine sj_getr C 9 rfl fd_X2_7 dX2_at_6 kd_r rf_r_0 ?_
    refine sj_alen8 C 10 rfl dX2_at_9 kd_c ?_
    refine sj_icmp_ge C 22 13 rfl rfl dX2_at_10 (fun c_10 => ?_) (fun c_10 => ?_)
    · refine sj_iconstv C (0) 23 rfl dX2_at_22 rfl ?_
      refine sj_iret C hR rfl rfl dX2_at_23 ?_
      refine ⟨congrArg (fun z => some (Value.int z)) ?_, rfl⟩
      rw [il_c] at c_10
      unfold sj_at
      rw [if_neg c_1, if_pos c_10]
    · refine sj_aload_n C 14 rfl dX2_at_13 rfl rfl ?_
      refine sj_getr C 17 rfl fd_X2_7 dX2_at_14 kd_r rf_r_0 ?_
      refine sj_iload_n C 18 rfl dX2_at_17 rfl rfl ?_
      refine sj_iald C 19 rfl dX2_at_18 kd_c (sj_vp hn2 c_1 c_10) ?_
      refine sj_goto C 23 rfl dX2_at_19 ?_
      refine sj_iret C hR rfl rfl dX2_at_23 ?_
      refine ⟨congrArg (fun z => some (Value.int z)) ?_, rfl⟩
      rw [il_c] at c_10
      unfold sj_at
      rw [if_neg c_1, if_neg c_10]
set_option maxRecDepth 100000 in
set_option maxHeartbeats 4000000 in
theorem ct_X2_put (l : Launch) {S : sj_St} {r c n : Nat} (h : sj_rw S r c n) (i v : Int32) : sj_Ctr l mX2_put [.ref r, .int i, .int v] S (sj_eq none (sj_put S c n i v)) := by
  refine sj_start ([some (.ref r), some (.int i), some (.int v)]) (by decide +kernel) rfl rfl (fun X hX C hR => ?_)
  subst hX
  obtain ⟨kd_r, rf_r_0, kd_c, il_c, hn⟩ := h
  have hn2 : sj_il S c < 2 ^ 31 := by omega
  refine sj_iload_n C 1 rfl dX2_put_0 rfl rfl ?_
  refine sj_if_lt C 20 4 rfl rfl dX2_put_1 (fun c_1 => ?_) (fun c_1 => ?_)
  · refine sj_vret C hR rfl rfl dX2_put_20 ?_
    refine ⟨rfl, ?_⟩
    unfold sj_put
    rw [if_pos c_1]
  · refine sj_iload_n C 5 rfl dX2_put_4 rfl rfl ?_
    refine sj_aload_n C 6 rfl dX2_put_5 rfl rfl ?_
    refine sj_getr C 9 rfl fd_X2_7 dX2_put_6 kd_r rf_r_0 ?_
    refine sj_alen8 C 10 rfl dX2_put_9 kd_c ?_
    refine sj_icmp_ge C 20 13 rfl rfl dX2_put_10 (fun c_10 => ?_) (fun c_10 => ?_)
    · refine sj_vret C hR rfl rfl dX2_put_20 ?_
      rw [il_c] at c_10
      refine ⟨rfl, ?_⟩
      unfold sj_put
      rw [if_neg c_1, if_pos c_10]
    · refine sj_aload_n C 14 rfl dX2_put_13 rfl rfl ?_
      refine sj_getr C 17 rfl fd_X2_7 dX2_put_14 kd_r rf_r_0 ?_
      refine sj_iload_n C 18 rfl dX2_put_17 rfl rfl ?_
      refine sj_iload_n C 19 rfl dX2_put_18 rfl rfl ?_
      refine sj_iast C 20 rfl dX2_put_19 kd_c (sj_vp hn2 c_1 c_10) ?_
      refine sj_vret C hR rfl rfl dX2_put_20 ?_
      rw [il_c] at c_10
      refine ⟨rfl, ?_⟩
      unfold sj_put
      rw [if_neg c_1, if_neg c_10]
def sj_cp (n : Nat) (f g : Nat → Int32) : Nat → Int32 := fun j => if j < n then f j else g j
theorem sj_cp_0 (f g : Nat → Int32) : sj_cp 0 f g = g := by
  funext j
  exact if_neg (Nat.not_lt_zero j)
theorem sj_cp_s (k : Nat) (f g : Nat → Int32) : upd (sj_cp k f g) k (f k) = sj_cp (k + 1) f g := by
  funext j
  unfold upd sj_cp
  by_cases h : j = k
  · rw [if_pos h, if_pos (by omega), h]
  · rw [if_neg h]
    by_cases h2 : j < k
    · rw [if_pos h2, if_pos (by omega)]
    · rw [if_neg h2, if_neg (by omega)]
set_option maxRecDepth 100000 in
set_option maxHeartbeats 4000000 in
theorem ct_X2_copyFrom (l : Launch) {S : sj_St} {r c r2 c2 n : Nat} (h : sj_rw S r c n) (h2 : sj_rw S r2 c2 n) (hne : c ≠ c2) : sj_Ctr l mX2_copyFrom [.ref r, .ref r2] S (sj_eq none (sj_sIa S c (sj_cp n (sj_ia S c2) (sj_ia S c)))) := by
  refine sj_start ([some (.ref r), some (.ref r2), none]) (by decide +kernel) rfl rfl (fun X hX C hR => ?_)
  subst hX
  obtain ⟨kd_r, rf_r_0, kd_c, il_c, hn⟩ := h
  obtain ⟨kd_r2, rf_r2_0, kd_c2, il_c2, hn2⟩ := h2
  have cut_7 : ∀ S', S' = sj_sIa S c (sj_cp 0 (sj_ia S c2) (sj_ia S c)) → sj_G X S' 0 0 [some (.ref r), some (.ref r2), some (.int (nI 0))] 7 [] := by
    refine sj_down (fun k => ∀ S', S' = sj_sIa S c (sj_cp k (sj_ia S c2) (sj_ia S c)) → sj_G X S' 0 0 [some (.ref r), some (.ref r2), some (.int (nI k))] 7 []) n (fun k hk ih => ?_)
    intro S' hS'
    subst hS'
    have e1 : sj_ia (sj_sIa S c (sj_cp k (sj_ia S c2) (sj_ia S c))) c2 = sj_ia S c2 := sj_ia_sIa_ne S _ (Ne.symm hne)
    refine sj_iload_n C 8 rfl dX2_copyFrom_7 rfl rfl ?_
    refine sj_aload_n C 9 rfl dX2_copyFrom_8 rfl rfl ?_
    refine sj_getr C 12 rfl fd_X2_7 dX2_copyFrom_9 kd_r rf_r_0 ?_
    refine sj_alen8 C 13 rfl dX2_copyFrom_12 kd_c ?_
    refine sj_icmp_ge C 43 16 rfl rfl dX2_copyFrom_13 (fun c_13 => ?_) (fun c_13 => ?_)
    · refine sj_vret C hR rfl rfl dX2_copyFrom_43 ?_
      have hkn : k = n := by
        have h9 : ¬ k < n := fun h => nI_ge h (by omega) (by rw [← il_c]; exact c_13)
        omega
      subst hkn
      exact ⟨rfl, rfl⟩
    · have hlt : k < n := Nat.not_le.mp fun h9 => c_13 (by show Int32.ofNat (sj_il S c) ≤ nI k; rw [il_c]; exact nI_le h9 (by omega))
      refine sj_iload_n C 17 rfl dX2_copyFrom_16 rfl rfl ?_
      refine sj_aload_n C 18 rfl dX2_copyFrom_17 rfl rfl ?_
      refine sj_getr C 21 rfl fd_X2_7 dX2_copyFrom_18 kd_r2 rf_r2_0 ?_
      refine sj_alen8 C 22 rfl dX2_copyFrom_21 kd_c2 ?_
      refine sj_icmp_ge C 43 25 rfl rfl dX2_copyFrom_22 (fun c_22 => ?_) (fun c_22 => ?_)
      · refine sj_vret C hR rfl rfl dX2_copyFrom_43 ?_
        exact absurd (il_c2.symm ▸ c_22) (nI_ge hlt (by omega))
      · refine sj_aload_n C 26 rfl dX2_copyFrom_25 rfl rfl ?_
        refine sj_getr C 29 rfl fd_X2_7 dX2_copyFrom_26 kd_r rf_r_0 ?_
        refine sj_iload_n C 30 rfl dX2_copyFrom_29 rfl rfl ?_
        refine sj_aload_n C 31 rfl dX2_copyFrom_30 rfl rfl ?_
        refine sj_getr C 34 rfl fd_X2_7 dX2_copyFrom_31 kd_r2 rf_r2_0 ?_
        refine sj_iload_n C 35 rfl dX2_copyFrom_34 rfl rfl ?_
        refine sj_iald C 36 rfl dX2_copyFrom_35 kd_c2 (by show vp_in _ (sj_il S c2); rw [il_c2]; exact vp_in_nI hlt (by omega)) ?_
        refine sj_iast C 37 rfl dX2_copyFrom_36 kd_c (by show vp_in _ (sj_il S c); rw [il_c]; exact vp_in_nI hlt (by omega)) ?_
        refine sj_iinc_2 C 40 rfl dX2_copyFrom_37 rfl rfl ?_
        refine sj_goto C 7 rfl dX2_copyFrom_40 ?_
        rw [sj_n1]
        refine ih hlt _ ?_
        rw [sj_wIa_sIa, nI_clamp (by omega), e1, sj_cp_s]
  refine sj_aload_n C 1 rfl dX2_copyFrom_0 rfl rfl ?_
  refine sj_ifnonnullS C 5 rfl dX2_copyFrom_1 ?_
  refine sj_iconstv C (0) 6 rfl dX2_copyFrom_5 rfl ?_
  refine sj_istore_n_2 C 7 rfl dX2_copyFrom_6 rfl rfl ?_
  exact cut_7 S (by rw [sj_cp_0, sj_sIa_id])
def sj_cu (g k : Nat) (f : Nat → Int32) : Nat → Int32 := fun j => if g ≤ j ∧ j < k then f (j + 1) else f j
theorem sj_cu_0 (g : Nat) (f : Nat → Int32) : sj_cu g g f = f := by
  funext j
  exact if_neg (by omega)
theorem sj_cu_s {g k : Nat} (h : g ≤ k) (f : Nat → Int32) : upd (sj_cu g k f) k (sj_cu g k f (k + 1)) = sj_cu g (k + 1) f := by
  funext j
  have e : sj_cu g k f (k + 1) = f (k + 1) := if_neg (by omega)
  rw [e]
  unfold upd sj_cu
  by_cases h1 : j = k
  · subst h1
    rw [if_pos rfl, if_pos (by omega)]
  · rw [if_neg h1]
    by_cases h2 : g ≤ j ∧ j < k
    · rw [if_pos h2, if_pos (by omega)]
    · rw [if_neg h2, if_neg (by omega)]
set_option maxRecDepth 100000 in
set_option maxHeartbeats 4000000 in
theorem ct_X2_closeUp (l : Launch) {S : sj_St} {r c n g : Nat} (h : sj_rw S r c n) (hg : g < n) : sj_Ctr l mX2_closeUp [.ref r, .int (nI g)] S (sj_eq none (sj_sIa S c (sj_cu g (n - 1) (sj_ia S c)))) := by
  refine sj_start ([some (.ref r), some (.int (nI g)), none]) (by decide +kernel) rfl rfl (fun X hX C hR => ?_)
  subst hX
  obtain ⟨kd_r, rf_r_0, kd_c, il_c, hn⟩ := h
  have cut_10 : ∀ S', S' = sj_sIa S c (sj_cu g g (sj_ia S c)) → sj_G X S' 0 0 [some (.ref r), some (.int (nI g)), some (.int (nI g))] 10 [] := by
    refine sj_downFrom (fun k => ∀ S', S' = sj_sIa S c (sj_cu g k (sj_ia S c)) → sj_G X S' 0 0 [some (.ref r), some (.int (nI g)), some (.int (nI k))] 10 []) g (n - 1) (by omega) (fun k hgk hk ih => ?_)
    intro S' hS'
    subst hS'
    have en : Int32.ofNat (sj_il S c) - 1 = nI (n - 1) := by
      rw [il_c]
      exact sj_nsub (a := n) (b := 1) (by omega)
    refine sj_iload_n C 11 rfl dX2_closeUp_10 rfl rfl ?_
    refine sj_aload_n C 12 rfl dX2_closeUp_11 rfl rfl ?_
    refine sj_getr C 15 rfl fd_X2_7 dX2_closeUp_12 kd_r rf_r_0 ?_
    refine sj_alen8 C 16 rfl dX2_closeUp_15 kd_c ?_
    refine sj_iconstv C (1) 17 rfl dX2_closeUp_16 rfl ?_
    refine sj_isub C 18 rfl dX2_closeUp_17 ?_
    refine sj_icmp_ge C 41 21 rfl rfl dX2_closeUp_18 (fun c_18 => ?_) (fun c_18 => ?_)
    · refine sj_vret C hR rfl rfl dX2_closeUp_41 ?_
      have hkn : k = n - 1 := by
        have h9 : ¬ k < n - 1 := fun h => nI_ge h (by omega) (by rw [← en]; exact c_18)
        omega
      subst hkn
      exact ⟨rfl, rfl⟩
    · have hlt : k < n - 1 := Nat.not_le.mp fun h9 => c_18 (by show Int32.ofNat (sj_il S c) - 1 ≤ nI k; rw [en]; exact nI_le h9 (by omega))
      refine sj_aload_n C 22 rfl dX2_closeUp_21 rfl rfl ?_
      refine sj_getr C 25 rfl fd_X2_7 dX2_closeUp_22 kd_r rf_r_0 ?_
      refine sj_iload_n C 26 rfl dX2_closeUp_25 rfl rfl ?_
      refine sj_aload_n C 27 rfl dX2_closeUp_26 rfl rfl ?_
      refine sj_getr C 30 rfl fd_X2_7 dX2_closeUp_27 kd_r rf_r_0 ?_
      refine sj_iload_n C 31 rfl dX2_closeUp_30 rfl rfl ?_
      refine sj_iconstv C (1) 32 rfl dX2_closeUp_31 rfl ?_
      refine sj_iadd C 33 rfl dX2_closeUp_32 ?_
      refine sj_iald C 34 rfl dX2_closeUp_33 kd_c (by show vp_in (nI k + 1) (sj_il S c); rw [il_c, nI_1]; exact vp_in_nI (by omega) (by omega)) ?_
      refine sj_iast C 35 rfl dX2_closeUp_34 kd_c (by show vp_in _ (sj_il S c); rw [il_c]; exact vp_in_nI (by omega) (by omega)) ?_
      refine sj_iinc_2 C 38 rfl dX2_closeUp_35 rfl rfl ?_
      refine sj_goto C 10 rfl dX2_closeUp_38 ?_
      rw [sj_n1]
      refine ih hlt _ ?_
      rw [sj_wIa_sIa, nI_clamp (by omega), sj_ia_sIa, show nI k + 1 = nI (k + 1) from nI_1 k, nI_clamp (by omega), sj_cu_s hgk]
  refine sj_iload_n C 1 rfl dX2_closeUp_0 rfl rfl ?_
  refine sj_if_ge C 8 4 rfl rfl dX2_closeUp_1 (fun c_1 => ?_) (fun c_1 => ?_)
  · refine sj_iload_n C 9 rfl dX2_closeUp_8 rfl rfl ?_
    refine sj_istore_n_2 C 10 rfl dX2_closeUp_9 rfl rfl ?_
    exact cut_10 S (by rw [sj_cu_0, sj_sIa_id])
  · exact absurd (nI_pos' (by omega)) c_1
