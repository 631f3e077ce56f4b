/-! THE REFERENCE: what changes its rows -/
theorem sj_wFi_wFi (S : sj_St) (a k : Nat) (u v : Int32) : sj_wFi (sj_wFi S a k u) a k v = sj_wFi S a k v := by
  unfold sj_wFi
  dsimp only
  rw [sj_up_self, sj_up_up, sj_up_up]
theorem sj_sIa_wFi (S : sj_St) (a k : Nat) (v : Int32) (c : Nat) (g : Nat → Int32) : sj_sIa (sj_wFi S a k v) c g = sj_wFi (sj_sIa S c g) a k v := rfl
theorem sj_fi_wFi (S : sj_St) (a k : Nat) (v : Int32) : sj_fi (sj_wFi S a k v) a k = v := by
  show (sj_up _ a _ : Nat → Nat → Int32) a k = v
  rw [sj_up_self, sj_up_self]
theorem sj_fi_wFi_k (S : sj_St) (a : Nat) {k j : Nat} (v : Int32) (h : j ≠ k) : sj_fi (sj_wFi S a k v) a j = sj_fi S a j := by
  show (sj_up _ a _ : Nat → Nat → Int32) a j = _
  rw [sj_up_self, sj_up_ne _ _ h]
  rfl
theorem sj_fi_wFi_a (S : sj_St) {a c : Nat} (k j : Nat) (v : Int32) (h : c ≠ a) : sj_fi (sj_wFi S a k v) c j = sj_fi S c j := by
  show (sj_up _ a _ : Nat → Nat → Int32) c j = _
  rw [sj_up_ne _ _ h]
  rfl
/-- from base on, k places of f, the rest of g -/
def sj_cpo (base k : Nat) (f g : Nat → Int32) : Nat → Int32 := fun j => if base ≤ j ∧ j < base + k then f (j - base) else g j
theorem sj_cpo_0 (base : Nat) (f g : Nat → Int32) : sj_cpo base 0 f g = g := by
  funext j
  exact if_neg (by omega)
theorem sj_cpo_s (base k : Nat) (f g : Nat → Int32) : upd (sj_cpo base k f g) (base + k) (f k) = sj_cpo base (k + 1) f g := by
  funext j
  unfold upd sj_cpo
  by_cases h : j = base + k
  · subst h
    rw [if_pos rfl, if_pos ⟨by omega, by omega⟩, Nat.add_sub_cancel_left]
  · rw [if_neg h]
    by_cases h2 : base ≤ j ∧ j < base + k
    · rw [if_pos h2, if_pos ⟨h2.1, by omega⟩]
    · rw [if_neg h2, if_neg (fun h3 => h2 ⟨h3.1, by omega⟩)]
/-- the first k places d further -/
def sj_sh (d k : Nat) (f : Nat → Int32) : Nat → Int32 := fun j => if j < k then f (j + d) else f j
theorem sj_sh_0 (d : Nat) (f : Nat → Int32) : sj_sh d 0 f = f := by
  funext j
  exact if_neg (by omega)
theorem sj_sh_s (d k : Nat) (hd : 0 < d) (f : Nat → Int32) : upd (sj_sh d k f) k (sj_sh d k f (k + d)) = sj_sh d (k + 1) f := by
  have e : sj_sh d k f (k + d) = f (k + d) := if_neg (by omega)
  rw [e]
  funext j
  unfold upd sj_sh
  by_cases h : j = k
  · subst h
    rw [if_pos rfl, if_pos (by omega)]
  · rw [if_neg h]
    by_cases h2 : j < k
    · rw [if_pos h2, if_pos (by omega)]
    · rw [if_neg h2, if_neg (by omega)]
def sj_qn (q : Nat) : Nat := if q = 6 then 5 else q
/-- the saved states, with one more -/
def sj_sv (q : Nat) (m f : Nat → Int32) : Nat → Int32 := sj_cpo (434 * sj_qn q) 434 m (if q = 6 then sj_sh 434 2170 f else f)
set_option maxRecDepth 100000 in
set_option maxHeartbeats 4000000 in
theorem ct_X7_keep (l : Launch) {S : sj_St} {h : Nat} {b : Nat → Nat} {m : Nat → Int32} (hm : sj_mm S h b m) : sj_Ctr l mX7_keep [.ref h] S (sj_eq (some (.int (m 9))) (sj_wFi (sj_sIa (sj_wFi S h 0 0) (b 5) (sj_cp 434 m (sj_ia S (b 5)))) h 6 1)) := by
  refine sj_start ([some (.ref h), none]) (by decide +kernel) rfl rfl (fun X hX C hR => ?_)
  subst hX
  have hm0 := hm
  obtain ⟨hm', em⟩ := hm0
  subst em
  obtain ⟨kd_h, ⟨rf_h_1, kd_a1, il_a1⟩, ⟨rf_h_2, kd_a2, il_a2⟩, ⟨rf_h_3, kd_a3, il_a3⟩, ⟨rf_h_5, kd_a5, il_a5⟩, ⟨rf_h_7, kd_a7, il_a7⟩, ⟨rf_h_13, kd_a13, il_a13⟩, ⟨rf_h_15, kd_a15, il_a15⟩, hinj⟩ := hm'
  have cut_7 : ∀ S', S' = (sj_sIa (sj_wFi S h 0 0) (b 5) (sj_cp 0 (sj_ia S (b 1)) (sj_ia S (b 5)))) → sj_G X S' 0 0 [some (.ref h), some (.int (nI 0))] 7 [] := by
    refine sj_down (fun k => ∀ S', S' = (sj_sIa (sj_wFi S h 0 0) (b 5) (sj_cp k (sj_ia S (b 1)) (sj_ia S (b 5)))) → sj_G X S' 0 0 [some (.ref h), some (.int (nI k))] 7 []) 434 (fun k hk ih => ?_)
    intro S' hS'
    subst hS'
    have esrc : sj_ia (sj_sIa (sj_wFi S h 0 0) (b 5) (sj_cp k (sj_ia S (b 1)) (sj_ia S (b 5)))) (b 1) = sj_ia S (b 1) := sj_ia_sIa_ne _ _ (sj_mo_ne hm.1 (i := 1) (j := 5) (by omega) (by omega) (by omega))
    refine sj_iload_n C 8 rfl dX7_keep_7 rfl rfl ?_
    refine sj_sipush C (434) 11 rfl dX7_keep_8 (by decide) ?_
    refine sj_icmp_ge C 32 14 rfl rfl dX7_keep_11 (fun c_11 => ?_) (fun c_11 => ?_)
    · have hkn : k = 434 := by
        have h8 : ¬ k < 434 := fun h7 => nI_ge (b := 434) h7 (by omega) c_11
        omega
      subst hkn
      refine sj_aload_n C 33 rfl dX7_keep_32 rfl rfl ?_
      refine sj_iconstv C (1) 34 rfl dX7_keep_33 rfl ?_
      refine sj_putI C 37 rfl fd_X7_50 dX7_keep_34 rfl rfl kd_h ?_
      refine sj_aload_n C 38 rfl dX7_keep_37 rfl rfl ?_
      refine sj_getr C 41 rfl fd_X7_7 dX7_keep_38 kd_h rf_h_1 ?_
      refine sj_bipush C (9) 43 rfl dX7_keep_41 (by decide) ?_
      refine sj_iald C 44 rfl dX7_keep_43 kd_a1 (by show vp_in (nI 9) (sj_il S (b 1)); rw [il_a1]; exact vp_in_nI (by omega) (by omega)) ?_
      refine sj_iret C hR rfl rfl dX7_keep_44 ?_
      refine ⟨congrArg (fun z => some (Value.int z)) ?_, rfl⟩
      exact congrFun esrc 9
    · have hlt : k < 434 := Nat.not_le.mp fun h8 => c_11 (nI_le (a := 434) h8 (by omega))
      refine sj_aload_n C 15 rfl dX7_keep_14 rfl rfl ?_
      refine sj_getr C 18 rfl fd_X7_19 dX7_keep_15 kd_h rf_h_5 ?_
      refine sj_iload_n C 19 rfl dX7_keep_18 rfl rfl ?_
      refine sj_aload_n C 20 rfl dX7_keep_19 rfl rfl ?_
      refine sj_getr C 23 rfl fd_X7_7 dX7_keep_20 kd_h rf_h_1 ?_
      refine sj_iload_n C 24 rfl dX7_keep_23 rfl rfl ?_
      refine sj_iald C 25 rfl dX7_keep_24 kd_a1 (by show vp_in (nI k) (sj_il S (b 1)); rw [il_a1]; exact vp_in_nI (by omega) (by omega)) ?_
      refine sj_iast C 26 rfl dX7_keep_25 kd_a5 (by show vp_in (nI k) (sj_il S (b 5)); rw [il_a5]; exact vp_in_nI (by omega) (by omega)) ?_
      refine sj_iinc_1 C 29 rfl dX7_keep_26 rfl rfl ?_
      refine sj_goto C 7 rfl dX7_keep_29 ?_
      rw [sj_n1]
      refine ih hlt _ ?_
      rw [sj_wIa_sIa, nI_clamp (by omega), esrc, sj_cp_s]
  refine sj_aload_n C 1 rfl dX7_keep_0 rfl rfl ?_
  refine sj_iconstv C (0) 2 rfl dX7_keep_1 rfl ?_
  refine sj_putI C 5 rfl fd_X7_31 dX7_keep_2 rfl rfl kd_h ?_
  refine sj_iconstv C (0) 6 rfl dX7_keep_5 rfl ?_
  refine sj_istore_n_1 C 7 rfl dX7_keep_6 rfl rfl ?_
  exact cut_7 _ (by rw [sj_cp_0]; exact (sj_sIa_id (sj_wFi S h 0 0) _).symm)
set_option maxRecDepth 100000 in
set_option maxHeartbeats 4000000 in
theorem ct_X7_putAside (l : Launch) {S : sj_St} {h : Nat} {b : Nat → Nat} {m : Nat → Int32} (hm : sj_mm S h b m) : sj_Ctr l mX7_putAside [.ref h] S (sj_eq none (sj_sIa S (b 2) (sj_cp 434 m (sj_ia S (b 2))))) := by
  refine sj_start ([some (.ref h), none]) (by decide +kernel) rfl rfl (fun X hX C hR => ?_)
  subst hX
  have hm0 := hm
  obtain ⟨hm', em⟩ := hm0
  subst em
  obtain ⟨kd_h, ⟨rf_h_1, kd_a1, il_a1⟩, ⟨rf_h_2, kd_a2, il_a2⟩, ⟨rf_h_3, kd_a3, il_a3⟩, ⟨rf_h_5, kd_a5, il_a5⟩, ⟨rf_h_7, kd_a7, il_a7⟩, ⟨rf_h_13, kd_a13, il_a13⟩, ⟨rf_h_15, kd_a15, il_a15⟩, hinj⟩ := hm'
  have cut_2 : ∀ S', S' = (sj_sIa S (b 2) (sj_cp 0 (sj_ia S (b 1)) (sj_ia S (b 2)))) → sj_G X S' 0 0 [some (.ref h), some (.int (nI 0))] 2 [] := by
    refine sj_down (fun k => ∀ S', S' = (sj_sIa S (b 2) (sj_cp k (sj_ia S (b 1)) (sj_ia S (b 2)))) → sj_G X S' 0 0 [some (.ref h), some (.int (nI k))] 2 []) 434 (fun k hk ih => ?_)
    intro S' hS'
    subst hS'
    have esrc : sj_ia (sj_sIa S (b 2) (sj_cp k (sj_ia S (b 1)) (sj_ia S (b 2)))) (b 1) = sj_ia S (b 1) := sj_ia_sIa_ne _ _ (sj_mo_ne hm.1 (i := 1) (j := 2) (by omega) (by omega) (by omega))
    refine sj_iload_n C 3 rfl dX7_putAside_2 rfl rfl ?_
    refine sj_sipush C (434) 6 rfl dX7_putAside_3 (by decide) ?_
    refine sj_icmp_ge C 27 9 rfl rfl dX7_putAside_6 (fun c_6 => ?_) (fun c_6 => ?_)
    · refine sj_vret C hR rfl rfl dX7_putAside_27 ?_
      have hkn : k = 434 := by
        have h8 : ¬ k < 434 := fun h7 => nI_ge (b := 434) h7 (by omega) c_6
        omega
      subst hkn
      exact ⟨rfl, rfl⟩
    · have hlt : k < 434 := Nat.not_le.mp fun h8 => c_6 (nI_le (a := 434) h8 (by omega))
      refine sj_aload_n C 10 rfl dX7_putAside_9 rfl rfl ?_
      refine sj_getr C 13 rfl fd_X7_13 dX7_putAside_10 kd_h rf_h_2 ?_
      refine sj_iload_n C 14 rfl dX7_putAside_13 rfl rfl ?_
      refine sj_aload_n C 15 rfl dX7_putAside_14 rfl rfl ?_
      refine sj_getr C 18 rfl fd_X7_7 dX7_putAside_15 kd_h rf_h_1 ?_
      refine sj_iload_n C 19 rfl dX7_putAside_18 rfl rfl ?_
      refine sj_iald C 20 rfl dX7_putAside_19 kd_a1 (by show vp_in (nI k) (sj_il S (b 1)); rw [il_a1]; exact vp_in_nI (by omega) (by omega)) ?_
      refine sj_iast C 21 rfl dX7_putAside_20 kd_a2 (by show vp_in (nI k) (sj_il S (b 2)); rw [il_a2]; exact vp_in_nI (by omega) (by omega)) ?_
      refine sj_iinc_1 C 24 rfl dX7_putAside_21 rfl rfl ?_
      refine sj_goto C 2 rfl dX7_putAside_24 ?_
      rw [sj_n1]
      refine ih hlt _ ?_
      rw [sj_wIa_sIa, nI_clamp (by omega), esrc, sj_cp_s]
  refine sj_iconstv C (0) 1 rfl dX7_putAside_0 rfl ?_
  refine sj_istore_n_1 C 2 rfl dX7_putAside_1 rfl rfl ?_
  exact cut_2 _ (by rw [sj_cp_0]; exact (sj_sIa_id S _).symm)
set_option maxRecDepth 100000 in
set_option maxHeartbeats 4000000 in
theorem ct_X7_takeBack (l : Launch) {S : sj_St} {h : Nat} {b : Nat → Nat} {m : Nat → Int32} (hm : sj_mm S h b m) : sj_Ctr l mX7_takeBack [.ref h] S (sj_eq none (sj_sIa S (b 1) (sj_cp 434 (sj_ia S (b 2)) m))) := by
  refine sj_start ([some (.ref h), none]) (by decide +kernel) rfl rfl (fun X hX C hR => ?_)
  subst hX
  have hm0 := hm
  obtain ⟨hm', em⟩ := hm0
  subst em
  obtain ⟨kd_h, ⟨rf_h_1, kd_a1, il_a1⟩, ⟨rf_h_2, kd_a2, il_a2⟩, ⟨rf_h_3, kd_a3, il_a3⟩, ⟨rf_h_5, kd_a5, il_a5⟩, ⟨rf_h_7, kd_a7, il_a7⟩, ⟨rf_h_13, kd_a13, il_a13⟩, ⟨rf_h_15, kd_a15, il_a15⟩, hinj⟩ := hm'
  have cut_2 : ∀ S', S' = (sj_sIa S (b 1) (sj_cp 0 (sj_ia S (b 2)) (sj_ia S (b 1)))) → sj_G X S' 0 0 [some (.ref h), some (.int (nI 0))] 2 [] := by
    refine sj_down (fun k => ∀ S', S' = (sj_sIa S (b 1) (sj_cp k (sj_ia S (b 2)) (sj_ia S (b 1)))) → sj_G X S' 0 0 [some (.ref h), some (.int (nI k))] 2 []) 434 (fun k hk ih => ?_)
    intro S' hS'
    subst hS'
    have esrc : sj_ia (sj_sIa S (b 1) (sj_cp k (sj_ia S (b 2)) (sj_ia S (b 1)))) (b 2) = sj_ia S (b 2) := sj_ia_sIa_ne _ _ (sj_mo_ne hm.1 (i := 2) (j := 1) (by omega) (by omega) (by omega))
    refine sj_iload_n C 3 rfl dX7_takeBack_2 rfl rfl ?_
    refine sj_sipush C (434) 6 rfl dX7_takeBack_3 (by decide) ?_
    refine sj_icmp_ge C 27 9 rfl rfl dX7_takeBack_6 (fun c_6 => ?_) (fun c_6 => ?_)
    · refine sj_vret C hR rfl rfl dX7_takeBack_27 ?_
      have hkn : k = 434 := by
        have h8 : ¬ k < 434 := fun h7 => nI_ge (b := 434) h7 (by omega) c_6
        omega
      subst hkn
      exact ⟨rfl, rfl⟩
    · have hlt : k < 434 := Nat.not_le.mp fun h8 => c_6 (nI_le (a := 434) h8 (by omega))
      refine sj_aload_n C 10 rfl dX7_takeBack_9 rfl rfl ?_
      refine sj_getr C 13 rfl fd_X7_7 dX7_takeBack_10 kd_h rf_h_1 ?_
      refine sj_iload_n C 14 rfl dX7_takeBack_13 rfl rfl ?_
      refine sj_aload_n C 15 rfl dX7_takeBack_14 rfl rfl ?_
      refine sj_getr C 18 rfl fd_X7_13 dX7_takeBack_15 kd_h rf_h_2 ?_
      refine sj_iload_n C 19 rfl dX7_takeBack_18 rfl rfl ?_
      refine sj_iald C 20 rfl dX7_takeBack_19 kd_a2 (by show vp_in (nI k) (sj_il S (b 2)); rw [il_a2]; exact vp_in_nI (by omega) (by omega)) ?_
      refine sj_iast C 21 rfl dX7_takeBack_20 kd_a1 (by show vp_in (nI k) (sj_il S (b 1)); rw [il_a1]; exact vp_in_nI (by omega) (by omega)) ?_
      refine sj_iinc_1 C 24 rfl dX7_takeBack_21 rfl rfl ?_
      refine sj_goto C 2 rfl dX7_takeBack_24 ?_
      rw [sj_n1]
      refine ih hlt _ ?_
      rw [sj_wIa_sIa, nI_clamp (by omega), esrc, sj_cp_s]
  refine sj_iconstv C (0) 1 rfl dX7_takeBack_0 rfl ?_
  refine sj_istore_n_1 C 2 rfl dX7_takeBack_1 rfl rfl ?_
  exact cut_2 _ (by rw [sj_cp_0]; exact (sj_sIa_id S _).symm)
set_option maxRecDepth 100000 in
set_option maxHeartbeats 4000000 in
theorem ct_X7_save_a (l : Launch) {S : sj_St} {h : Nat} {b : Nat → Nat} {m : Nat → Int32} (hm : sj_mm S h b m) (q : Nat) (hq : q ≤ 5) (hq4 : sj_fi S h 4 = nI q) : sj_Ctr l mX7_save [.ref h] S (sj_eq none (sj_wFi (sj_sIa S (b 3) (sj_sv q m (sj_ia S (b 3)))) h 4 (nI (sj_qn q + 1)))) := by
  refine sj_start ([some (.ref h), none]) (by decide +kernel) rfl rfl (fun X hX C hR => ?_)
  subst hX
  have hm0 := hm
  obtain ⟨hm', em⟩ := hm0
  subst em
  obtain ⟨kd_h, ⟨rf_h_1, kd_a1, il_a1⟩, ⟨rf_h_2, kd_a2, il_a2⟩, ⟨rf_h_3, kd_a3, il_a3⟩, ⟨rf_h_5, kd_a5, il_a5⟩, ⟨rf_h_7, kd_a7, il_a7⟩, ⟨rf_h_13, kd_a13, il_a13⟩, ⟨rf_h_15, kd_a15, il_a15⟩, hinj⟩ := hm'
  have cut_52 : ∀ S', S' = (sj_sIa S (b 3) (sj_cpo (434 * q) 0 (sj_ia S (b 1)) (sj_ia S (b 3)))) → sj_G X S' 0 0 [some (.ref h), some (.int (nI 0))] 52 [] := by
    refine sj_down (fun k => ∀ S', S' = (sj_sIa S (b 3) (sj_cpo (434 * q) k (sj_ia S (b 1)) (sj_ia S (b 3)))) → sj_G X S' 0 0 [some (.ref h), some (.int (nI k))] 52 []) 434 (fun k hk ih => ?_)
    intro S' hS'
    subst hS'
    have esrc : sj_ia (sj_sIa S (b 3) (sj_cpo (434 * q) k (sj_ia S (b 1)) (sj_ia S (b 3)))) (b 1) = (sj_ia S (b 1)) := (sj_ia_sIa_ne _ _ (sj_mo_ne hm.1 (i := 1) (j := 3) (by omega) (by omega) (by omega)))
    have efi : sj_fi (sj_sIa S (b 3) (sj_cpo (434 * q) k (sj_ia S (b 1)) (sj_ia S (b 3)))) h 4 = nI q := hq4
    have eidx : sj_fi (sj_sIa S (b 3) (sj_cpo (434 * q) k (sj_ia S (b 1)) (sj_ia S (b 3)))) h 4 * 434 + nI k = nI (434 * q + k) := by
      rw [efi, show (434 : Int32) = nI 434 from rfl, sj_nmul, nI_add, Nat.mul_comm]
    refine sj_iload_n C 53 rfl dX7_save_52 rfl rfl ?_
    refine sj_sipush C (434) 56 rfl dX7_save_53 (by decide) ?_
    refine sj_icmp_ge C 86 59 rfl rfl dX7_save_56 (fun c_56 => ?_) (fun c_56 => ?_)
    · have hkn : k = 434 := by
        have h8 : ¬ k < 434 := fun h7 => nI_ge (b := 434) h7 (by omega) c_56
        omega
      subst hkn
      refine sj_aload_n C 87 rfl dX7_save_86 rfl rfl ?_
      refine sj_dup C 88 rfl dX7_save_87 rfl ?_
      refine sj_getI C 91 rfl fd_X7_43 dX7_save_88 kd_h ?_
      refine sj_iconstv C (1) 92 rfl dX7_save_91 rfl ?_
      refine sj_iadd C 93 rfl dX7_save_92 ?_
      rw [efi, nI_1]
      refine sj_putI C 96 rfl fd_X7_43 dX7_save_93 rfl rfl kd_h ?_
      refine sj_vret C hR rfl rfl dX7_save_96 ?_
      refine ⟨rfl, ?_⟩
      unfold sj_sv sj_qn
      rw [if_neg (by omega), if_neg (by omega)]
    · have hlt : k < 434 := Nat.not_le.mp fun h8 => c_56 (nI_le (a := 434) h8 (by omega))
      refine sj_aload_n C 60 rfl dX7_save_59 rfl rfl ?_
      refine sj_getr C 63 rfl fd_X7_16 dX7_save_60 kd_h rf_h_3 ?_
      refine sj_aload_n C 64 rfl dX7_save_63 rfl rfl ?_
      refine sj_getI C 67 rfl fd_X7_43 dX7_save_64 kd_h ?_
      refine sj_sipush C (434) 70 rfl dX7_save_67 (by decide) ?_
      refine sj_imul C 71 rfl dX7_save_70 ?_
      refine sj_iload_n C 72 rfl dX7_save_71 rfl rfl ?_
      refine sj_iadd C 73 rfl dX7_save_72 ?_
      rw [eidx]
      refine sj_aload_n C 74 rfl dX7_save_73 rfl rfl ?_
      refine sj_getr C 77 rfl fd_X7_7 dX7_save_74 kd_h rf_h_1 ?_
      refine sj_iload_n C 78 rfl dX7_save_77 rfl rfl ?_
      refine sj_iald C 79 rfl dX7_save_78 kd_a1 (by show vp_in (nI k) (sj_il S (b 1)); rw [il_a1]; exact vp_in_nI (by omega) (by omega)) ?_
      refine sj_iast C 80 rfl dX7_save_79 kd_a3 (by show vp_in (nI (434 * q + k)) (sj_il S (b 3)); rw [il_a3]; exact vp_in_nI (by omega) (by omega)) ?_
      refine sj_iinc_1 C 83 rfl dX7_save_80 rfl rfl ?_
      refine sj_goto C 52 rfl dX7_save_83 ?_
      rw [sj_n1]
      refine ih hlt _ ?_
      rw [sj_wIa_sIa, nI_clamp (by omega), nI_clamp (by omega), esrc, sj_cpo_s]
  refine sj_aload_n C 1 rfl dX7_save_0 rfl rfl ?_
  refine sj_getI C 4 rfl fd_X7_43 dX7_save_1 kd_h ?_
  refine sj_bipush C (6) 6 rfl dX7_save_4 (by decide) ?_
  refine sj_icmp_ne C 50 9 rfl rfl dX7_save_6 (fun c_6 => ?_) (fun c_6 => ?_)
  · refine sj_iconstv C (0) 51 rfl dX7_save_50 rfl ?_
    refine sj_istore_n_1 C 52 rfl dX7_save_51 rfl rfl ?_
    exact cut_52 _ (by rw [sj_cpo_0]; exact (sj_sIa_id S _).symm)
  · exact absurd (by rw [← hq4]; exact c_6) (fun e9 : nI q = nI 6 => by have := (nI_eq (by omega) (by omega)).mp e9; omega)
set_option maxRecDepth 100000 in
set_option maxHeartbeats 4000000 in
theorem ct_X7_save_b (l : Launch) {S : sj_St} {h : Nat} {b : Nat → Nat} {m : Nat → Int32} (hm : sj_mm S h b m) (hq4 : sj_fi S h 4 = nI 6) : sj_Ctr l mX7_save [.ref h] S (sj_eq none (sj_wFi (sj_sIa S (b 3) (sj_sv 6 m (sj_ia S (b 3)))) h 4 (nI (sj_qn 6 + 1)))) := by
  refine sj_start ([some (.ref h), none]) (by decide +kernel) rfl rfl (fun X hX C hR => ?_)
  subst hX
  have hm0 := hm
  obtain ⟨hm', em⟩ := hm0
  subst em
  obtain ⟨kd_h, ⟨rf_h_1, kd_a1, il_a1⟩, ⟨rf_h_2, kd_a2, il_a2⟩, ⟨rf_h_3, kd_a3, il_a3⟩, ⟨rf_h_5, kd_a5, il_a5⟩, ⟨rf_h_7, kd_a7, il_a7⟩, ⟨rf_h_13, kd_a13, il_a13⟩, ⟨rf_h_15, kd_a15, il_a15⟩, hinj⟩ := hm'
  have cut_52 : ∀ S', S' = (sj_sIa (sj_wFi (sj_sIa S (b 3) (sj_sh 434 2170 (sj_ia S (b 3)))) h 4 (nI 5)) (b 3) (sj_cpo (434 * 5) 0 (sj_ia S (b 1)) (sj_sh 434 2170 (sj_ia S (b 3))))) → sj_G X S' 0 0 [some (.ref h), some (.int (nI 0))] 52 [] := by
    refine sj_down (fun k => ∀ S', S' = (sj_sIa (sj_wFi (sj_sIa S (b 3) (sj_sh 434 2170 (sj_ia S (b 3)))) h 4 (nI 5)) (b 3) (sj_cpo (434 * 5) k (sj_ia S (b 1)) (sj_sh 434 2170 (sj_ia S (b 3))))) → sj_G X S' 0 0 [some (.ref h), some (.int (nI k))] 52 []) 434 (fun k hk ih => ?_)
    intro S' hS'
    subst hS'
    have esrc : sj_ia (sj_sIa (sj_wFi (sj_sIa S (b 3) (sj_sh 434 2170 (sj_ia S (b 3)))) h 4 (nI 5)) (b 3) (sj_cpo (434 * 5) k (sj_ia S (b 1)) (sj_sh 434 2170 (sj_ia S (b 3))))) (b 1) = (sj_ia S (b 1)) := (sj_ia_sIa_ne _ _ (sj_mo_ne hm.1 (i := 1) (j := 3) (by omega) (by omega) (by omega))).trans (sj_ia_sIa_ne S _ (sj_mo_ne hm.1 (i := 1) (j := 3) (by omega) (by omega) (by omega)))
    have efi : sj_fi (sj_sIa (sj_wFi (sj_sIa S (b 3) (sj_sh 434 2170 (sj_ia S (b 3)))) h 4 (nI 5)) (b 3) (sj_cpo (434 * 5) k (sj_ia S (b 1)) (sj_sh 434 2170 (sj_ia S (b 3))))) h 4 = nI 5 := sj_fi_wFi _ h 4 (nI 5)
    have eidx : sj_fi (sj_sIa (sj_wFi (sj_sIa S (b 3) (sj_sh 434 2170 (sj_ia S (b 3)))) h 4 (nI 5)) (b 3) (sj_cpo (434 * 5) k (sj_ia S (b 1)) (sj_sh 434 2170 (sj_ia S (b 3))))) h 4 * 434 + nI k = nI (434 * 5 + k) := by
      rw [efi, show (434 : Int32) = nI 434 from rfl, sj_nmul, nI_add, Nat.mul_comm]
    refine sj_iload_n C 53 rfl dX7_save_52 rfl rfl ?_
    refine sj_sipush C (434) 56 rfl dX7_save_53 (by decide) ?_
    refine sj_icmp_ge C 86 59 rfl rfl dX7_save_56 (fun c_56 => ?_) (fun c_56 => ?_)
    · have hkn : k = 434 := by
        have h8 : ¬ k < 434 := fun h7 => nI_ge (b := 434) h7 (by omega) c_56
        omega
      subst hkn
      refine sj_aload_n C 87 rfl dX7_save_86 rfl rfl ?_
      refine sj_dup C 88 rfl dX7_save_87 rfl ?_
      refine sj_getI C 91 rfl fd_X7_43 dX7_save_88 kd_h ?_
      refine sj_iconstv C (1) 92 rfl dX7_save_91 rfl ?_
      refine sj_iadd C 93 rfl dX7_save_92 ?_
      rw [efi, nI_1]
      refine sj_putI C 96 rfl fd_X7_43 dX7_save_93 rfl rfl kd_h ?_
      refine sj_vret C hR rfl rfl dX7_save_96 ?_
      refine ⟨rfl, ?_⟩
      rw [sj_sIa_wFi, sj_wFi_wFi, sj_sIa_sIa]
      rfl
    · have hlt : k < 434 := Nat.not_le.mp fun h8 => c_56 (nI_le (a := 434) h8 (by omega))
      refine sj_aload_n C 60 rfl dX7_save_59 rfl rfl ?_
      refine sj_getr C 63 rfl fd_X7_16 dX7_save_60 kd_h rf_h_3 ?_
      refine sj_aload_n C 64 rfl dX7_save_63 rfl rfl ?_
      refine sj_getI C 67 rfl fd_X7_43 dX7_save_64 kd_h ?_
      refine sj_sipush C (434) 70 rfl dX7_save_67 (by decide) ?_
      refine sj_imul C 71 rfl dX7_save_70 ?_
      refine sj_iload_n C 72 rfl dX7_save_71 rfl rfl ?_
      refine sj_iadd C 73 rfl dX7_save_72 ?_
      rw [eidx]
      refine sj_aload_n C 74 rfl dX7_save_73 rfl rfl ?_
      refine sj_getr C 77 rfl fd_X7_7 dX7_save_74 kd_h rf_h_1 ?_
      refine sj_iload_n C 78 rfl dX7_save_77 rfl rfl ?_
      refine sj_iald C 79 rfl dX7_save_78 kd_a1 (by show vp_in (nI k) (sj_il S (b 1)); rw [il_a1]; exact vp_in_nI (by omega) (by omega)) ?_
      refine sj_iast C 80 rfl dX7_save_79 kd_a3 (by show vp_in (nI (434 * 5 + k)) (sj_il S (b 3)); rw [il_a3]; exact vp_in_nI (by omega) (by omega)) ?_
      refine sj_iinc_1 C 83 rfl dX7_save_80 rfl rfl ?_
      refine sj_goto C 52 rfl dX7_save_83 ?_
      rw [sj_n1]
      refine ih hlt _ ?_
      rw [sj_wIa_sIa, nI_clamp (by omega), nI_clamp (by omega), esrc, sj_cpo_s]
  have cut_11 : ∀ S', S' = (sj_sIa S (b 3) (sj_sh 434 0 (sj_ia S (b 3)))) → sj_G X S' 0 0 [some (.ref h), some (.int (nI 0))] 11 [] := by
    refine sj_down (fun k => ∀ S', S' = (sj_sIa S (b 3) (sj_sh 434 k (sj_ia S (b 3)))) → sj_G X S' 0 0 [some (.ref h), some (.int (nI k))] 11 []) 2170 (fun k hk ih => ?_)
    intro S' hS'
    subst hS'
    have e3k : sj_ia (sj_sIa S (b 3) (sj_sh 434 k (sj_ia S (b 3)))) (b 3) = sj_sh 434 k (sj_ia S (b 3)) := sj_ia_sIa S _ _
    refine sj_iload_n C 12 rfl dX7_save_11 rfl rfl ?_
    refine sj_sipush C (2170) 15 rfl dX7_save_12 (by decide) ?_
    refine sj_icmp_ge C 40 18 rfl rfl dX7_save_15 (fun c_15 => ?_) (fun c_15 => ?_)
    · have hkn : k = 2170 := by
        have h8 : ¬ k < 2170 := fun h7 => nI_ge (b := 2170) h7 (by omega) c_15
        omega
      subst hkn
      refine sj_aload_n C 41 rfl dX7_save_40 rfl rfl ?_
      refine sj_dup C 42 rfl dX7_save_41 rfl ?_
      refine sj_getI C 45 rfl fd_X7_43 dX7_save_42 kd_h ?_
      refine sj_iconstv C (1) 46 rfl dX7_save_45 rfl ?_
      refine sj_isub C 47 rfl dX7_save_46 ?_
      rw [show sj_fi (sj_sIa S (b 3) (sj_sh 434 2170 (sj_ia S (b 3)))) h 4 - 1 = nI 5 from by rw [show sj_fi (sj_sIa S (b 3) (sj_sh 434 2170 (sj_ia S (b 3)))) h 4 = nI 6 from hq4]; rfl]
      refine sj_putI C 50 rfl fd_X7_43 dX7_save_47 rfl rfl kd_h ?_
      refine sj_iconstv C (0) 51 rfl dX7_save_50 rfl ?_
      refine sj_istore_n_1 C 52 rfl dX7_save_51 rfl rfl ?_
      exact cut_52 _ ((sj_sIa_id (sj_wFi (sj_sIa S (b 3) (sj_sh 434 2170 (sj_ia S (b 3)))) h 4 (nI 5)) (b 3)).symm.trans (congrArg (sj_sIa (sj_wFi (sj_sIa S (b 3) (sj_sh 434 2170 (sj_ia S (b 3)))) h 4 (nI 5)) (b 3)) ((sj_ia_sIa S (b 3) (sj_sh 434 2170 (sj_ia S (b 3)))).trans (sj_cpo_0 _ _ _).symm)))
    · have hlt : k < 2170 := Nat.not_le.mp fun h8 => c_15 (nI_le (a := 2170) h8 (by omega))
      refine sj_aload_n C 19 rfl dX7_save_18 rfl rfl ?_
      refine sj_getr C 22 rfl fd_X7_16 dX7_save_19 kd_h rf_h_3 ?_
      refine sj_iload_n C 23 rfl dX7_save_22 rfl rfl ?_
      refine sj_aload_n C 24 rfl dX7_save_23 rfl rfl ?_
      refine sj_getr C 27 rfl fd_X7_16 dX7_save_24 kd_h rf_h_3 ?_
      refine sj_iload_n C 28 rfl dX7_save_27 rfl rfl ?_
      refine sj_sipush C (434) 31 rfl dX7_save_28 (by decide) ?_
      refine sj_iadd C 32 rfl dX7_save_31 ?_
      rw [show nI k + 434 = nI (k + 434) from nI_add k 434]
      refine sj_iald C 33 rfl dX7_save_32 kd_a3 (by show vp_in (nI (k + 434)) (sj_il S (b 3)); rw [il_a3]; exact vp_in_nI (by omega) (by omega)) ?_
      refine sj_iast C 34 rfl dX7_save_33 kd_a3 (by show vp_in (nI k) (sj_il S (b 3)); rw [il_a3]; exact vp_in_nI (by omega) (by omega)) ?_
      refine sj_iinc_1 C 37 rfl dX7_save_34 rfl rfl ?_
      refine sj_goto C 11 rfl dX7_save_37 ?_
      rw [sj_n1]
      refine ih hlt _ ?_
      rw [sj_wIa_sIa, nI_clamp (by omega), e3k, nI_clamp (by omega), sj_sh_s _ _ (by omega)]
  refine sj_aload_n C 1 rfl dX7_save_0 rfl rfl ?_
  refine sj_getI C 4 rfl fd_X7_43 dX7_save_1 kd_h ?_
  refine sj_bipush C (6) 6 rfl dX7_save_4 (by decide) ?_
  refine sj_icmp_ne C 50 9 rfl rfl dX7_save_6 (fun c_6 => ?_) (fun c_6 => ?_)
  · exact absurd hq4 c_6
  · refine sj_iconstv C (0) 10 rfl dX7_save_9 rfl ?_
    refine sj_istore_n_1 C 11 rfl dX7_save_10 rfl rfl ?_
    exact cut_11 _ (by rw [sj_sh_0]; exact (sj_sIa_id S _).symm)
theorem ct_X7_save (l : Launch) {S : sj_St} {h : Nat} {b : Nat → Nat} {m : Nat → Int32} (hm : sj_mm S h b m) (q : Nat) (hq : q ≤ 6) (hq4 : sj_fi S h 4 = nI q) : sj_Ctr l mX7_save [.ref h] S (sj_eq none (sj_wFi (sj_sIa S (b 3) (sj_sv q m (sj_ia S (b 3)))) h 4 (nI (sj_qn q + 1)))) := by
  by_cases h6 : q = 6
  · subst h6
    exact ct_X7_save_b l hm hq4
  · exact ct_X7_save_a l hm q (by omega) hq4
