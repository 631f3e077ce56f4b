/-! THE CLASS: its saved states -/
def sq_hl (S : sj_St) (H sl : Nat) (Ts : Nat → Nat → Nat) : Prop := sj_kd S H = some 0 ∧ sj_rf S H 0 = some sl ∧ sj_kd S sl = some 10 ∧ sj_il S sl = 6 ∧ ∀ j, j < 6 → sj_ra S sl j = some (Ts j 0)
theorem sq_kd_fr {P : Nat → Prop} {S T : sj_St} (h : sq_fr P S T) {a c : Nat} (g : sj_kd S a = some c) : sj_kd T a = some c := (congrFun h.1 a).trans g
def sq_n6 (p : Nat) : Nat := if p + 1 < 6 then p + 1 else 0
def sq_p6 (p : Nat) : Nat := if 0 < p then p - 1 else 5
theorem sq_n6_lt (p : Nat) : sq_n6 p < 6 := by
  unfold sq_n6
  split <;> omega
theorem sq_p6_lt {p : Nat} (h : p < 6) : sq_p6 p < 6 := by
  unfold sq_p6
  split <;> omega
def sq_sv1 (S : sj_St) (H : Nat) (Ts : Nat → Nat → Nat) (D : Nat → Nat) (p : Nat) : sj_St := sq_to (sj_wFi S H 1 (nI (sq_n6 p))) (Ts (sq_n6 p)) D
def sq_svS (S : sj_St) (H : Nat) (Ts : Nat → Nat → Nat) (D : Nat → Nat) (p q : Nat) : sj_St := if q < 6 then sj_wFi (sq_sv1 S H Ts D p) H 2 (nI (q + 1)) else sq_sv1 S H Ts D p
def sq_bbS (S : sj_St) (H : Nat) (Ts : Nat → Nat → Nat) (D : Nat → Nat) (p q : Nat) : sj_St := sj_wFi (sj_wFi (sq_to S D (Ts p)) H 1 (nI (sq_p6 p))) H 2 (nI (q - 1))
set_option maxRecDepth 100000 in
set_option maxHeartbeats 150000 in
theorem ct_X0_newestSlot (l : Launch) {S : sj_St} {H sl : Nat} {Ts : Nat → Nat → Nat} (hh : sq_hl S H sl Ts) {p : Nat} (hp : p < 6) (h1 : sj_fi S H 1 = nI p) : sj_Ctr l mX0_newestSlot [.ref H] S (sj_eq (some (.ref (Ts p 0))) S) := by
  refine sj_start ([some (.ref H)]) (by decide +kernel) rfl rfl (fun X hX C hR => ?_)
  subst hX
  obtain ⟨kd_h, rf_h_0, kd_sl, il_sl, hsl⟩ := id hh
  refine sj_aload_n C 1 rfl dX0_newestSlot_0 rfl rfl ?_
  refine sj_getI C 4 rfl fd_X0_18 dX0_newestSlot_1 kd_h ?_
  refine sj_if_lt C 31 7 rfl rfl dX0_newestSlot_4 (fun c_4 => ?_) (fun c_4 => ?_)
  · exact absurd (show nI p < 0 by rw [← h1]; exact c_4) (nI_pos (by omega))
  · refine sj_aload_n C 8 rfl dX0_newestSlot_7 rfl rfl ?_
    refine sj_getI C 11 rfl fd_X0_18 dX0_newestSlot_8 kd_h ?_
    refine sj_aload_n C 12 rfl dX0_newestSlot_11 rfl rfl ?_
    refine sj_getr C 15 rfl fd_X0_11 dX0_newestSlot_12 kd_h rf_h_0 ?_
    refine sj_alen10 C 16 rfl dX0_newestSlot_15 kd_sl ?_
    refine sj_icmp_ge C 31 19 rfl rfl dX0_newestSlot_16 (fun c_16 => ?_) (fun c_16 => ?_)
    · exact absurd (show nI 6 ≤ nI p by rw [← h1, show nI 6 = Int32.ofNat (sj_il S sl) by rw [il_sl]; rfl]; exact c_16) (nI_ge hp (by omega))
    · refine sj_aload_n C 20 rfl dX0_newestSlot_19 rfl rfl ?_
      refine sj_getr C 23 rfl fd_X0_11 dX0_newestSlot_20 kd_h rf_h_0 ?_
      refine sj_aload_n C 24 rfl dX0_newestSlot_23 rfl rfl ?_
      refine sj_getI C 27 rfl fd_X0_18 dX0_newestSlot_24 kd_h ?_
      refine sj_aald10 C 28 rfl dX0_newestSlot_27 kd_sl (by show vp_in (sj_fi S H 1) (sj_il S sl); rw [h1, il_sl]; exact vp_in_nI hp (by omega)) ?_
      rw [h1, nI_clamp (by omega), hsl p hp, show va_rf (some (Ts p 0)) = .ref (Ts p 0) from rfl]
      refine sj_goto C 32 rfl dX0_newestSlot_28 ?_
      refine sj_aret (o := some (Ts p 0)) C hR rfl (Or.inl ⟨_, rfl⟩) rfl dX0_newestSlot_32 ?_
      exact ⟨rfl, rfl⟩
set_option maxRecDepth 100000 in
set_option maxHeartbeats 150000 in
theorem ct_X0_save (l : Launch) {S : sj_St} {H sl : Nat} {Ts : Nat → Nat → Nat} {D : Nat → Nat} (hh : sq_hl S H sl Ts) (hT : ∀ j, j < 6 → sq_tl S (Ts j)) (hD : sq_tl S D) {p q : Nat} (hp : p < 6) (hq : q ≤ 6) (h1 : sj_fi S H 1 = nI p) (h2 : sj_fi S H 2 = nI q) (hk3 : sq_k3 S D) (hpp : ∀ j, j < 6 → sq_tp (Ts j) D) (hH : ∀ j i, j < 6 → i < 16 → H ≠ Ts j i) : sj_Ctr l mX0_save [.ref H, .ref (D 0)] S (sj_eq none (sq_svS S H Ts D p q)) := by
  refine sj_start ([some (.ref H), some (.ref (D 0)), none]) (by decide +kernel) rfl rfl (fun X hX C hR => ?_)
  subst hX
  obtain ⟨kd_h, rf_h_0, kd_sl, il_sl, hsl⟩ := id hh
  have kd_u := hD.1
  have kd_tp := (hT _ (sq_n6_lt p)).1
  have hfr := sq_fr_to (sj_wFi S H 1 (nI (sq_n6 p))) (Ts (sq_n6 p)) D
  have kd_h2 : sj_kd (sq_sv1 S H Ts D p) H = some 0 := sq_kd_fr hfr kd_h
  have e2 : sj_fi (sq_sv1 S H Ts D p) H 2 = nI q := (congrFun (hfr.2.2.2.1 H (fun ⟨i, hi, e⟩ => hH _ i (sq_n6_lt p) hi e)).1 2).trans ((sj_fi_wFi_k S H _ (show (2 : Nat) ≠ 1 by omega)).trans h2)
  refine sj_aload_n C 1 rfl dX0_save_0 rfl rfl ?_
  refine sj_aload_n C 2 rfl dX0_save_1 rfl rfl ?_
  refine sj_getI C 5 rfl fd_X0_18 dX0_save_2 kd_h ?_
  refine sj_iconstv C (1) 6 rfl dX0_save_5 rfl ?_
  refine sj_iadd C 7 rfl dX0_save_6 ?_
  refine sj_bipush C (6) 9 rfl dX0_save_7 (by decide) ?_
  refine sj_icmp_ge C 21 12 rfl rfl dX0_save_9 (fun c_9 => ?_) (fun c_9 => ?_)
  · refine sj_iconstv C (0) 22 rfl dX0_save_21 rfl ?_
    rw [show (0 : Int32) = nI (sq_n6 p) from by unfold sq_n6; rw [if_neg (fun h8 => nI_ge (b := 6) h8 (by omega) (by have c := c_9; rw [h1, nI_1] at c; exact c))]; rfl]
    refine sj_putI C 25 rfl fd_X0_18 dX0_save_22 rfl rfl kd_h ?_
    refine sj_aload_n C 26 rfl dX0_save_25 rfl rfl ?_
    refine sj_callVd C 29 rfl dX0_save_26 cv_X0_22 rfl (ct_X0_newestSlot _ (show sq_hl (sj_wFi S H 1 (nI (sq_n6 p))) H sl Ts from hh) (sq_n6_lt p) (sj_fi_wFi _ _ _ _)) rfl rfl rfl ⟨_, _, kd_h, rfl, rfl, by decide⟩ ⟨rfl, rfl⟩ ?_
    refine sj_astore_n_2 C 30 rfl dX0_save_29 rfl rfl ?_
    refine sj_aload_n C 31 rfl dX0_save_30 rfl rfl ?_
    refine sj_ifnullS C 34 rfl dX0_save_31 ?_
    refine sj_aload_n C 35 rfl dX0_save_34 rfl rfl ?_
    refine sj_aload_n C 36 rfl dX0_save_35 rfl rfl ?_
    refine sj_callVv C 39 rfl dX0_save_36 cv_X0_26 rfl (ct_X4_takeOver _ (show sq_tl (sj_wFi S H 1 (nI (sq_n6 p))) (Ts (sq_n6 p)) from hT _ (sq_n6_lt p)) (show sq_tl (sj_wFi S H 1 (nI (sq_n6 p))) D from hD) (hpp _ (sq_n6_lt p)) hk3) rfl rfl rfl ⟨_, _, kd_tp, rfl, rfl, by decide⟩ ⟨rfl, rfl⟩ ?_
    rw [show sq_to (sj_wFi S H 1 (nI (sq_n6 p))) (Ts (sq_n6 p)) D = sq_sv1 S H Ts D p from rfl]
    have kd_h := kd_h2
    refine sj_aload_n C 40 rfl dX0_save_39 rfl rfl ?_
    refine sj_getI C 43 rfl fd_X0_30 dX0_save_40 kd_h ?_
    rw [e2]
    refine sj_bipush C (6) 45 rfl dX0_save_43 (by decide) ?_
    refine sj_icmp_ge C 58 48 rfl rfl dX0_save_45 (fun c_45 => ?_) (fun c_45 => ?_)
    · refine sj_vret C hR rfl rfl dX0_save_58 ?_
      refine ⟨rfl, ?_⟩
      unfold sq_svS
      rw [if_neg (fun h6 => nI_ge (b := 6) h6 (by omega) c_45)]
    · refine sj_aload_n C 49 rfl dX0_save_48 rfl rfl ?_
      refine sj_dup C 50 rfl dX0_save_49 rfl ?_
      refine sj_getI C 53 rfl fd_X0_30 dX0_save_50 kd_h ?_
      rw [e2]
      refine sj_iconstv C (1) 54 rfl dX0_save_53 rfl ?_
      refine sj_iadd C 55 rfl dX0_save_54 ?_
      rw [nI_1]
      refine sj_putI C 58 rfl fd_X0_30 dX0_save_55 rfl rfl kd_h ?_
      refine sj_vret C hR rfl rfl dX0_save_58 ?_
      refine ⟨rfl, ?_⟩
      unfold sq_svS
      rw [if_pos (Nat.not_le.mp fun h8 => c_45 (nI_le (a := 6) h8 (by omega)))]
  · refine sj_aload_n C 13 rfl dX0_save_12 rfl rfl ?_
    refine sj_getI C 16 rfl fd_X0_18 dX0_save_13 kd_h ?_
    rw [h1]
    refine sj_iconstv C (1) 17 rfl dX0_save_16 rfl ?_
    refine sj_iadd C 18 rfl dX0_save_17 ?_
    refine sj_goto C 22 rfl dX0_save_18 ?_
    rw [show nI p + 1 = nI (sq_n6 p) from by rw [nI_1]; unfold sq_n6; rw [if_pos (Nat.not_le.mp fun h8 => c_9 (by rw [h1, nI_1]; exact nI_le (a := 6) h8 (by omega)))]]
    refine sj_putI C 25 rfl fd_X0_18 dX0_save_22 rfl rfl kd_h ?_
    refine sj_aload_n C 26 rfl dX0_save_25 rfl rfl ?_
    refine sj_callVd C 29 rfl dX0_save_26 cv_X0_22 rfl (ct_X0_newestSlot _ (show sq_hl (sj_wFi S H 1 (nI (sq_n6 p))) H sl Ts from hh) (sq_n6_lt p) (sj_fi_wFi _ _ _ _)) rfl rfl rfl ⟨_, _, kd_h, rfl, rfl, by decide⟩ ⟨rfl, rfl⟩ ?_
    refine sj_astore_n_2 C 30 rfl dX0_save_29 rfl rfl ?_
    refine sj_aload_n C 31 rfl dX0_save_30 rfl rfl ?_
    refine sj_ifnullS C 34 rfl dX0_save_31 ?_
    refine sj_aload_n C 35 rfl dX0_save_34 rfl rfl ?_
    refine sj_aload_n C 36 rfl dX0_save_35 rfl rfl ?_
    refine sj_callVv C 39 rfl dX0_save_36 cv_X0_26 rfl (ct_X4_takeOver _ (show sq_tl (sj_wFi S H 1 (nI (sq_n6 p))) (Ts (sq_n6 p)) from hT _ (sq_n6_lt p)) (show sq_tl (sj_wFi S H 1 (nI (sq_n6 p))) D from hD) (hpp _ (sq_n6_lt p)) hk3) rfl rfl rfl ⟨_, _, kd_tp, rfl, rfl, by decide⟩ ⟨rfl, rfl⟩ ?_
    rw [show sq_to (sj_wFi S H 1 (nI (sq_n6 p))) (Ts (sq_n6 p)) D = sq_sv1 S H Ts D p from rfl]
    have kd_h := kd_h2
    refine sj_aload_n C 40 rfl dX0_save_39 rfl rfl ?_
    refine sj_getI C 43 rfl fd_X0_30 dX0_save_40 kd_h ?_
    rw [e2]
    refine sj_bipush C (6) 45 rfl dX0_save_43 (by decide) ?_
    refine sj_icmp_ge C 58 48 rfl rfl dX0_save_45 (fun c_45 => ?_) (fun c_45 => ?_)
    · refine sj_vret C hR rfl rfl dX0_save_58 ?_
      refine ⟨rfl, ?_⟩
      unfold sq_svS
      rw [if_neg (fun h6 => nI_ge (b := 6) h6 (by omega) c_45)]
    · refine sj_aload_n C 49 rfl dX0_save_48 rfl rfl ?_
      refine sj_dup C 50 rfl dX0_save_49 rfl ?_
      refine sj_getI C 53 rfl fd_X0_30 dX0_save_50 kd_h ?_
      rw [e2]
      refine sj_iconstv C (1) 54 rfl dX0_save_53 rfl ?_
      refine sj_iadd C 55 rfl dX0_save_54 ?_
      rw [nI_1]
      refine sj_putI C 58 rfl fd_X0_30 dX0_save_55 rfl rfl kd_h ?_
      refine sj_vret C hR rfl rfl dX0_save_58 ?_
      refine ⟨rfl, ?_⟩
      unfold sq_svS
      rw [if_pos (Nat.not_le.mp fun h8 => c_45 (nI_le (a := 6) h8 (by omega)))]
set_option maxRecDepth 100000 in
set_option maxHeartbeats 150000 in
theorem ct_X0_bringBack (l : Launch) {S : sj_St} {H sl : Nat} {Ts : Nat → Nat → Nat} {D : Nat → Nat} (hh : sq_hl S H sl Ts) (hT : ∀ j, j < 6 → sq_tl S (Ts j)) (hD : sq_tl S D) {p q : Nat} (hp : p < 6) (hq : q ≤ 6) (h1 : sj_fi S H 1 = nI p) (h2 : sj_fi S H 2 = nI q) (hq0 : 0 < q) (hk3 : ∀ j, j < 6 → sq_k3 S (Ts j)) (hpp : ∀ j, j < 6 → sq_tp D (Ts j)) (hH : ∀ i, i < 16 → H ≠ D i) : sj_Ctr l mX0_bringBack [.ref H, .ref (D 0)] S (sj_eq none (sq_bbS S H Ts D p q)) := by
  refine sj_start ([some (.ref H), some (.ref (D 0)), none]) (by decide +kernel) rfl rfl (fun X hX C hR => ?_)
  subst hX
  obtain ⟨kd_h, rf_h_0, kd_sl, il_sl, hsl⟩ := id hh
  have kd_u := hD.1
  have kd_tp := (hT p hp).1
  have hfr := sq_fr_to S D (Ts p)
  have kd_h2 : sj_kd (sq_to S D (Ts p)) H = some 0 := sq_kd_fr hfr kd_h
  have e1 : sj_fi (sq_to S D (Ts p)) H 1 = nI p := (congrFun (hfr.2.2.2.1 H (fun ⟨i, hi, e⟩ => hH i hi e)).1 1).trans h1
  have e2 : sj_fi (sq_to S D (Ts p)) H 2 = nI q := (congrFun (hfr.2.2.2.1 H (fun ⟨i, hi, e⟩ => hH i hi e)).1 2).trans h2
  refine sj_aload_n C 1 rfl dX0_bringBack_0 rfl rfl ?_
  refine sj_callVd C 4 rfl dX0_bringBack_1 cv_X0_22 rfl (ct_X0_newestSlot _ hh hp h1) rfl rfl rfl ⟨_, _, kd_h, rfl, rfl, by decide⟩ ⟨rfl, rfl⟩ ?_
  refine sj_astore_n_2 C 5 rfl dX0_bringBack_4 rfl rfl ?_
  refine sj_aload_n C 6 rfl dX0_bringBack_5 rfl rfl ?_
  refine sj_ifnullS C 9 rfl dX0_bringBack_6 ?_
  refine sj_aload_n C 10 rfl dX0_bringBack_9 rfl rfl ?_
  refine sj_ifnullS C 13 rfl dX0_bringBack_10 ?_
  refine sj_aload_n C 14 rfl dX0_bringBack_13 rfl rfl ?_
  refine sj_getI C 17 rfl fd_X0_30 dX0_bringBack_14 kd_h ?_
  refine sj_if_gt C 21 20 rfl rfl dX0_bringBack_17 (fun c_17 => ?_) (fun c_17 => ?_)
  · refine sj_aload_n C 22 rfl dX0_bringBack_21 rfl rfl ?_
    refine sj_aload_n C 23 rfl dX0_bringBack_22 rfl rfl ?_
    refine sj_callVv C 26 rfl dX0_bringBack_23 cv_X0_26 rfl (ct_X4_takeOver _ hD (hT p hp) (hpp p hp) (hk3 p hp)) rfl rfl rfl ⟨_, _, kd_u, rfl, rfl, by decide⟩ ⟨rfl, rfl⟩ ?_
    have kd_h := kd_h2
    refine sj_aload_n C 27 rfl dX0_bringBack_26 rfl rfl ?_
    refine sj_aload_n C 28 rfl dX0_bringBack_27 rfl rfl ?_
    refine sj_getI C 31 rfl fd_X0_18 dX0_bringBack_28 kd_h ?_
    rw [e1]
    refine sj_if_le C 43 34 rfl rfl dX0_bringBack_31 (fun c_31 => ?_) (fun c_31 => ?_)
    · refine sj_iconstv C (5) 44 rfl dX0_bringBack_43 rfl ?_
      rw [show (5 : Int32) = nI (sq_p6 p) from by have h0 : ¬ 0 < p := fun h8 => nI_nle h8 (by omega) c_31; unfold sq_p6; rw [if_neg h0]; rfl]
      refine sj_putI C 47 rfl fd_X0_18 dX0_bringBack_44 rfl rfl kd_h ?_
      refine sj_aload_n C 48 rfl dX0_bringBack_47 rfl rfl ?_
      refine sj_dup C 49 rfl dX0_bringBack_48 rfl ?_
      refine sj_getI C 52 rfl fd_X0_30 dX0_bringBack_49 kd_h ?_
      rw [sj_fi_wFi_k _ _ _ (show (2 : Nat) ≠ 1 by omega), e2]
      refine sj_iconstv C (1) 53 rfl dX0_bringBack_52 rfl ?_
      refine sj_isub C 54 rfl dX0_bringBack_53 ?_
      rw [show nI q - 1 = nI (q - 1) from sj_nsub (a := q) (b := 1) (by omega)]
      refine sj_putI C 57 rfl fd_X0_30 dX0_bringBack_54 rfl rfl kd_h ?_
      refine sj_vret C hR rfl rfl dX0_bringBack_57 ?_
      exact ⟨rfl, rfl⟩
    · refine sj_aload_n C 35 rfl dX0_bringBack_34 rfl rfl ?_
      refine sj_getI C 38 rfl fd_X0_18 dX0_bringBack_35 kd_h ?_
      rw [e1]
      refine sj_iconstv C (1) 39 rfl dX0_bringBack_38 rfl ?_
      refine sj_isub C 40 rfl dX0_bringBack_39 ?_
      
      refine sj_goto C 44 rfl dX0_bringBack_40 ?_
      rw [show nI p - 1 = nI (sq_p6 p) from by have h0 : 0 < p := Nat.pos_of_ne_zero (fun e => c_31 (by rw [e]; exact Int32.le_refl _)); unfold sq_p6; rw [if_pos h0]; exact sj_nsub (a := p) (b := 1) (by omega)]
      refine sj_putI C 47 rfl fd_X0_18 dX0_bringBack_44 rfl rfl kd_h ?_
      refine sj_aload_n C 48 rfl dX0_bringBack_47 rfl rfl ?_
      refine sj_dup C 49 rfl dX0_bringBack_48 rfl ?_
      refine sj_getI C 52 rfl fd_X0_30 dX0_bringBack_49 kd_h ?_
      rw [sj_fi_wFi_k _ _ _ (show (2 : Nat) ≠ 1 by omega), e2]
      refine sj_iconstv C (1) 53 rfl dX0_bringBack_52 rfl ?_
      refine sj_isub C 54 rfl dX0_bringBack_53 ?_
      rw [show nI q - 1 = nI (q - 1) from sj_nsub (a := q) (b := 1) (by omega)]
      refine sj_putI C 57 rfl fd_X0_30 dX0_bringBack_54 rfl rfl kd_h ?_
      refine sj_vret C hR rfl rfl dX0_bringBack_57 ?_
      exact ⟨rfl, rfl⟩
  · exact absurd (show 0 < sj_fi S H 2 by rw [h2]; exact Int32.not_le.mp (nI_nle hq0 (by omega))) c_17
