/-! THE REFERENCE: ages, oaths, undo and the snapshot -/
theorem sj_only16 : ∀ i t, (sj_tyl 7)[i]? = some t → i ≠ 16 → t < 2 := by
  intro i t h hne
  have hi : i < 17 := (List.getElem?_eq_some_iff.mp h).1
  have key : ∀ i, i < 17 → i ≠ 16 → (sj_tyl 7).getD i 0 < 2 := by decide
  have e : (sj_tyl 7).getD i 0 = t := by rw [List.getD_eq_getElem?_getD, h]; rfl
  rw [← e]
  exact key i hi hne
theorem sj_mm_1 {S : sj_St} {h : Nat} {b : Nat → Nat} {m : Nat → Int32} (hm : sj_mm S h b m) (g : Nat → Int32) : sj_mm (sj_sIa S (b 1) g) h b g := ⟨hm.1, sj_ia_sIa _ _ _⟩
theorem sj_mm_f {S : sj_St} {h : Nat} {b : Nat → Nat} {m : Nat → Int32} (hm : sj_mm S h b m) (a k : Nat) (v : Int32) : sj_mm (sj_wFi S a k v) h b m := hm
theorem sj_upd_self (f : Nat → Int32) (k : Nat) (v : Int32) : upd f k v k = v := if_pos rfl
theorem sj_upd_ne (f : Nat → Int32) {k j : Nat} (v : Int32) (h : j ≠ k) : upd f k v j = f j := if_neg h
def sj_age (m : Nat → Int32) (y : Int32) (k : Nat) : Int32 := if 99 < sj_of m k 0 + y then 99 else sj_of m k 0 + y
def sj_pas (m : Nat → Int32) (y : Int32) : Nat → Nat → Int32
  | 0 => m
  | k + 1 => upd (sj_pas m y k) (98 + 42 * k) (sj_age m y k)
def sj_old (m : Nat → Int32) (y : Int32) : Nat → Int32
  | 0 => -1
  | k + 1 => if sj_old m y k < sj_age m y k then sj_age m y k else sj_old m y k
theorem sj_pas_lo (m : Nat → Int32) (y : Int32) {j : Nat} (hj : j < 98) : ∀ k, sj_pas m y k j = m j
  | 0 => rfl
  | k + 1 => (sj_upd_ne _ _ (by omega)).trans (sj_pas_lo m y hj k)
theorem sj_pas_hi (m : Nat → Int32) (y : Int32) {j : Nat} : ∀ k, 98 + 42 * k ≤ j → sj_pas m y k j = m j
  | 0, _ => rfl
  | k + 1, h => (sj_upd_ne _ _ (by omega)).trans (sj_pas_hi m y k (by omega))
theorem sj_i98z (k : Nat) : (98 : Int32) + 42 * nI k + 0 = nI (98 + 42 * k) := by
  rw [show (98 : Int32) = nI 98 from rfl, show (42 : Int32) = nI 42 from rfl, sj_nmul, nI_add, Int32.add_zero]
theorem sj_i14z (k : Nat) : (14 : Int32) + 3 * nI k = nI (14 + 3 * k) := by
  rw [show (14 : Int32) = nI 14 from rfl, show (3 : Int32) = nI 3 from rfl, sj_nmul, nI_add]
theorem sj_i98y (k : Nat) : (98 : Int32) + 42 * nI k = nI (98 + 42 * k) := by
  rw [show (98 : Int32) = nI 98 from rfl, show (42 : Int32) = nI 42 from rfl, sj_nmul, nI_add]
/-- an oath is dropped: the number of oaths, and the numbers behind its place up to j, three down -/
def sj_dj (m : Nat → Int32) (n k j : Nat) : Nat → Int32 := fun i => if i = 10 then nI n else if 14 + 3 * k ≤ i ∧ i < j then m (i + 3) else m i
def sj_dO (m : Nat → Int32) (k : Nat) : Nat → Int32 := sj_dj m (sj_tn (m 10) - 1) k (14 + 3 * (sj_tn (m 10) - 1))
theorem sj_dj_0 (m : Nat → Int32) (n k : Nat) : sj_dj m n k (14 + 3 * k) = upd m 10 (nI n) := by
  funext i
  unfold sj_dj upd
  by_cases h : i = 10
  · rw [if_pos h, if_pos h]
  · rw [if_neg h, if_neg h, if_neg (by omega)]
theorem sj_dj_3 (m : Nat → Int32) (n k j : Nat) (h : 14 + 3 * k ≤ j) : sj_dj m n k j (j + 3) = m (j + 3) := by
  unfold sj_dj
  rw [if_neg (by omega), if_neg (by omega)]
theorem sj_dj_s (m : Nat → Int32) (n k j : Nat) (h : 14 + 3 * k ≤ j) : upd (sj_dj m n k j) j (m (j + 3)) = sj_dj m n k (j + 1) := by
  funext i
  unfold upd sj_dj
  by_cases h1 : i = j
  · subst h1
    rw [if_pos rfl, if_neg (by omega), if_pos ⟨h, by omega⟩]
  · rw [if_neg h1]
    by_cases h2 : i = 10
    · rw [if_pos h2, if_pos h2]
    · rw [if_neg h2, if_neg h2]
      by_cases h3 : 14 + 3 * k ≤ i ∧ i < j
      · rw [if_pos h3, if_pos ⟨h3.1, by omega⟩]
      · rw [if_neg h3, if_neg (fun h4 => h3 ⟨h4.1, by omega⟩)]
def sj_sw1 (m : Nat → Int32) (i e : Nat) (like : Bool) : Nat → Int32 := upd (upd (upd m (14 + 3 * sj_tn (m 10)) (nI i)) (14 + 3 * sj_tn (m 10) + 1) (nI e)) (14 + 3 * sj_tn (m 10) + 2) (sj_bi like)
def sj_sw2 (f : Nat → Int32) : Nat → Int32 := upd f 10 (f 10 + 1)
def sj_sw (m : Nat → Int32) (i e : Nat) (like : Bool) : Nat → Int32 := upd (sj_sw2 (sj_sw1 m i e like)) 11 (sj_sw2 (sj_sw1 m i e like) 11 + 1)
set_option maxRecDepth 100000 in
set_option maxHeartbeats 4000000 in
theorem ct_X7_passes (l : Launch) {S : sj_St} {h : Nat} {b : Nat → Nat} {m : Nat → Int32} (hm : sj_mm S h b m) (hv : sj_oav m) (y : Int32) : sj_Ctr l mX7_passes [.ref h, .int y] S (sj_eq (some (.int (sj_old m y (sj_tn (m 9))))) (sj_sIa S (b 1) (sj_pas m y (sj_tn (m 9))))) := by
  refine sj_start ([some (.ref h), some (.int y), none, none, none]) (by decide +kernel) rfl rfl (fun X hX C hR => ?_)
  subst hX
  have hm0 := hm
  obtain ⟨hm', em⟩ := hm0
  subst em
  obtain ⟨kd_h, ⟨rf_h_1, kd_a1, il_a1⟩, ⟨rf_h_2, kd_a2, il_a2⟩, ⟨rf_h_3, kd_a3, il_a3⟩, ⟨rf_h_5, kd_a5, il_a5⟩, ⟨rf_h_7, kd_a7, il_a7⟩, ⟨rf_h_13, kd_a13, il_a13⟩, ⟨rf_h_15, kd_a15, il_a15⟩, hinj⟩ := hm'
  obtain ⟨⟨h9, hn8⟩, ⟨h10, hn28⟩, hoa⟩ := id hv
  have cut_4 : ∀ S', S' = (sj_sIa S (b 1) (sj_pas (sj_ia S (b 1)) y 0)) → ∀ o1, sj_G X S' 0 0 [some (.ref h), some (.int y), some (.int (sj_old (sj_ia S (b 1)) y 0)), some (.int (nI 0)), o1] 4 [] := by
    refine sj_down (fun k => ∀ S', S' = (sj_sIa S (b 1) (sj_pas (sj_ia S (b 1)) y k)) → ∀ o1, sj_G X S' 0 0 [some (.ref h), some (.int y), some (.int (sj_old (sj_ia S (b 1)) y k)), some (.int (nI k)), o1] 4 []) (sj_tn ((sj_ia S (b 1)) 9)) (fun k hk ih => ?_)
    intro S' hS' o1
    subst hS'
    have hmk : sj_mm (sj_sIa S (b 1) (sj_pas (sj_ia S (b 1)) y k)) h b (sj_pas (sj_ia S (b 1)) y k) := sj_mm_1 hm _
    have e9k : sj_ia (sj_sIa S (b 1) (sj_pas (sj_ia S (b 1)) y k)) (b 1) 9 = nI (sj_tn ((sj_ia S (b 1)) 9)) := (congrFun hmk.2 9).trans ((sj_pas_lo _ _ (by omega) k).trans h9)
    have eof : sj_of (sj_pas (sj_ia S (b 1)) y k) k 0 = sj_of (sj_ia S (b 1)) k 0 := sj_pas_hi _ _ k (by omega)
    refine sj_iload_n C 5 rfl dX7_passes_4 rfl rfl ?_
    refine sj_aload_n C 6 rfl dX7_passes_5 rfl rfl ?_
    refine sj_getr C 9 rfl fd_X7_7 dX7_passes_6 kd_h rf_h_1 ?_
    refine sj_bipush C (9) 11 rfl dX7_passes_9 (by decide) ?_
    refine sj_iald C 12 rfl dX7_passes_11 kd_a1 (by show vp_in (nI 9) (sj_il S (b 1)); rw [il_a1]; exact vp_in_nI (by omega) (by omega)) ?_
    rw [show Int32.toNatClampNeg (9) = 9 from rfl, e9k]
    refine sj_icmp_ge C 76 15 rfl rfl dX7_passes_12 (fun c_12 => ?_) (fun c_12 => ?_)
    · refine sj_iload_n C 77 rfl dX7_passes_76 rfl rfl ?_
      refine sj_iret C hR rfl rfl dX7_passes_77 ?_
      have hkn : k = sj_tn ((sj_ia S (b 1)) 9) := by
        have h8 : ¬ k < sj_tn ((sj_ia S (b 1)) 9) := fun h7 => nI_ge h7 (by omega) c_12
        omega
      subst hkn
      exact ⟨rfl, rfl⟩
    · have hlt : k < sj_tn ((sj_ia S (b 1)) 9) := Nat.not_le.mp fun h8 => c_12 (nI_le h8 (by omega))
      refine sj_aload_n C 16 rfl dX7_passes_15 rfl rfl ?_
      refine sj_iload_n C 17 rfl dX7_passes_16 rfl rfl ?_
      refine sj_iconstv C (0) 18 rfl dX7_passes_17 rfl ?_
      refine sj_callVd C 21 rfl dX7_passes_18 cv_X7_39 rfl (ct_X7_of _ hmk k 0 (by omega) (by omega)) rfl rfl rfl ⟨_, _, kd_h, rfl, rfl, by decide⟩ ⟨rfl, rfl⟩ ?_
      rw [eof]
      refine sj_iload_n C 22 rfl dX7_passes_21 rfl rfl ?_
      refine sj_iadd C 23 rfl dX7_passes_22 ?_
      refine sj_istore_4 C 25 rfl dX7_passes_23 rfl rfl ?_
      refine sj_iload C 27 rfl dX7_passes_25 rfl ?_
      refine sj_bipush C (99) 29 rfl dX7_passes_27 (by decide) ?_
      refine sj_icmp_le C 37 32 rfl rfl dX7_passes_29 (fun c_29 => ?_) (fun c_29 => ?_)
      · refine sj_iload C 39 rfl dX7_passes_37 rfl ?_
        refine sj_istore_4 C 41 rfl dX7_passes_39 rfl rfl ?_
        refine sj_aload_n C 42 rfl dX7_passes_41 rfl rfl ?_
        refine sj_getr C 45 rfl fd_X7_7 dX7_passes_42 kd_h rf_h_1 ?_
        refine sj_bipush C (98) 47 rfl dX7_passes_45 (by decide) ?_
        refine sj_bipush C (42) 49 rfl dX7_passes_47 (by decide) ?_
        refine sj_iload_n C 50 rfl dX7_passes_49 rfl rfl ?_
        refine sj_imul C 51 rfl dX7_passes_50 ?_
        refine sj_iadd C 52 rfl dX7_passes_51 ?_
        refine sj_iconstv C (0) 53 rfl dX7_passes_52 rfl ?_
        refine sj_iadd C 54 rfl dX7_passes_53 ?_
        rw [sj_i98z]
        refine sj_iload C 56 rfl dX7_passes_54 rfl ?_
        refine sj_iast C 57 rfl dX7_passes_56 kd_a1 (by show vp_in (nI (98 + 42 * k)) (sj_il S (b 1)); rw [il_a1]; exact vp_in_nI (by omega) (by omega)) ?_
        refine sj_iload C 59 rfl dX7_passes_57 rfl ?_
        refine sj_iload_n C 60 rfl dX7_passes_59 rfl rfl ?_
        refine sj_icmp_le C 68 63 rfl rfl dX7_passes_60 (fun c_60 => ?_) (fun c_60 => ?_)
        · refine sj_iload_n C 69 rfl dX7_passes_68 rfl rfl ?_
          refine sj_istore_n_2 C 70 rfl dX7_passes_69 rfl rfl ?_
          refine sj_iinc_3 C 73 rfl dX7_passes_70 rfl rfl ?_
          refine sj_goto C 4 rfl dX7_passes_73 ?_
          have ea : sj_age (sj_ia S (b 1)) y k = sj_of (sj_ia S (b 1)) k 0 + y := if_neg (sj_nlt.mpr c_29)
          have eo : sj_old (sj_ia S (b 1)) y (k + 1) = sj_old (sj_ia S (b 1)) y k := by
            show (if _ < sj_age _ _ _ then _ else _) = _
            rw [ea]
            exact if_neg (sj_nlt.mpr c_60)
          have ih' := ih hlt
          rw [eo] at ih'
          rw [sj_n1]
          refine ih' _ ?_ _
          rw [sj_wIa_sIa, nI_clamp (by omega)]
          show sj_sIa S (b 1) (upd _ _ _) = sj_sIa S (b 1) (upd _ _ (sj_age _ _ _))
          rw [ea]
        · refine sj_iload C 65 rfl dX7_passes_63 rfl ?_
          refine sj_goto C 69 rfl dX7_passes_65 ?_
          refine sj_istore_n_2 C 70 rfl dX7_passes_69 rfl rfl ?_
          refine sj_iinc_3 C 73 rfl dX7_passes_70 rfl rfl ?_
          refine sj_goto C 4 rfl dX7_passes_73 ?_
          have ea : sj_age (sj_ia S (b 1)) y k = sj_of (sj_ia S (b 1)) k 0 + y := if_neg (sj_nlt.mpr c_29)
          have eo : sj_old (sj_ia S (b 1)) y (k + 1) = sj_of (sj_ia S (b 1)) k 0 + y := by
            show (if _ < sj_age _ _ _ then sj_age _ _ _ else _) = _
            rw [ea]
            exact if_pos (sj_nle.mp c_60)
          have ih' := ih hlt
          rw [eo] at ih'
          rw [sj_n1]
          refine ih' _ ?_ _
          rw [sj_wIa_sIa, nI_clamp (by omega)]
          show sj_sIa S (b 1) (upd _ _ _) = sj_sIa S (b 1) (upd _ _ (sj_age _ _ _))
          rw [ea]
      · refine sj_bipush C (99) 34 rfl dX7_passes_32 (by decide) ?_
        refine sj_goto C 39 rfl dX7_passes_34 ?_
        refine sj_istore_4 C 41 rfl dX7_passes_39 rfl rfl ?_
        refine sj_aload_n C 42 rfl dX7_passes_41 rfl rfl ?_
        refine sj_getr C 45 rfl fd_X7_7 dX7_passes_42 kd_h rf_h_1 ?_
        refine sj_bipush C (98) 47 rfl dX7_passes_45 (by decide) ?_
        refine sj_bipush C (42) 49 rfl dX7_passes_47 (by decide) ?_
        refine sj_iload_n C 50 rfl dX7_passes_49 rfl rfl ?_
        refine sj_imul C 51 rfl dX7_passes_50 ?_
        refine sj_iadd C 52 rfl dX7_passes_51 ?_
        refine sj_iconstv C (0) 53 rfl dX7_passes_52 rfl ?_
        refine sj_iadd C 54 rfl dX7_passes_53 ?_
        rw [sj_i98z]
        refine sj_iload C 56 rfl dX7_passes_54 rfl ?_
        refine sj_iast C 57 rfl dX7_passes_56 kd_a1 (by show vp_in (nI (98 + 42 * k)) (sj_il S (b 1)); rw [il_a1]; exact vp_in_nI (by omega) (by omega)) ?_
        refine sj_iload C 59 rfl dX7_passes_57 rfl ?_
        refine sj_iload_n C 60 rfl dX7_passes_59 rfl rfl ?_
        refine sj_icmp_le C 68 63 rfl rfl dX7_passes_60 (fun c_60 => ?_) (fun c_60 => ?_)
        · refine sj_iload_n C 69 rfl dX7_passes_68 rfl rfl ?_
          refine sj_istore_n_2 C 70 rfl dX7_passes_69 rfl rfl ?_
          refine sj_iinc_3 C 73 rfl dX7_passes_70 rfl rfl ?_
          refine sj_goto C 4 rfl dX7_passes_73 ?_
          have ea : sj_age (sj_ia S (b 1)) y k = 99 := if_pos (sj_nle.mp c_29)
          have eo : sj_old (sj_ia S (b 1)) y (k + 1) = sj_old (sj_ia S (b 1)) y k := by
            show (if _ < sj_age _ _ _ then _ else _) = _
            rw [ea]
            exact if_neg (sj_nlt.mpr c_60)
          have ih' := ih hlt
          rw [eo] at ih'
          rw [sj_n1]
          refine ih' _ ?_ _
          rw [sj_wIa_sIa, nI_clamp (by omega)]
          show sj_sIa S (b 1) (upd _ _ _) = sj_sIa S (b 1) (upd _ _ (sj_age _ _ _))
          rw [ea]
        · refine sj_iload C 65 rfl dX7_passes_63 rfl ?_
          refine sj_goto C 69 rfl dX7_passes_65 ?_
          refine sj_istore_n_2 C 70 rfl dX7_passes_69 rfl rfl ?_
          refine sj_iinc_3 C 73 rfl dX7_passes_70 rfl rfl ?_
          refine sj_goto C 4 rfl dX7_passes_73 ?_
          have ea : sj_age (sj_ia S (b 1)) y k = 99 := if_pos (sj_nle.mp c_29)
          have eo : sj_old (sj_ia S (b 1)) y (k + 1) = 99 := by
            show (if _ < sj_age _ _ _ then sj_age _ _ _ else _) = _
            rw [ea]
            exact if_pos (sj_nle.mp c_60)
          have ih' := ih hlt
          rw [eo] at ih'
          rw [sj_n1]
          refine ih' _ ?_ _
          rw [sj_wIa_sIa, nI_clamp (by omega)]
          show sj_sIa S (b 1) (upd _ _ _) = sj_sIa S (b 1) (upd _ _ (sj_age _ _ _))
          rw [ea]
  refine sj_iconstv C (-1) 1 rfl dX7_passes_0 rfl ?_
  refine sj_istore_n_2 C 2 rfl dX7_passes_1 rfl rfl ?_
  refine sj_iconstv C (0) 3 rfl dX7_passes_2 rfl ?_
  refine sj_istore_n_3 C 4 rfl dX7_passes_3 rfl rfl ?_
  exact cut_4 _ (sj_sIa_id S (b 1)).symm none
set_option maxRecDepth 100000 in
set_option maxHeartbeats 4000000 in
theorem ct_X7_dropOath (l : Launch) {S : sj_St} {h : Nat} {b : Nat → Nat} {m : Nat → Int32} (hm : sj_mm S h b m) (k : Nat) (h10 : m 10 = nI (sj_tn (m 10))) (hn28 : sj_tn (m 10) ≤ 28) (hk : k < sj_tn (m 10)) : sj_Ctr l mX7_dropOath [.ref h, .int (nI k)] S (sj_eq none (sj_sIa S (b 1) (sj_dO m k))) := by
  refine sj_start ([some (.ref h), some (.int (nI k)), none]) (by decide +kernel) rfl rfl (fun X hX C hR => ?_)
  subst hX
  have hm0 := hm
  obtain ⟨hm', em⟩ := hm0
  subst em
  obtain ⟨kd_h, ⟨rf_h_1, kd_a1, il_a1⟩, ⟨rf_h_2, kd_a2, il_a2⟩, ⟨rf_h_3, kd_a3, il_a3⟩, ⟨rf_h_5, kd_a5, il_a5⟩, ⟨rf_h_7, kd_a7, il_a7⟩, ⟨rf_h_13, kd_a13, il_a13⟩, ⟨rf_h_15, kd_a15, il_a15⟩, hinj⟩ := hm'
  have cut_18 : ∀ S', S' = (sj_sIa S (b 1) (sj_dj (sj_ia S (b 1)) (sj_tn ((sj_ia S (b 1)) 10) - 1) k (14 + 3 * k))) → sj_G X S' 0 0 [some (.ref h), some (.int (nI k)), some (.int (nI (14 + 3 * k)))] 18 [] := by
    refine sj_downFrom (fun j => ∀ S', S' = (sj_sIa S (b 1) (sj_dj (sj_ia S (b 1)) (sj_tn ((sj_ia S (b 1)) 10) - 1) k j)) → sj_G X S' 0 0 [some (.ref h), some (.int (nI k)), some (.int (nI j))] 18 []) (14 + 3 * k) (14 + 3 * (sj_tn ((sj_ia S (b 1)) 10) - 1)) (by omega) (fun j hkj hj ih => ?_)
    intro S' hS'
    subst hS'
    have e10 : sj_ia (sj_sIa S (b 1) (sj_dj (sj_ia S (b 1)) (sj_tn ((sj_ia S (b 1)) 10) - 1) k j)) (b 1) 10 = nI (sj_tn ((sj_ia S (b 1)) 10) - 1) := (congrFun (sj_ia_sIa _ _ _) 10).trans (if_pos rfl)
    refine sj_iload_n C 19 rfl dX7_dropOath_18 rfl rfl ?_
    refine sj_bipush C (14) 21 rfl dX7_dropOath_19 (by decide) ?_
    refine sj_iconstv C (3) 22 rfl dX7_dropOath_21 rfl ?_
    refine sj_aload_n C 23 rfl dX7_dropOath_22 rfl rfl ?_
    refine sj_getr C 26 rfl fd_X7_7 dX7_dropOath_23 kd_h rf_h_1 ?_
    refine sj_bipush C (10) 28 rfl dX7_dropOath_26 (by decide) ?_
    refine sj_iald C 29 rfl dX7_dropOath_28 kd_a1 (by show vp_in (nI 10) (sj_il S (b 1)); rw [il_a1]; exact vp_in_nI (by omega) (by omega)) ?_
    rw [show Int32.toNatClampNeg (10) = 10 from rfl, e10]
    refine sj_imul C 30 rfl dX7_dropOath_29 ?_
    refine sj_iadd C 31 rfl dX7_dropOath_30 ?_
    rw [sj_i14z]
    refine sj_icmp_ge C 54 34 rfl rfl dX7_dropOath_31 (fun c_31 => ?_) (fun c_31 => ?_)
    · refine sj_vret C hR rfl rfl dX7_dropOath_54 ?_
      have hjj : j = 14 + 3 * (sj_tn ((sj_ia S (b 1)) 10) - 1) := by
        have h8 : ¬ j < 14 + 3 * (sj_tn ((sj_ia S (b 1)) 10) - 1) := fun h7 => nI_ge h7 (by omega) c_31
        omega
      subst hjj
      exact ⟨rfl, rfl⟩
    · have hlt : j < 14 + 3 * (sj_tn ((sj_ia S (b 1)) 10) - 1) := Nat.not_le.mp fun h8 => c_31 (nI_le h8 (by omega))
      refine sj_aload_n C 35 rfl dX7_dropOath_34 rfl rfl ?_
      refine sj_getr C 38 rfl fd_X7_7 dX7_dropOath_35 kd_h rf_h_1 ?_
      refine sj_iload_n C 39 rfl dX7_dropOath_38 rfl rfl ?_
      refine sj_aload_n C 40 rfl dX7_dropOath_39 rfl rfl ?_
      refine sj_getr C 43 rfl fd_X7_7 dX7_dropOath_40 kd_h rf_h_1 ?_
      refine sj_iload_n C 44 rfl dX7_dropOath_43 rfl rfl ?_
      refine sj_iconstv C (3) 45 rfl dX7_dropOath_44 rfl ?_
      refine sj_iadd C 46 rfl dX7_dropOath_45 ?_
      rw [show nI j + 3 = nI (j + 3) from nI_add j 3]
      refine sj_iald C 47 rfl dX7_dropOath_46 kd_a1 (by show vp_in (nI (j + 3)) (sj_il S (b 1)); rw [il_a1]; exact vp_in_nI (by omega) (by omega)) ?_
      refine sj_iast C 48 rfl dX7_dropOath_47 kd_a1 (by show vp_in (nI j) (sj_il S (b 1)); rw [il_a1]; exact vp_in_nI (by omega) (by omega)) ?_
      refine sj_iinc_2 C 51 rfl dX7_dropOath_48 rfl rfl ?_
      refine sj_goto C 18 rfl dX7_dropOath_51 ?_
      rw [sj_n1]
      refine ih hlt _ ?_
      rw [sj_wIa_sIa, nI_clamp (by omega), sj_ia_sIa, nI_clamp (by omega), sj_dj_3 _ _ _ _ hkj, sj_dj_s _ _ _ _ hkj]
  refine sj_aload_n C 1 rfl dX7_dropOath_0 rfl rfl ?_
  refine sj_getr C 4 rfl fd_X7_7 dX7_dropOath_1 kd_h rf_h_1 ?_
  refine sj_bipush C (10) 6 rfl dX7_dropOath_4 (by decide) ?_
  refine sj_dup2 C 7 rfl dX7_dropOath_6 rfl rfl ?_
  refine sj_iald C 8 rfl dX7_dropOath_7 kd_a1 (by show vp_in (nI 10) (sj_il S (b 1)); rw [il_a1]; exact vp_in_nI (by omega) (by omega)) ?_
  rw [show Int32.toNatClampNeg (10) = 10 from rfl, h10]
  refine sj_iconstv C (1) 9 rfl dX7_dropOath_8 rfl ?_
  refine sj_isub C 10 rfl dX7_dropOath_9 ?_
  rw [show nI (sj_tn ((sj_ia S (b 1)) 10)) - 1 = nI (sj_tn ((sj_ia S (b 1)) 10) - 1) from sj_nsub (b := 1) (by omega)]
  refine sj_iast C 11 rfl dX7_dropOath_10 kd_a1 (by show vp_in (nI 10) (sj_il S (b 1)); rw [il_a1]; exact vp_in_nI (by omega) (by omega)) ?_
  refine sj_bipush C (14) 13 rfl dX7_dropOath_11 (by decide) ?_
  refine sj_iconstv C (3) 14 rfl dX7_dropOath_13 rfl ?_
  refine sj_iload_n C 15 rfl dX7_dropOath_14 rfl rfl ?_
  refine sj_imul C 16 rfl dX7_dropOath_15 ?_
  refine sj_iadd C 17 rfl dX7_dropOath_16 ?_
  rw [sj_i14z]
  refine sj_istore_n_2 C 18 rfl dX7_dropOath_17 rfl rfl ?_
  refine cut_18 _ ?_
  rw [sj_dj_0]
  rfl
set_option maxRecDepth 100000 in
set_option maxHeartbeats 4000000 in
theorem ct_X7_swears (l : Launch) {S : sj_St} {h : Nat} {b : Nat → Nat} {m : Nat → Int32} (hm : sj_mm S h b m) (i e : Nat) (like : Bool) (h10 : m 10 = nI (sj_tn (m 10))) (hn28 : sj_tn (m 10) < 28) (hv : sj_oav (sj_sw m i e like)) : sj_Ctr l mX7_swears [.ref h, .int (nI i), .int (nI e), .int (sj_bi like)] S (sj_scr (some (.int (sj_hds (sj_sw m i e like)))) (sj_sIa S (b 1) (sj_sw m i e like)) b) := by
  refine sj_start ([some (.ref h), some (.int (nI i)), some (.int (nI e)), some (.int (sj_bi like)), none]) (by decide +kernel) rfl rfl (fun X hX C hR => ?_)
  subst hX
  have hm0 := hm
  obtain ⟨hm', em⟩ := hm0
  subst em
  obtain ⟨kd_h, ⟨rf_h_1, kd_a1, il_a1⟩, ⟨rf_h_2, kd_a2, il_a2⟩, ⟨rf_h_3, kd_a3, il_a3⟩, ⟨rf_h_5, kd_a5, il_a5⟩, ⟨rf_h_7, kd_a7, il_a7⟩, ⟨rf_h_13, kd_a13, il_a13⟩, ⟨rf_h_15, kd_a15, il_a15⟩, hinj⟩ := hm'
  have cut_72 : ∀ S', S' = (sj_sIa S (b 1) (sj_sw (sj_ia S (b 1)) i e like)) → ∀ o1, sj_G X S' 0 0 [some (.ref h), some (.int (nI i)), some (.int (nI e)), some (.int (sj_bi like)), o1] 72 [] := by
    intro S' hS' o1
    subst hS'
    have hmk := sj_mm_1 hm (sj_sw (sj_ia S (b 1)) i e like)
    refine sj_aload_n C 73 rfl dX7_swears_72 rfl rfl ?_
    refine sj_callVp C 76 rfl dX7_swears_73 cv_X7_125 rfl (ct_X7_hands _ hmk hv) rfl rfl rfl ⟨_, _, kd_h, rfl, rfl, by decide⟩ ⟨rfl, rfl⟩ (fun v_73 S_73 hp_73 => ?_)
    obtain ⟨rfl, g_73, rfl⟩ := hp_73
    refine sj_iret C hR rfl rfl dX7_swears_76 ?_
    exact ⟨rfl, _, rfl⟩
  refine sj_bipush C (14) 2 rfl dX7_swears_0 (by decide) ?_
  refine sj_iconstv C (3) 3 rfl dX7_swears_2 rfl ?_
  refine sj_aload_n C 4 rfl dX7_swears_3 rfl rfl ?_
  refine sj_getr C 7 rfl fd_X7_7 dX7_swears_4 kd_h rf_h_1 ?_
  refine sj_bipush C (10) 9 rfl dX7_swears_7 (by decide) ?_
  refine sj_iald C 10 rfl dX7_swears_9 kd_a1 (by show vp_in (nI 10) (sj_il S (b 1)); rw [il_a1]; exact vp_in_nI (by omega) (by omega)) ?_
  rw [show Int32.toNatClampNeg (10) = 10 from rfl, h10]
  refine sj_imul C 11 rfl dX7_swears_10 ?_
  refine sj_iadd C 12 rfl dX7_swears_11 ?_
  rw [sj_i14z]
  refine sj_istore_4 C 14 rfl dX7_swears_12 rfl rfl ?_
  refine sj_aload_n C 15 rfl dX7_swears_14 rfl rfl ?_
  refine sj_getr C 18 rfl fd_X7_7 dX7_swears_15 kd_h rf_h_1 ?_
  refine sj_iload C 20 rfl dX7_swears_18 rfl ?_
  refine sj_iload_n C 21 rfl dX7_swears_20 rfl rfl ?_
  refine sj_iast C 22 rfl dX7_swears_21 kd_a1 (by show vp_in (nI (14 + 3 * sj_tn ((sj_ia S (b 1)) 10))) (sj_il S (b 1)); rw [il_a1]; exact vp_in_nI (by omega) (by omega)) ?_
  refine sj_aload_n C 23 rfl dX7_swears_22 rfl rfl ?_
  refine sj_getr C 26 rfl fd_X7_7 dX7_swears_23 kd_h rf_h_1 ?_
  refine sj_iload C 28 rfl dX7_swears_26 rfl ?_
  refine sj_iconstv C (1) 29 rfl dX7_swears_28 rfl ?_
  refine sj_iadd C 30 rfl dX7_swears_29 ?_
  rw [show nI (14 + 3 * sj_tn ((sj_ia S (b 1)) 10)) + 1 = nI (14 + 3 * sj_tn ((sj_ia S (b 1)) 10) + 1) from nI_1 _]
  refine sj_iload_n C 31 rfl dX7_swears_30 rfl rfl ?_
  refine sj_iast C 32 rfl dX7_swears_31 kd_a1 (by show vp_in (nI (14 + 3 * sj_tn ((sj_ia S (b 1)) 10) + 1)) (sj_il S (b 1)); rw [il_a1]; exact vp_in_nI (by omega) (by omega)) ?_
  refine sj_aload_n C 33 rfl dX7_swears_32 rfl rfl ?_
  refine sj_getr C 36 rfl fd_X7_7 dX7_swears_33 kd_h rf_h_1 ?_
  refine sj_iload C 38 rfl dX7_swears_36 rfl ?_
  refine sj_iconstv C (2) 39 rfl dX7_swears_38 rfl ?_
  refine sj_iadd C 40 rfl dX7_swears_39 ?_
  rw [show nI (14 + 3 * sj_tn ((sj_ia S (b 1)) 10)) + 2 = nI (14 + 3 * sj_tn ((sj_ia S (b 1)) 10) + 2) from nI_add _ 2]
  refine sj_iload_n C 41 rfl dX7_swears_40 rfl rfl ?_
  refine sj_if_eq C 48 44 rfl rfl dX7_swears_41 (fun c_41 => ?_) (fun c_41 => ?_)
  · refine sj_iconstv C (0) 49 rfl dX7_swears_48 rfl ?_
    refine sj_iast C 50 rfl dX7_swears_49 kd_a1 (by show vp_in (nI (14 + 3 * sj_tn ((sj_ia S (b 1)) 10) + 2)) (sj_il S (b 1)); rw [il_a1]; exact vp_in_nI (by omega) (by omega)) ?_
    refine sj_aload_n C 51 rfl dX7_swears_50 rfl rfl ?_
    refine sj_getr C 54 rfl fd_X7_7 dX7_swears_51 kd_h rf_h_1 ?_
    refine sj_bipush C (10) 56 rfl dX7_swears_54 (by decide) ?_
    refine sj_dup2 C 57 rfl dX7_swears_56 rfl rfl ?_
    refine sj_iald C 58 rfl dX7_swears_57 kd_a1 (by show vp_in (nI 10) (sj_il S (b 1)); rw [il_a1]; exact vp_in_nI (by omega) (by omega)) ?_
    refine sj_iconstv C (1) 59 rfl dX7_swears_58 rfl ?_
    refine sj_iadd C 60 rfl dX7_swears_59 ?_
    refine sj_iast C 61 rfl dX7_swears_60 kd_a1 (by show vp_in (nI 10) (sj_il S (b 1)); rw [il_a1]; exact vp_in_nI (by omega) (by omega)) ?_
    refine sj_aload_n C 62 rfl dX7_swears_61 rfl rfl ?_
    refine sj_getr C 65 rfl fd_X7_7 dX7_swears_62 kd_h rf_h_1 ?_
    refine sj_bipush C (11) 67 rfl dX7_swears_65 (by decide) ?_
    refine sj_dup2 C 68 rfl dX7_swears_67 rfl rfl ?_
    refine sj_iald C 69 rfl dX7_swears_68 kd_a1 (by show vp_in (nI 11) (sj_il S (b 1)); rw [il_a1]; exact vp_in_nI (by omega) (by omega)) ?_
    refine sj_iconstv C (1) 70 rfl dX7_swears_69 rfl ?_
    refine sj_iadd C 71 rfl dX7_swears_70 ?_
    refine sj_iast C 72 rfl dX7_swears_71 kd_a1 (by show vp_in (nI 11) (sj_il S (b 1)); rw [il_a1]; exact vp_in_nI (by omega) (by omega)) ?_
    refine cut_72 _ ?_ _
    simp only [nI_clamp (show 14 + 3 * sj_tn ((sj_ia S (b 1)) 10) < 2 ^ 31 by omega), nI_clamp (show 14 + 3 * sj_tn ((sj_ia S (b 1)) 10) + 1 < 2 ^ 31 by omega), nI_clamp (show 14 + 3 * sj_tn ((sj_ia S (b 1)) 10) + 2 < 2 ^ 31 by omega), sj_wIa_eq, sj_sIa_sIa, sj_ia_sIa]
    unfold sj_sw sj_sw2 sj_sw1
    rw [sj_bi0.mp c_41]
    rfl
  · refine sj_iconstv C (1) 45 rfl dX7_swears_44 rfl ?_
    refine sj_goto C 49 rfl dX7_swears_45 ?_
    refine sj_iast C 50 rfl dX7_swears_49 kd_a1 (by show vp_in (nI (14 + 3 * sj_tn ((sj_ia S (b 1)) 10) + 2)) (sj_il S (b 1)); rw [il_a1]; exact vp_in_nI (by omega) (by omega)) ?_
    refine sj_aload_n C 51 rfl dX7_swears_50 rfl rfl ?_
    refine sj_getr C 54 rfl fd_X7_7 dX7_swears_51 kd_h rf_h_1 ?_
    refine sj_bipush C (10) 56 rfl dX7_swears_54 (by decide) ?_
    refine sj_dup2 C 57 rfl dX7_swears_56 rfl rfl ?_
    refine sj_iald C 58 rfl dX7_swears_57 kd_a1 (by show vp_in (nI 10) (sj_il S (b 1)); rw [il_a1]; exact vp_in_nI (by omega) (by omega)) ?_
    refine sj_iconstv C (1) 59 rfl dX7_swears_58 rfl ?_
    refine sj_iadd C 60 rfl dX7_swears_59 ?_
    refine sj_iast C 61 rfl dX7_swears_60 kd_a1 (by show vp_in (nI 10) (sj_il S (b 1)); rw [il_a1]; exact vp_in_nI (by omega) (by omega)) ?_
    refine sj_aload_n C 62 rfl dX7_swears_61 rfl rfl ?_
    refine sj_getr C 65 rfl fd_X7_7 dX7_swears_62 kd_h rf_h_1 ?_
    refine sj_bipush C (11) 67 rfl dX7_swears_65 (by decide) ?_
    refine sj_dup2 C 68 rfl dX7_swears_67 rfl rfl ?_
    refine sj_iald C 69 rfl dX7_swears_68 kd_a1 (by show vp_in (nI 11) (sj_il S (b 1)); rw [il_a1]; exact vp_in_nI (by omega) (by omega)) ?_
    refine sj_iconstv C (1) 70 rfl dX7_swears_69 rfl ?_
    refine sj_iadd C 71 rfl dX7_swears_70 ?_
    refine sj_iast C 72 rfl dX7_swears_71 kd_a1 (by show vp_in (nI 11) (sj_il S (b 1)); rw [il_a1]; exact vp_in_nI (by omega) (by omega)) ?_
    refine cut_72 _ ?_ _
    simp only [nI_clamp (show 14 + 3 * sj_tn ((sj_ia S (b 1)) 10) < 2 ^ 31 by omega), nI_clamp (show 14 + 3 * sj_tn ((sj_ia S (b 1)) 10) + 1 < 2 ^ 31 by omega), nI_clamp (show 14 + 3 * sj_tn ((sj_ia S (b 1)) 10) + 2 < 2 ^ 31 by omega), sj_wIa_eq, sj_sIa_sIa, sj_ia_sIa]
    unfold sj_sw sj_sw2 sj_sw1
    rw [sj_bin.mp c_41]
    rfl
set_option maxRecDepth 100000 in
set_option maxHeartbeats 4000000 in
theorem ct_X7_mix (l : Launch) {S : sj_St} {h : Nat} {b : Nat → Nat} {m : Nat → Int32} (hm : sj_mm S h b m) (v : Int64) : sj_Ctr l mX7_mix [.ref h, .long v] S (sj_eq none (sj_wFl S h (31 * sj_fl S h + v))) := by
  refine sj_start ([some (.ref h), some (.long v), none]) (by decide +kernel) rfl rfl (fun X hX C hR => ?_)
  subst hX
  have hm0 := hm
  obtain ⟨hm', em⟩ := hm0
  subst em
  obtain ⟨kd_h, ⟨rf_h_1, kd_a1, il_a1⟩, ⟨rf_h_2, kd_a2, il_a2⟩, ⟨rf_h_3, kd_a3, il_a3⟩, ⟨rf_h_5, kd_a5, il_a5⟩, ⟨rf_h_7, kd_a7, il_a7⟩, ⟨rf_h_13, kd_a13, il_a13⟩, ⟨rf_h_15, kd_a15, il_a15⟩, hinj⟩ := hm'
  refine sj_aload_n C 1 rfl dX7_mix_0 rfl rfl ?_
  refine sj_ldc2 C 31 4 rfl (wr_43 _ (List.mem_of_getElem? (i := 21) (by decide +kernel))) dX7_mix_1 ?_
  refine sj_aload_n C 5 rfl dX7_mix_4 rfl rfl ?_
  refine sj_getJ C 8 rfl fd_X7_260 dX7_mix_5 kd_h ?_
  refine sj_lmul C 9 rfl dX7_mix_8 ?_
  refine sj_lload_n C 10 rfl dX7_mix_9 rfl rfl ?_
  refine sj_ladd C 11 rfl dX7_mix_10 ?_
  refine sj_putJ C 14 rfl fd_X7_260 dX7_mix_11 rfl rfl sj_only16 kd_h ?_
  refine sj_vret C hR rfl rfl dX7_mix_14 ?_
  exact ⟨rfl, rfl⟩
