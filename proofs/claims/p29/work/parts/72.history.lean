/-! CONSTRUCTORS: the history, the object itself -/
/-- their rooms, all tables counted -/
abbrev nX0_init : sj_M := (yX0_init, cX0_init, 2, none, 4, 88, 121, 3084)
abbrev nX6_init : sj_M := (yX6_init, cX6_init, 1, none, 5, 109, 173, 4428)
theorem cw_X6_25 : sj_Vi RX6 25 nX0_init 0 := cv_X6_25
theorem sq_Gc {X : sj_X} {S : sj_St} {cl cl' sl sl' : Nat} {L : List (Option Value)} {pc : Nat} {st : List Value} (h1 : cl = cl') (h2 : sl = sl') (h : sj_G X S cl sl L pc st) : sj_G X S cl' sl' L pc st := by
  subst h1
  subst h2
  exact h
theorem sq_fit2 {a b c d : Nat} (h1 : a ≤ b) (h2 : c ≤ d) : (Nat.ble a b && Nat.ble c d) = true := by
  rw [Nat.ble_eq.mpr h1, Nat.ble_eq.mpr h2]
  rfl
theorem sq_fit4 {a b c d e f g h : Nat} (h1 : Nat.ble a b = true) (h2 : Nat.ble c d = true) (h3 : e ≤ f) (h4 : g ≤ h) : (Nat.ble a b && (Nat.ble c d && (Nat.ble e f && Nat.ble g h))) = true := by
  rw [h1, h2, Nat.ble_eq.mpr h3, Nat.ble_eq.mpr h4]
  rfl
theorem sq_xp_ra {P : Nat → Prop} {S : sj_St} {a k : Nat} {v : Option Nat} (h : P a) : sq_xp P S (sj_wRa S a k v) := fun b c hb => ⟨hb, fun hp => ⟨rfl, rfl, rfl, rfl, sj_up_ne _ _ (fun e => hp (e ▸ h)), rfl⟩⟩
/-- k tables stand in the row s -/
def sq_hk (U : sj_St) (s k : Nat) (L : List Nat) (T : sj_St) : Prop := L.length = 20 * k ∧ sq_fl U L T ∧ (∀ j, j < k → sj_ra T s j = some (L.getD (20 * j) 0) ∧ sq_nT T (fun i => L.getD (20 * j + sq_og i) 0)) ∧ sq_xp (fun b => b = s) U T ∧ sj_il T s = sj_il U s
theorem sq_hk_s {U T T1 : sj_St} {s k t : Nat} {L L19 : List Nat} (ks : sj_kd U s = some 10) (h : sq_hk U s k L T) (ft : sj_kd T t = none) (hL : L19.length = 19) (hl : sq_fl (sj_nO T t 4) L19 T1) (hn : sq_nT T1 (fun i => (t :: L19).getD (sq_og i) 0)) (x1 : sq_xp (fun b => b = t) (sj_nO T t 4) T1) : sq_hk U s (k + 1) (L ++ (t :: L19)) (sj_wRa T1 s k (some t)) := by
  obtain ⟨h1, h2, h3, h4, h5⟩ := h
  have ksT : sj_kd T s = some 10 := sq_x_k h4 ks
  have xT : sq_xp (fun _ => False) T T1 := sq_xp_new (sq_xp_nO ft) ft x1
  have hl2 : sq_fl T (t :: L19) T1 := sq_fl_new ft hl x1
  have hl3 : sq_fl T (t :: L19) (sj_wRa T1 s k (some t)) := hl2
  have x2 : sq_xp (fun b => b = s) T (sj_wRa T1 s k (some t)) := sq_xp_tr (sq_xp_up xT (fun _ _ _ h => h.elim)) (sq_xp_ra rfl)
  have e5 : sj_ra (sj_wRa T1 s k (some t)) s = va_up (sj_ra T1 s) k (some t) := sj_up_self _ _ _
  refine ⟨?_, sq_fl_tr h2 h4 hl3 x2, fun j hj => ?_, sq_xp_tr h4 x2, ?_⟩
  · rw [List.length_append, h1]
    show 20 * k + (L19.length + 1) = 20 * (k + 1)
    omega
  · by_cases hjk : j = k
    · subst hjk
      have e0 : ∀ i, (L ++ (t :: L19)).getD (20 * j + i) 0 = (t :: L19).getD i 0 := fun i => sq_gd_r h1
      refine ⟨?_, sq_nT_cg (D := fun i => (t :: L19).getD (sq_og i) 0) (fun i hi => e0 (sq_og i)) (sq_nT_xp (P := fun b => b = s) (sq_xp_ra rfl) (fun i hi => sq_fl_ne hl2 ksT (sq_gd_mem (by show sq_og i < L19.length + 1; have := sq_og_lt hi; omega))) hn)⟩
      rw [e5, show va_up (sj_ra T1 s) j (some t) j = some t from if_pos rfl]
      exact (congrArg some (e0 0)).symm
    · have hj2 : j < k := by omega
      obtain ⟨g1, g2⟩ := h3 j hj2
      refine ⟨?_, sq_nT_cg (D := fun i => L.getD (20 * j + sq_og i) 0) (fun i hi => sq_gd_l (by have := sq_og_lt hi; omega)) (sq_nT_xp x2 (fun i hi => sq_fl_ne h2 ks (sq_gd_mem (by have := sq_og_lt hi; omega))) g2)⟩
      rw [e5, show va_up (sj_ra T1 s) k (some t) j = sj_ra T1 s j from if_neg hjk, sq_x_ra xT ksT (fun h => h) j, g1]
      exact congrArg some (sq_gd_l (by omega)).symm
  · exact (sq_x_il xT ksT (fun h => h)).trans h5
theorem sq_h_fin {S U T : sj_St} {a s : Nat} {L : List Nat} (ka : sj_kd S a = some 0) (f1 : sq_fx S a 0 0 s [] U) (ks : sj_kd U s = some 10) (hil : sj_il U s = 6) (h : sq_hk U s 6 L T) : (∃ L : List Nat, L.length = 121 ∧ sq_fl S L T ∧ (sj_rf T a 0 = some (L.getD 0 0) ∧ sj_kd T (L.getD 0 0) = some 10 ∧ sj_il T (L.getD 0 0) = 6) ∧ (∀ j, j < 6 → sj_ra T (L.getD 0 0) j = some (L.getD (1 + 20 * j) 0) ∧ sq_nT T (fun i => L.getD (1 + 20 * j + sq_og i) 0)) ∧ sj_fi T a = sj_fi S a ∧ sq_xp (fun b => b = a) S T) := by
  obtain ⟨h1, h2, h3, h4, h5⟩ := h
  have hfl := sq_fl_tr f1.1.1 f1.2.2.2.2 h2 h4
  have hne : a ≠ s := fun e => by
    have h9 := f1.1.2
    rw [e, ks] at h9
    cases h9
  have e1 : ∀ i, (s :: L).getD (1 + i) 0 = L.getD i 0 := fun i => by
    rw [Nat.add_comm]
    rfl
  refine ⟨s :: L, by show L.length + 1 = 121; omega, hfl, ⟨(sq_x_rf h4 f1.1.2 hne 0).trans f1.2.1, sq_x_k h4 ks, h5.trans hil⟩, fun j hj => ?_, ((h4 a 0 f1.1.2).2 hne).2.2.1.trans f1.2.2.2.1, ?_⟩
  · obtain ⟨g1, g2⟩ := h3 j hj
    refine ⟨?_, sq_nT_cg (D := fun i => L.getD (20 * j + sq_og i) 0) (fun i hi => ?_) g2⟩
    · rw [e1]
      exact g1
    · rw [Nat.add_assoc]
      exact e1 _
  · refine sq_xp_tq f1.2.2.2.2 h4 (fun b c hb e => ?_)
    have e' : b = s := e
    have h9 := (f1.1.1.1 s List.mem_cons_self).1
    rw [← e', hb] at h9
    cases h9
set_option maxRecDepth 100000 in
set_option maxHeartbeats 300000 in
theorem ct_X0_init (l : Launch) {S : sj_St} {a : Nat} (kd_a0 : sj_kd S a = some 0) : sj_Ctr l nX0_init [.ref a] S (fun v T => v = none ∧ (∃ L : List Nat, L.length = 121 ∧ sq_fl S L T ∧ (sj_rf T a 0 = some (L.getD 0 0) ∧ sj_kd T (L.getD 0 0) = some 10 ∧ sj_il T (L.getD 0 0) = 6) ∧ (∀ j, j < 6 → sj_ra T (L.getD 0 0) j = some (L.getD (1 + 20 * j) 0) ∧ sq_nT T (fun i => L.getD (1 + 20 * j + sq_og i) 0)) ∧ sj_fi T a = sj_fi S a ∧ sq_xp (fun b => b = a) S T)) := by
  refine sj_start ([some (.ref a), none]) (by decide +kernel) rfl rfl (fun X hX C hR => ?_)
  subst hX
  have kd_a := kd_a0
  have cut_15 : ∀ (U : sj_St) (s : Nat), sj_kd U a = some 0 → sj_rf U a 0 = some s → sj_kd U s = some 10 → sj_il U s = 6 → (∀ (L : List Nat) (T : sj_St), sq_hk U s 6 L T → (∃ L : List Nat, L.length = 121 ∧ sq_fl S L T ∧ (sj_rf T a 0 = some (L.getD 0 0) ∧ sj_kd T (L.getD 0 0) = some 10 ∧ sj_il T (L.getD 0 0) = 6) ∧ (∀ j, j < 6 → sj_ra T (L.getD 0 0) j = some (L.getD (1 + 20 * j) 0) ∧ sq_nT T (fun i => L.getD (1 + 20 * j + sq_og i) 0)) ∧ sj_fi T a = sj_fi S a ∧ sq_xp (fun b => b = a) S T)) → ∀ (L : List Nat) (T : sj_St), sq_hk U s 0 L T → sj_G X T (1 + 20 * 0) (6 + 513 * 0) [some (.ref a), some (.int (nI 0))] 15 [] := by
    intro U s kd_aU rf_aU kd_sU ilU hpost
    have hne : a ≠ s := fun e => by
      rw [e, kd_sU] at kd_aU
      cases kd_aU
    refine sj_down (fun k => ∀ (L : List Nat) (T : sj_St), sq_hk U s k L T → sj_G X T (1 + 20 * k) (6 + 513 * k) [some (.ref a), some (.int (nI k))] 15 []) 6 (fun k hk ih => ?_)
    intro L T hh
    have kd_a := sq_x_k hh.2.2.2.1 kd_aU
    have rf_a_0 : sj_rf T a 0 = some s := (sq_x_rf hh.2.2.2.1 kd_aU hne 0).trans rf_aU
    have kd_s := sq_x_k hh.2.2.2.1 kd_sU
    have il_s : sj_il T s = 6 := hh.2.2.2.2.trans ilU
    refine sj_iload_n C 16 rfl dX0_init_15 rfl rfl ?_
    refine sj_aload_n C 17 rfl dX0_init_16 rfl rfl ?_
    refine sj_getr C 20 rfl fd_X0_11 dX0_init_17 kd_a rf_a_0 ?_
    refine sj_alen10 C 21 rfl dX0_init_20 kd_s ?_
    refine sj_icmp_ge C 43 24 rfl rfl dX0_init_21 (fun c_21 => ?_) (fun c_21 => ?_)
    · have hk6 : k = 6 := by
        have h9 : ¬ k < 6 := fun h => nI_ge (b := 6) h (by omega) (by have h8 : Int32.ofNat (sj_il T s) ≤ nI k := c_21; rw [il_s] at h8; exact h8)
        omega
      subst hk6
      refine sj_vret C hR rfl rfl dX0_init_43 ?_
      exact ⟨rfl, hpost _ _ hh⟩
    · have hlt : k < 6 := Nat.not_le.mp fun h9 => c_21 (by show Int32.ofNat (sj_il T s) ≤ nI k; rw [il_s]; exact nI_le (a := 6) h9 (by omega))
      refine sj_aload_n C 25 rfl dX0_init_24 rfl rfl ?_
      refine sj_getr C 28 rfl fd_X0_11 dX0_init_25 kd_a rf_a_0 ?_
      refine sj_iload_n C 29 rfl dX0_init_28 rfl rfl ?_
      refine sj_new C 32 rfl kk_X4 dX0_init_29 (⟨wr_5 _ (List.mem_of_getElem? (i := 10) (by decide +kernel)), wr_1 _ (List.mem_of_getElem? (i := 15) (by decide +kernel)), wr_1 _ (List.mem_of_getElem? (i := 16) (by decide +kernel))⟩) (show _ from sq_fit2 (b := 121) (d := 3084) (by omega) (by omega)) (fun a_29 fr_29 => ?_)
      refine sj_dup C 33 rfl dX0_init_32 rfl ?_
      refine sj_callI C 36 rfl dX0_init_33 cv_X0_17 (show _ from sq_fit4 (by decide) (by decide) (show 1 + 20 * k + 1 + 19 ≤ 121 by omega) (show 6 + 513 * k + 8 + 505 ≤ 3084 by omega)) (ct_X4_init _ (sj_kd_nO T a_29 4) (sj_up_self _ _ _)) rfl rfl rfl rfl rfl (fun v_33 S_33 hp_33 => ?_)
      obtain ⟨rfl, L19, hL19, hl19, hn19, x19⟩ := hp_33
      have hk1 := sq_hk_s kd_sU hh fr_29 hL19 hl19 hn19 x19
      have xT : sq_xp (fun _ => False) T S_33 := sq_xp_new (sq_xp_nO fr_29) fr_29 x19
      have kd_s9 : sj_kd S_33 s = some 10 := sq_x_k xT kd_s
      have il_s9 : sj_il S_33 s = 6 := (sq_x_il xT kd_s (fun h => h)).trans il_s
      have kd_29 : sj_kd S_33 a_29 = some 4 := hn19.1.1
      clear kd_s
      have kd_s := kd_s9
      refine sj_aast10 (v := some a_29) C 37 rfl dX0_init_36 kd_s (by rw [il_s9]; exact vp_in_nI hlt (by omega)) (fun b hb => by cases hb; exact kd_29) ?_
      rw [show (nI k).toNatClampNeg = k from nI_clamp (by omega)]
      refine sj_iinc_1 C 40 rfl dX0_init_37 rfl rfl ?_
      refine sj_goto C 15 rfl dX0_init_40 ?_
      rw [sj_n1]
      exact sq_Gc (by show 1 + 20 * (k + 1) = 1 + 20 * k + 1 + 19; omega) (by show 6 + 513 * (k + 1) = 6 + 513 * k + 8 + 505; omega) (ih hlt _ _ hk1)
  refine sj_aload_n C 1 rfl dX0_init_0 rfl rfl ?_
  refine sj_objI C 4 rfl dX0_init_1 (wr_5 _ (List.mem_of_getElem? (i := 9) (by decide +kernel))) rfl ?_
  refine sj_aload_n C 5 rfl dX0_init_4 rfl rfl ?_
  refine sj_bipush C (6) 7 rfl dX0_init_5 (by decide) ?_
  rw [show (6 : Int32) = nI 6 from rfl]
  refine sj_newq C 10 rfl (Or.inr rfl) dX0_init_7 (wr_5 _ (List.mem_of_getElem? (i := 10) (by decide +kernel))) (by omega) rfl (fun a_7 fr_7 => ?_)
  refine sj_putRF (v := some a_7) C 13 rfl fd_X0_11 dX0_init_10 rfl rfl rfl (fun _ _ _ h => by cases h; rfl) (sj_noN _ _ (by decide +kernel)) (sq_x_k (sq_xp_nR (P := fun _ => False) fr_7) kd_a) ?_
  obtain ⟨f1, k1, l1, z1⟩ := sq_fx_nR (f := 0) (ci := 10) (n := 6) kd_a fr_7
  generalize sj_wRf (sj_nR S a_7 10 6) a 0 (some a_7) = U1 at f1 k1 l1 z1 ⊢
  have kd_a := f1.1.2
  refine sj_iconstv C (0) 14 rfl dX0_init_13 rfl ?_
  refine sj_istore_n_1 C 15 rfl dX0_init_14 rfl rfl ?_
  exact cut_15 U1 a_7 kd_a f1.2.1 k1 l1 (fun L T hh => sq_h_fin kd_a0 f1 k1 l1 hh) [] U1 ⟨rfl, sq_fl_0 _ _, fun j hj => absurd hj (Nat.not_lt_zero j), sq_xp_id, rfl⟩
