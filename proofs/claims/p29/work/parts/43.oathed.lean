/-! THE CLASS: how its oaths change -/
theorem sj_ind (P : Nat → Prop) (h0 : P 0) (hs : ∀ k, P k → P (k + 1)) : ∀ k, P k
  | 0 => h0
  | k + 1 => hs k (sj_ind P h0 hs k)
theorem sq_jv {f : Nat → Int32} {k : Nat} {a c : Int32} (h : f k = a ∨ f k = c) : (if c < a then c else a) = if f k = a ∨ f k = c then (if a < c then a else c) else f k := by
  rw [if_pos h]
  by_cases h1 : c < a
  · rw [if_pos h1, if_neg (Int32.not_lt.mpr (Int32.le_of_lt h1))]
  · rw [if_neg h1]
    by_cases h2 : a < c
    · rw [if_pos h2]
    · rw [if_neg h2]
      exact Int32.le_antisymm (Int32.not_lt.mp h1) (Int32.not_lt.mp h2)
theorem sq_jv0 {f : Nat → Int32} {k : Nat} {a c : Int32} (h1 : ¬ f k = a) (h2 : ¬ f k = c) : sj_jn k f a c = sj_jn (k + 1) f a c := by
  funext j
  unfold sj_jn
  by_cases h : j < k ∧ (f j = a ∨ f j = c)
  · rw [if_pos h, if_pos (show j < k + 1 ∧ (f j = a ∨ f j = c) from ⟨by omega, h.2⟩)]
  · rw [if_neg h]
    refine (if_neg (fun h3 => ?_)).symm
    by_cases hj : j = k
    · subst hj
      exact h3.2.elim h1 h2
    · exact h ⟨by omega, h3.2⟩
theorem sj_at_cp (G f : Nat → Int32) (v : Int32) : sj_at 8 (sj_cp 8 G f) v = sj_at 8 G v := by
  unfold sj_at
  by_cases h1 : v < 0
  · rw [if_pos h1, if_pos h1]
  · rw [if_neg h1, if_neg h1]
    by_cases h2 : Int32.ofNat 8 ≤ v
    · rw [if_pos h2, if_pos h2]
    · rw [if_neg h2, if_neg h2]
      obtain ⟨j, hj, rfl⟩ := nI_of h1
      rw [nI_clamp hj]
      exact if_pos (Nat.not_le.mp fun h => h2 (nI_le (a := 8) h hj))
theorem sj_jn_cp8 (H f : Nat → Int32) (a c : Int32) : sj_jn 8 (sj_cp 8 H f) a c = sj_cp 8 (sj_jn 8 H a c) f := by
  funext j
  by_cases h : j < 8
  · have e3 : sj_cp 8 H f j = H j := if_pos h
    have e4 : sj_cp 8 (sj_jn 8 H a c) f j = sj_jn 8 H a c j := if_pos h
    rw [e4]
    unfold sj_jn
    rw [e3]
  · have e3 : sj_cp 8 H f j = f j := if_neg h
    have e4 : sj_cp 8 (sj_jn 8 H a c) f j = f j := if_neg h
    rw [e4]
    unfold sj_jn
    rw [e3]
    exact if_neg (by omega)
theorem sj_cp_n (k : Nat) (G f : Nat → Int32) {v : Int32} (hv : v = G k) : upd (sj_cp k G f) k v = sj_cp (k + 1) G f := by
  subst hv
  exact sj_cp_s k G f
/-- oath k taken out -/
def sq_tk (k : Nat) (c : Nat × (Nat → Int32) × (Nat → Int32) × (Nat → Int32)) : Nat × (Nat → Int32) × (Nat → Int32) × (Nat → Int32) := (c.1 - 1, sj_cu k 27 c.2.1, sj_cu k 27 c.2.2.1, sj_cu k 27 c.2.2.2)
/-- the oaths of s taken out, from the k-th down -/
def sq_fg (s : Int32) : Nat → Nat × (Nat → Int32) × (Nat → Int32) × (Nat → Int32) → Nat × (Nat → Int32) × (Nat → Int32) × (Nat → Int32)
  | 0, c => c
  | k + 1, c => sq_fg s k (if sq_of c.2.1 c.2.2.1 k s then sq_tk k c else c)
theorem sq_fg_le (s : Int32) : ∀ (k : Nat) (c : Nat × (Nat → Int32) × (Nat → Int32) × (Nat → Int32)), (sq_fg s k c).1 ≤ c.1
  | 0, c => Nat.le_refl _
  | k + 1, c => by
    refine Nat.le_trans (sq_fg_le s k _) ?_
    by_cases h : sq_of c.2.1 c.2.2.1 k s = true
    · rw [if_pos h]
      exact Nat.sub_le _ _
    · rw [if_neg h]
      exact Nat.le_refl _
def sq_rn (s : Int32) (k : Nat) (f : Nat → Int32) : Nat → Int32 := fun j => if j < k then sq_nw s (f j) else f j
theorem sq_rn_0 (s : Int32) (f : Nat → Int32) : sq_rn s 0 f = f := by
  funext j
  exact if_neg (by omega)
theorem sq_rn_k (s : Int32) (k : Nat) (f : Nat → Int32) : sq_rn s k f k = f k := if_neg (by omega)
theorem sq_rn_s (s : Int32) (k : Nat) (f : Nat → Int32) : upd (sq_rn s k f) k (sq_nw s (f k)) = sq_rn s (k + 1) f := by
  funext j
  unfold upd sq_rn
  by_cases h : j = k
  · subst h
    rw [if_pos rfl, if_pos (by omega)]
  · rw [if_neg h]
    by_cases h2 : j < k
    · rw [if_pos h2, if_pos (by omega)]
    · rw [if_neg h2, if_neg (by omega)]
set_option maxRecDepth 100000 in
set_option maxHeartbeats 200000 in
theorem ct_X1_joinTwo (l : Launch) {S : sj_St} {o : Nat} {d : Nat → Nat} (h : sq_ol S o d) {n : Nat} (hn : n ≤ 28) {w : Int32} {f1 f2 f3 f7 : Nat → Int32} (a c : Int32) : sj_Ctr l mX1_joinTwo [.ref o, .int a, .int c] (sq_os S o d (nI n, w, f1, f2, f3, f7)) (sj_eq none (sq_os S o d (nI n, w, f1, f2, f3, sj_jn (8) f7 a c))) := by
  refine sj_start ([some (.ref o), some (.int a), some (.int c), none, none]) (by decide +kernel) rfl rfl (fun X hX C hR => ?_)
  subst hX
  obtain ⟨kd_o, ⟨rf_o_2, q1⟩, ⟨rf_o_3, q3⟩, ⟨rf_o_4, q5⟩, ⟨rf_o_5, q7⟩, hinj⟩ := id h
  have kd_r1 := q1.1
  have kd_r3 := q3.1
  have kd_r5 := q5.1
  have kd_r7 := q7.1
  have hr1 : ∀ c, sj_rw (sq_os S o d c) (d 1) (d 2) 28 := fun _ => q1
  have hr3 : ∀ c, sj_rw (sq_os S o d c) (d 3) (d 4) 28 := fun _ => q3
  have hr5 : ∀ c, sj_rw (sq_os S o d c) (d 5) (d 6) 28 := fun _ => q5
  have hr7 : ∀ c, sj_rw (sq_os S o d c) (d 7) (d 8) 8 := fun _ => q7
  have cut_9 : ∀ T, T = (sq_os S o d (nI n, w, f1, f2, f3, sj_jn (0) f7 a c)) → sj_G X T 0 0 [some (.ref o), some (.int a), some (.int c), some (.int (if c < a then c else a)), some (.int (nI (0)))] 9 [] := by
    refine sj_down (fun k => ∀ T, T = (sq_os S o d (nI n, w, f1, f2, f3, sj_jn (k) f7 a c)) → sj_G X T 0 0 [some (.ref o), some (.int a), some (.int c), some (.int (if c < a then c else a)), some (.int (nI (k)))] 9 []) 8 (fun k hk ih => ?_)
    intro T hT
    subst hT
    refine sj_iload C 11 rfl dX1_joinTwo_9 rfl ?_
    refine sj_bipush C (8) 13 rfl dX1_joinTwo_11 (by decide) ?_
    refine sj_icmp_ge C 58 16 rfl rfl dX1_joinTwo_13 (fun c_13 => ?_) (fun c_13 => ?_)
    · have hkn : k = 8 := by
        have h8 : ¬ k < 8 := fun h7 => nI_ge (b := 8) h7 (by omega) c_13
        omega
      subst hkn
      refine sj_vret C hR rfl rfl dX1_joinTwo_58 ?_
      exact ⟨rfl, rfl⟩
    · have hlt : k < 8 := Nat.not_le.mp fun h8 => c_13 (nI_le (a := 8) h8 (by omega))
      refine sj_aload_n C 17 rfl dX1_joinTwo_16 rfl rfl ?_
      refine sj_getr C 20 rfl fd_X1_26 dX1_joinTwo_17 kd_o rf_o_5 ?_
      refine sj_iload C 22 rfl dX1_joinTwo_20 rfl ?_
      refine sj_callVd C 25 rfl dX1_joinTwo_22 cv_X1_54 rfl (ct_X2_at _ (hr7 _) _) rfl rfl rfl ⟨_, _, kd_r7, rfl, rfl, by decide⟩ ⟨rfl, rfl⟩ ?_
      rw [sq_r8, sj_at_nI _ (by omega) (by omega), sj_jn_k]
      refine sj_iload_n C 26 rfl dX1_joinTwo_25 rfl rfl ?_
      refine sj_icmp_eq C 42 29 rfl rfl dX1_joinTwo_26 (fun c_26 => ?_) (fun c_26 => ?_)
      · refine sj_aload_n C 43 rfl dX1_joinTwo_42 rfl rfl ?_
        refine sj_getr C 46 rfl fd_X1_26 dX1_joinTwo_43 kd_o rf_o_5 ?_
        refine sj_iload C 48 rfl dX1_joinTwo_46 rfl ?_
        refine sj_iload_n C 49 rfl dX1_joinTwo_48 rfl rfl ?_
        refine sj_callVv C 52 rfl dX1_joinTwo_49 cv_X1_40 rfl (ct_X2_put _ (hr7 _) _ _) rfl rfl rfl ⟨_, _, kd_r7, rfl, rfl, by decide⟩ ⟨rfl, rfl⟩ ?_
        rw [sj_put_nI (by omega) (by omega), sj_wIa_eq, sq_r8]
        refine sj_iinc_4 C 55 rfl dX1_joinTwo_52 rfl rfl ?_
        refine sj_goto C 9 rfl dX1_joinTwo_55 ?_
        rw [sj_n1]
        refine ih hlt _ ?_
        rw [sq_w8, sj_jn_s (sq_jv (Or.inl c_26))]
      · refine sj_aload_n C 30 rfl dX1_joinTwo_29 rfl rfl ?_
        refine sj_getr C 33 rfl fd_X1_26 dX1_joinTwo_30 kd_o rf_o_5 ?_
        refine sj_iload C 35 rfl dX1_joinTwo_33 rfl ?_
        refine sj_callVd C 38 rfl dX1_joinTwo_35 cv_X1_54 rfl (ct_X2_at _ (hr7 _) _) rfl rfl rfl ⟨_, _, kd_r7, rfl, rfl, by decide⟩ ⟨rfl, rfl⟩ ?_
        rw [sq_r8, sj_at_nI _ (by omega) (by omega), sj_jn_k]
        refine sj_iload_n C 39 rfl dX1_joinTwo_38 rfl rfl ?_
        refine sj_icmp_ne C 52 42 rfl rfl dX1_joinTwo_39 (fun c_39 => ?_) (fun c_39 => ?_)
        · refine sj_iinc_4 C 55 rfl dX1_joinTwo_52 rfl rfl ?_
          refine sj_goto C 9 rfl dX1_joinTwo_55 ?_
          rw [sj_n1]
          refine ih hlt _ ?_
          rw [sq_jv0 c_26 c_39]
        · refine sj_aload_n C 43 rfl dX1_joinTwo_42 rfl rfl ?_
          refine sj_getr C 46 rfl fd_X1_26 dX1_joinTwo_43 kd_o rf_o_5 ?_
          refine sj_iload C 48 rfl dX1_joinTwo_46 rfl ?_
          refine sj_iload_n C 49 rfl dX1_joinTwo_48 rfl rfl ?_
          refine sj_callVv C 52 rfl dX1_joinTwo_49 cv_X1_40 rfl (ct_X2_put _ (hr7 _) _ _) rfl rfl rfl ⟨_, _, kd_r7, rfl, rfl, by decide⟩ ⟨rfl, rfl⟩ ?_
          rw [sj_put_nI (by omega) (by omega), sj_wIa_eq, sq_r8]
          refine sj_iinc_4 C 55 rfl dX1_joinTwo_52 rfl rfl ?_
          refine sj_goto C 9 rfl dX1_joinTwo_55 ?_
          rw [sj_n1]
          refine ih hlt _ ?_
          rw [sq_w8, sj_jn_s (sq_jv (Or.inr c_39))]
  refine sj_iload_n C 1 rfl dX1_joinTwo_0 rfl rfl ?_
  refine sj_iload_n C 2 rfl dX1_joinTwo_1 rfl rfl ?_
  refine sj_mmin C 5 rfl dX1_joinTwo_2 cv_X1_82 rfl ?_
  refine sj_istore_n_3 C 6 rfl dX1_joinTwo_5 rfl rfl ?_
  refine sj_iconstv C (0) 7 rfl dX1_joinTwo_6 rfl ?_
  refine sj_istore_4 C 9 rfl dX1_joinTwo_7 rfl rfl ?_
  exact cut_9 _ (by rw [sj_jn_0])
set_option maxRecDepth 100000 in
set_option maxHeartbeats 200000 in
theorem ct_X1_joinHands (l : Launch) {S : sj_St} {o : Nat} {d : Nat → Nat} (h : sq_ol S o d) {n : Nat} (hn : n ≤ 28) {w : Int32} {f1 f2 f3 f7 : Nat → Int32} : sj_Ctr l mX1_joinHands [.ref o] (sq_os S o d (nI n, w, f1, f2, f3, f7)) (sj_eq none (sq_os S o d (nI n, w, f1, f2, f3, sj_cp 8 (sq_hn f1 f2 f3 n) f7))) := by
  refine sj_start ([some (.ref o), none]) (by decide +kernel) rfl rfl (fun X hX C hR => ?_)
  subst hX
  obtain ⟨kd_o, ⟨rf_o_2, q1⟩, ⟨rf_o_3, q3⟩, ⟨rf_o_4, q5⟩, ⟨rf_o_5, q7⟩, hinj⟩ := id h
  have kd_r1 := q1.1
  have kd_r3 := q3.1
  have kd_r5 := q5.1
  have kd_r7 := q7.1
  have hr1 : ∀ c, sj_rw (sq_os S o d c) (d 1) (d 2) 28 := fun _ => q1
  have hr3 : ∀ c, sj_rw (sq_os S o d c) (d 3) (d 4) 28 := fun _ => q3
  have hr5 : ∀ c, sj_rw (sq_os S o d c) (d 5) (d 6) 28 := fun _ => q5
  have hr7 : ∀ c, sj_rw (sq_os S o d c) (d 7) (d 8) 8 := fun _ => q7
  have cut_25 : ∀ T, T = (sq_os S o d (nI n, w, f1, f2, f3, sj_cp 8 nI f7)) → sj_G X T 0 0 [some (.ref o), some (.int (nI (0)))] 25 [] := by
    refine sj_down (fun k => ∀ T, T = (sq_os S o d (nI n, w, f1, f2, f3, sj_cp 8 (sq_hn f1 f2 f3 k) f7)) → sj_G X T 0 0 [some (.ref o), some (.int (nI (k)))] 25 []) n (fun k hk ih => ?_)
    intro T hT
    subst hT
    refine sj_iload_n C 26 rfl dX1_joinHands_25 rfl rfl ?_
    refine sj_aload_n C 27 rfl dX1_joinHands_26 rfl rfl ?_
    refine sj_getI C 30 rfl fd_X1_29 dX1_joinHands_27 kd_o ?_
    rw [sq_f0]
    refine sj_icmp_ge C 85 33 rfl rfl dX1_joinHands_30 (fun c_30 => ?_) (fun c_30 => ?_)
    · have hkn : k = n := by
        have h8 : ¬ k < n := fun h7 => nI_ge h7 (by omega) c_30
        omega
      subst hkn
      refine sj_vret C hR rfl rfl dX1_joinHands_85 ?_
      exact ⟨rfl, rfl⟩
    · have hlt : k < n := Nat.not_le.mp fun h8 => c_30 (nI_le h8 (by omega))
      refine sj_aload_n C 34 rfl dX1_joinHands_33 rfl rfl ?_
      refine sj_getr C 37 rfl fd_X1_23 dX1_joinHands_34 kd_o rf_o_4 ?_
      refine sj_iload_n C 38 rfl dX1_joinHands_37 rfl rfl ?_
      refine sj_callVd C 41 rfl dX1_joinHands_38 cv_X1_54 rfl (ct_X2_at _ (hr5 _) _) rfl rfl rfl ⟨_, _, kd_r5, rfl, rfl, by decide⟩ ⟨rfl, rfl⟩ ?_
      rw [sq_r6 h, sj_at_nI (j := k) _ (by omega) (by omega)]
      refine sj_iconstv C (1) 42 rfl dX1_joinHands_41 rfl ?_
      refine sj_icmp_ne C 79 45 rfl rfl dX1_joinHands_42 (fun c_42 => ?_) (fun c_42 => ?_)
      · refine sj_iinc_1 C 82 rfl dX1_joinHands_79 rfl rfl ?_
        refine sj_goto C 25 rfl dX1_joinHands_82 ?_
        have e9 : (sq_hn f1 f2 f3 (k + 1)) = (sq_hn f1 f2 f3 k) := if_neg c_42
        rw [sj_n1]
        refine ih hlt _ ?_
        rw [e9]
      · refine sj_aload_n C 46 rfl dX1_joinHands_45 rfl rfl ?_
        refine sj_aload_n C 47 rfl dX1_joinHands_46 rfl rfl ?_
        refine sj_getr C 50 rfl fd_X1_26 dX1_joinHands_47 kd_o rf_o_5 ?_
        refine sj_aload_n C 51 rfl dX1_joinHands_50 rfl rfl ?_
        refine sj_getr C 54 rfl fd_X1_14 dX1_joinHands_51 kd_o rf_o_2 ?_
        refine sj_iload_n C 55 rfl dX1_joinHands_54 rfl rfl ?_
        refine sj_callVd C 58 rfl dX1_joinHands_55 cv_X1_54 rfl (ct_X2_at _ (hr1 _) _) rfl rfl rfl ⟨_, _, kd_r1, rfl, rfl, by decide⟩ ⟨rfl, rfl⟩ ?_
        rw [sq_r2 h, sj_at_nI (j := k) _ (by omega) (by omega)]
        refine sj_callVd C 61 rfl dX1_joinHands_58 cv_X1_54 rfl (ct_X2_at _ (hr7 _) _) rfl rfl rfl ⟨_, _, kd_r7, rfl, rfl, by decide⟩ ⟨rfl, rfl⟩ ?_
        rw [sq_r8, sj_at_cp]
        refine sj_aload_n C 62 rfl dX1_joinHands_61 rfl rfl ?_
        refine sj_getr C 65 rfl fd_X1_26 dX1_joinHands_62 kd_o rf_o_5 ?_
        refine sj_aload_n C 66 rfl dX1_joinHands_65 rfl rfl ?_
        refine sj_getr C 69 rfl fd_X1_20 dX1_joinHands_66 kd_o rf_o_3 ?_
        refine sj_iload_n C 70 rfl dX1_joinHands_69 rfl rfl ?_
        refine sj_callVd C 73 rfl dX1_joinHands_70 cv_X1_54 rfl (ct_X2_at _ (hr3 _) _) rfl rfl rfl ⟨_, _, kd_r3, rfl, rfl, by decide⟩ ⟨rfl, rfl⟩ ?_
        rw [sq_r4 h, sj_at_nI (j := k) _ (by omega) (by omega)]
        refine sj_callVd C 76 rfl dX1_joinHands_73 cv_X1_54 rfl (ct_X2_at _ (hr7 _) _) rfl rfl rfl ⟨_, _, kd_r7, rfl, rfl, by decide⟩ ⟨rfl, rfl⟩ ?_
        rw [sq_r8, sj_at_cp]
        refine sj_callVv C 79 rfl dX1_joinHands_76 cv_X1_79 rfl (ct_X1_joinTwo _ h hn _ _) rfl rfl rfl ⟨_, _, kd_o, rfl, rfl, by decide⟩ ⟨rfl, rfl⟩ ?_
        refine sj_iinc_1 C 82 rfl dX1_joinHands_79 rfl rfl ?_
        refine sj_goto C 25 rfl dX1_joinHands_82 ?_
        have e9 : (sq_hn f1 f2 f3 (k + 1)) = sj_jn 8 (sq_hn f1 f2 f3 k) (sj_at 8 (sq_hn f1 f2 f3 k) (f1 k)) (sj_at 8 (sq_hn f1 f2 f3 k) (f2 k)) := if_pos c_42
        rw [sj_n1]
        refine ih hlt _ ?_
        rw [e9, sj_jn_cp8]
  have cut_2 : ∀ T, T = (sq_os S o d (nI n, w, f1, f2, f3, sj_cp 0 nI f7)) → sj_G X T 0 0 [some (.ref o), some (.int (nI (0)))] 2 [] := by
    refine sj_down (fun k => ∀ T, T = (sq_os S o d (nI n, w, f1, f2, f3, sj_cp k nI f7)) → sj_G X T 0 0 [some (.ref o), some (.int (nI (k)))] 2 []) 8 (fun k hk ih => ?_)
    intro T hT
    subst hT
    refine sj_iload_n C 3 rfl dX1_joinHands_2 rfl rfl ?_
    refine sj_bipush C (8) 5 rfl dX1_joinHands_3 (by decide) ?_
    refine sj_icmp_ge C 23 8 rfl rfl dX1_joinHands_5 (fun c_5 => ?_) (fun c_5 => ?_)
    · refine sj_iconstv C (0) 24 rfl dX1_joinHands_23 rfl ?_
      refine sj_istore_n_1 C 25 rfl dX1_joinHands_24 rfl rfl ?_
      have hk8 : k = 8 := by
        have h8 : ¬ k < 8 := fun h7 => nI_ge (b := 8) h7 (by omega) c_5
        omega
      subst hk8
      exact cut_25 _ rfl
    · have hlt : k < 8 := Nat.not_le.mp fun h8 => c_5 (nI_le (a := 8) h8 (by omega))
      refine sj_aload_n C 9 rfl dX1_joinHands_8 rfl rfl ?_
      refine sj_getr C 12 rfl fd_X1_26 dX1_joinHands_9 kd_o rf_o_5 ?_
      refine sj_iload_n C 13 rfl dX1_joinHands_12 rfl rfl ?_
      refine sj_iload_n C 14 rfl dX1_joinHands_13 rfl rfl ?_
      refine sj_callVv C 17 rfl dX1_joinHands_14 cv_X1_40 rfl (ct_X2_put _ (hr7 _) _ _) rfl rfl rfl ⟨_, _, kd_r7, rfl, rfl, by decide⟩ ⟨rfl, rfl⟩ ?_
      rw [sj_put_nI (by omega) (by omega), sj_wIa_eq, sq_r8]
      refine sj_iinc_1 C 20 rfl dX1_joinHands_17 rfl rfl ?_
      refine sj_goto C 2 rfl dX1_joinHands_20 ?_
      rw [sj_n1]
      refine ih hlt _ ?_
      rw [sq_w8, sj_cp_n k nI f7 rfl]
  refine sj_iconstv C (0) 1 rfl dX1_joinHands_0 rfl ?_
  refine sj_istore_n_1 C 2 rfl dX1_joinHands_1 rfl rfl ?_
  exact cut_2 _ (by rw [sj_cp_0])
set_option maxRecDepth 100000 in
set_option maxHeartbeats 200000 in
theorem ct_X1_takeOut (l : Launch) {S : sj_St} {o : Nat} {d : Nat → Nat} (h : sq_ol S o d) {n : Nat} (hn : n ≤ 28) {w : Int32} {f1 f2 f3 f7 : Nat → Int32} (k : Nat) (hk : k < n) : sj_Ctr l mX1_takeOut [.ref o, .int (nI k)] (sq_os S o d (nI n, w, f1, f2, f3, f7)) (sj_eq none (sq_os S o d (nI (n - 1), w, sj_cu k 27 f1, sj_cu k 27 f2, sj_cu k 27 f3, f7))) := by
  refine sj_start ([some (.ref o), some (.int (nI k))]) (by decide +kernel) rfl rfl (fun X hX C hR => ?_)
  subst hX
  obtain ⟨kd_o, ⟨rf_o_2, q1⟩, ⟨rf_o_3, q3⟩, ⟨rf_o_4, q5⟩, ⟨rf_o_5, q7⟩, hinj⟩ := id h
  have kd_r1 := q1.1
  have kd_r3 := q3.1
  have kd_r5 := q5.1
  have kd_r7 := q7.1
  have hr1 : ∀ c, sj_rw (sq_os S o d c) (d 1) (d 2) 28 := fun _ => q1
  have hr3 : ∀ c, sj_rw (sq_os S o d c) (d 3) (d 4) 28 := fun _ => q3
  have hr5 : ∀ c, sj_rw (sq_os S o d c) (d 5) (d 6) 28 := fun _ => q5
  have hr7 : ∀ c, sj_rw (sq_os S o d c) (d 7) (d 8) 8 := fun _ => q7
  refine sj_iload_n C 1 rfl dX1_takeOut_0 rfl rfl ?_
  refine sj_if_lt C 12 4 rfl rfl dX1_takeOut_1 (fun c_1 => ?_) (fun c_1 => ?_)
  · exact absurd c_1 (nI_pos (by omega))
  · refine sj_iload_n C 5 rfl dX1_takeOut_4 rfl rfl ?_
    refine sj_aload_n C 6 rfl dX1_takeOut_5 rfl rfl ?_
    refine sj_getI C 9 rfl fd_X1_29 dX1_takeOut_6 kd_o ?_
    rw [sq_f0]
    refine sj_icmp_lt C 13 12 rfl rfl dX1_takeOut_9 (fun c_9 => ?_) (fun c_9 => ?_)
    · refine sj_aload_n C 14 rfl dX1_takeOut_13 rfl rfl ?_
      refine sj_getr C 17 rfl fd_X1_14 dX1_takeOut_14 kd_o rf_o_2 ?_
      refine sj_iload_n C 18 rfl dX1_takeOut_17 rfl rfl ?_
      refine sj_callVv C 21 rfl dX1_takeOut_18 cv_X1_76 rfl (ct_X2_closeUp _ (hr1 _) (g := k) (by omega)) rfl rfl rfl ⟨_, _, kd_r1, rfl, rfl, by decide⟩ ⟨rfl, rfl⟩ ?_
      rw [sq_r2 h, sq_w2 h]
      refine sj_aload_n C 22 rfl dX1_takeOut_21 rfl rfl ?_
      refine sj_getr C 25 rfl fd_X1_20 dX1_takeOut_22 kd_o rf_o_3 ?_
      refine sj_iload_n C 26 rfl dX1_takeOut_25 rfl rfl ?_
      refine sj_callVv C 29 rfl dX1_takeOut_26 cv_X1_76 rfl (ct_X2_closeUp _ (hr3 _) (g := k) (by omega)) rfl rfl rfl ⟨_, _, kd_r3, rfl, rfl, by decide⟩ ⟨rfl, rfl⟩ ?_
      rw [sq_r4 h, sq_w4 h]
      refine sj_aload_n C 30 rfl dX1_takeOut_29 rfl rfl ?_
      refine sj_getr C 33 rfl fd_X1_23 dX1_takeOut_30 kd_o rf_o_4 ?_
      refine sj_iload_n C 34 rfl dX1_takeOut_33 rfl rfl ?_
      refine sj_callVv C 37 rfl dX1_takeOut_34 cv_X1_76 rfl (ct_X2_closeUp _ (hr5 _) (g := k) (by omega)) rfl rfl rfl ⟨_, _, kd_r5, rfl, rfl, by decide⟩ ⟨rfl, rfl⟩ ?_
      rw [sq_r6 h, sq_w6 h]
      refine sj_aload_n C 38 rfl dX1_takeOut_37 rfl rfl ?_
      refine sj_dup C 39 rfl dX1_takeOut_38 rfl ?_
      refine sj_getI C 42 rfl fd_X1_29 dX1_takeOut_39 kd_o ?_
      rw [sq_f0]
      refine sj_iconstv C (1) 43 rfl dX1_takeOut_42 rfl ?_
      refine sj_isub C 44 rfl dX1_takeOut_43 ?_
      refine sj_putI C 47 rfl fd_X1_29 dX1_takeOut_44 rfl rfl kd_o ?_
      rw [sq_v0, show nI n - 1 = nI (n - 1) from sj_nsub (a := n) (b := 1) (by omega)]
      refine sj_vret C hR rfl rfl dX1_takeOut_47 ?_
      exact ⟨rfl, rfl⟩
    · exact absurd (nI_lt hk (by omega)) c_9
set_option maxRecDepth 100000 in
set_option maxHeartbeats 200000 in
theorem ct_X1_removeAt (l : Launch) {S : sj_St} {o : Nat} {d : Nat → Nat} (h : sq_ol S o d) {n : Nat} (hn : n ≤ 28) {w : Int32} {f1 f2 f3 f7 : Nat → Int32} (k : Nat) (hk : k < n) : sj_Ctr l mX1_removeAt [.ref o, .int (nI k)] (sq_os S o d (nI n, w, f1, f2, f3, f7)) (sj_eq none (sq_os S o d (nI (n - 1), w, sj_cu k 27 f1, sj_cu k 27 f2, sj_cu k 27 f3, sj_cp 8 (sq_hn (sj_cu k 27 f1) (sj_cu k 27 f2) (sj_cu k 27 f3) (n - 1)) f7))) := by
  refine sj_start ([some (.ref o), some (.int (nI k))]) (by decide +kernel) rfl rfl (fun X hX C hR => ?_)
  subst hX
  obtain ⟨kd_o, ⟨rf_o_2, q1⟩, ⟨rf_o_3, q3⟩, ⟨rf_o_4, q5⟩, ⟨rf_o_5, q7⟩, hinj⟩ := id h
  have kd_r1 := q1.1
  have kd_r3 := q3.1
  have kd_r5 := q5.1
  have kd_r7 := q7.1
  have hr1 : ∀ c, sj_rw (sq_os S o d c) (d 1) (d 2) 28 := fun _ => q1
  have hr3 : ∀ c, sj_rw (sq_os S o d c) (d 3) (d 4) 28 := fun _ => q3
  have hr5 : ∀ c, sj_rw (sq_os S o d c) (d 5) (d 6) 28 := fun _ => q5
  have hr7 : ∀ c, sj_rw (sq_os S o d c) (d 7) (d 8) 8 := fun _ => q7
  refine sj_aload_n C 1 rfl dX1_removeAt_0 rfl rfl ?_
  refine sj_iload_n C 2 rfl dX1_removeAt_1 rfl rfl ?_
  refine sj_callVv C 5 rfl dX1_removeAt_2 cv_X1_47 rfl (ct_X1_takeOut _ h hn k hk) rfl rfl rfl ⟨_, _, kd_o, rfl, rfl, by decide⟩ ⟨rfl, rfl⟩ ?_
  refine sj_aload_n C 6 rfl dX1_removeAt_5 rfl rfl ?_
  refine sj_callVv C 9 rfl dX1_removeAt_6 cv_X1_44 rfl (ct_X1_joinHands _ h (n := n - 1) (by omega)) rfl rfl rfl ⟨_, _, kd_o, rfl, rfl, by decide⟩ ⟨rfl, rfl⟩ ?_
  refine sj_vret C hR rfl rfl dX1_removeAt_9 ?_
  exact ⟨rfl, rfl⟩
set_option maxRecDepth 100000 in
set_option maxHeartbeats 200000 in
theorem ct_X1_add (l : Launch) {S : sj_St} {o : Nat} {d : Nat → Nat} (h : sq_ol S o d) {n : Nat} (hn : n ≤ 28) {w : Int32} {f1 f2 f3 f7 : Nat → Int32} (hlt28 : n < 28) (a b : Int32) (like : Bool) : sj_Ctr l mX1_add [.ref o, .int a, .int b, .int (sj_bi like)] (sq_os S o d (nI n, w, f1, f2, f3, f7)) (sj_eq none (sq_os S o d (nI (n + 1), w + 1, upd f1 n a, upd f2 n b, upd f3 n (sj_bi like), sj_cp 8 (sq_hn (upd f1 n a) (upd f2 n b) (upd f3 n (sj_bi like)) (n + 1)) f7))) := by
  refine sj_start ([some (.ref o), some (.int a), some (.int b), some (.int (sj_bi like))]) (by decide +kernel) rfl rfl (fun X hX C hR => ?_)
  subst hX
  obtain ⟨kd_o, ⟨rf_o_2, q1⟩, ⟨rf_o_3, q3⟩, ⟨rf_o_4, q5⟩, ⟨rf_o_5, q7⟩, hinj⟩ := id h
  have kd_r1 := q1.1
  have kd_r3 := q3.1
  have kd_r5 := q5.1
  have kd_r7 := q7.1
  have hr1 : ∀ c, sj_rw (sq_os S o d c) (d 1) (d 2) 28 := fun _ => q1
  have hr3 : ∀ c, sj_rw (sq_os S o d c) (d 3) (d 4) 28 := fun _ => q3
  have hr5 : ∀ c, sj_rw (sq_os S o d c) (d 5) (d 6) 28 := fun _ => q5
  have hr7 : ∀ c, sj_rw (sq_os S o d c) (d 7) (d 8) 8 := fun _ => q7
  refine sj_aload_n C 1 rfl dX1_add_0 rfl rfl ?_
  refine sj_getI C 4 rfl fd_X1_29 dX1_add_1 kd_o ?_
  rw [sq_f0]
  refine sj_bipush C (28) 6 rfl dX1_add_4 (by decide) ?_
  refine sj_icmp_lt C 10 9 rfl rfl dX1_add_6 (fun c_6 => ?_) (fun c_6 => ?_)
  · refine sj_aload_n C 11 rfl dX1_add_10 rfl rfl ?_
    refine sj_getr C 14 rfl fd_X1_14 dX1_add_11 kd_o rf_o_2 ?_
    refine sj_aload_n C 15 rfl dX1_add_14 rfl rfl ?_
    refine sj_getI C 18 rfl fd_X1_29 dX1_add_15 kd_o ?_
    rw [sq_f0]
    refine sj_iload_n C 19 rfl dX1_add_18 rfl rfl ?_
    refine sj_callVv C 22 rfl dX1_add_19 cv_X1_40 rfl (ct_X2_put _ (hr1 _) _ _) rfl rfl rfl ⟨_, _, kd_r1, rfl, rfl, by decide⟩ ⟨rfl, rfl⟩ ?_
    rw [sj_put_nI (by omega) (by omega), sj_wIa_eq, sq_r2 h, sq_w2 h]
    refine sj_aload_n C 23 rfl dX1_add_22 rfl rfl ?_
    refine sj_getr C 26 rfl fd_X1_20 dX1_add_23 kd_o rf_o_3 ?_
    refine sj_aload_n C 27 rfl dX1_add_26 rfl rfl ?_
    refine sj_getI C 30 rfl fd_X1_29 dX1_add_27 kd_o ?_
    rw [sq_f0]
    refine sj_iload_n C 31 rfl dX1_add_30 rfl rfl ?_
    refine sj_callVv C 34 rfl dX1_add_31 cv_X1_40 rfl (ct_X2_put _ (hr3 _) _ _) rfl rfl rfl ⟨_, _, kd_r3, rfl, rfl, by decide⟩ ⟨rfl, rfl⟩ ?_
    rw [sj_put_nI (by omega) (by omega), sj_wIa_eq, sq_r4 h, sq_w4 h]
    refine sj_aload_n C 35 rfl dX1_add_34 rfl rfl ?_
    refine sj_getr C 38 rfl fd_X1_23 dX1_add_35 kd_o rf_o_4 ?_
    refine sj_aload_n C 39 rfl dX1_add_38 rfl rfl ?_
    refine sj_getI C 42 rfl fd_X1_29 dX1_add_39 kd_o ?_
    rw [sq_f0]
    refine sj_iload_n C 43 rfl dX1_add_42 rfl rfl ?_
    refine sj_if_eq C 50 46 rfl rfl dX1_add_43 (fun c_43 => ?_) (fun c_43 => ?_)
    · refine sj_iconstv C (0) 51 rfl dX1_add_50 rfl ?_
      rw [show (0 : Int32) = sj_bi like from by rw [sj_bi0.mp c_43]; rfl]
      refine sj_callVv C 54 rfl dX1_add_51 cv_X1_40 rfl (ct_X2_put _ (hr5 _) _ _) rfl rfl rfl ⟨_, _, kd_r5, rfl, rfl, by decide⟩ ⟨rfl, rfl⟩ ?_
      rw [sj_put_nI (by omega) (by omega), sj_wIa_eq, sq_r6 h, sq_w6 h]
      refine sj_aload_n C 55 rfl dX1_add_54 rfl rfl ?_
      refine sj_dup C 56 rfl dX1_add_55 rfl ?_
      refine sj_getI C 59 rfl fd_X1_29 dX1_add_56 kd_o ?_
      rw [sq_f0]
      refine sj_iconstv C (1) 60 rfl dX1_add_59 rfl ?_
      refine sj_iadd C 61 rfl dX1_add_60 ?_
      refine sj_putI C 64 rfl fd_X1_29 dX1_add_61 rfl rfl kd_o ?_
      rw [sq_v0, nI_1]
      refine sj_aload_n C 65 rfl dX1_add_64 rfl rfl ?_
      refine sj_dup C 66 rfl dX1_add_65 rfl ?_
      refine sj_getI C 69 rfl fd_X1_33 dX1_add_66 kd_o ?_
      rw [sq_f1]
      refine sj_iconstv C (1) 70 rfl dX1_add_69 rfl ?_
      refine sj_iadd C 71 rfl dX1_add_70 ?_
      refine sj_putI C 74 rfl fd_X1_33 dX1_add_71 rfl rfl kd_o ?_
      rw [sq_v1]
      refine sj_aload_n C 75 rfl dX1_add_74 rfl rfl ?_
      refine sj_callVv C 78 rfl dX1_add_75 cv_X1_44 rfl (ct_X1_joinHands _ h (n := n + 1) (by omega)) rfl rfl rfl ⟨_, _, kd_o, rfl, rfl, by decide⟩ ⟨rfl, rfl⟩ ?_
      refine sj_vret C hR rfl rfl dX1_add_78 ?_
      exact ⟨rfl, rfl⟩
    · refine sj_iconstv C (1) 47 rfl dX1_add_46 rfl ?_
      refine sj_goto C 51 rfl dX1_add_47 ?_
      rw [show (1 : Int32) = sj_bi like from by rw [sj_bin.mp c_43]; rfl]
      refine sj_callVv C 54 rfl dX1_add_51 cv_X1_40 rfl (ct_X2_put _ (hr5 _) _ _) rfl rfl rfl ⟨_, _, kd_r5, rfl, rfl, by decide⟩ ⟨rfl, rfl⟩ ?_
      rw [sj_put_nI (by omega) (by omega), sj_wIa_eq, sq_r6 h, sq_w6 h]
      refine sj_aload_n C 55 rfl dX1_add_54 rfl rfl ?_
      refine sj_dup C 56 rfl dX1_add_55 rfl ?_
      refine sj_getI C 59 rfl fd_X1_29 dX1_add_56 kd_o ?_
      rw [sq_f0]
      refine sj_iconstv C (1) 60 rfl dX1_add_59 rfl ?_
      refine sj_iadd C 61 rfl dX1_add_60 ?_
      refine sj_putI C 64 rfl fd_X1_29 dX1_add_61 rfl rfl kd_o ?_
      rw [sq_v0, nI_1]
      refine sj_aload_n C 65 rfl dX1_add_64 rfl rfl ?_
      refine sj_dup C 66 rfl dX1_add_65 rfl ?_
      refine sj_getI C 69 rfl fd_X1_33 dX1_add_66 kd_o ?_
      rw [sq_f1]
      refine sj_iconstv C (1) 70 rfl dX1_add_69 rfl ?_
      refine sj_iadd C 71 rfl dX1_add_70 ?_
      refine sj_putI C 74 rfl fd_X1_33 dX1_add_71 rfl rfl kd_o ?_
      rw [sq_v1]
      refine sj_aload_n C 75 rfl dX1_add_74 rfl rfl ?_
      refine sj_callVv C 78 rfl dX1_add_75 cv_X1_44 rfl (ct_X1_joinHands _ h (n := n + 1) (by omega)) rfl rfl rfl ⟨_, _, kd_o, rfl, rfl, by decide⟩ ⟨rfl, rfl⟩ ?_
      refine sj_vret C hR rfl rfl dX1_add_78 ?_
      exact ⟨rfl, rfl⟩
  · exact absurd (show nI n < nI 28 from nI_lt hlt28 (by omega)) c_6
/-- what is left behind the oaths of s -/
def sq_fw (s : Int32) (n : Nat) (f1 f2 f3 : Nat → Int32) : (Nat × (Nat → Int32) × (Nat → Int32) × (Nat → Int32)) := sq_fg s n (n, f1, f2, f3)
def sq_fS (S : sj_St) (o : Nat) (d : Nat → Nat) (w s : Int32) (f7 : Nat → Int32) (R : (Nat × (Nat → Int32) × (Nat → Int32) × (Nat → Int32))) : sj_St := sq_os S o d (nI R.1, w, sq_rn s R.1 R.2.1, sq_rn s R.1 R.2.2.1, R.2.2.2, sj_cp 8 (sq_hn (sq_rn s R.1 R.2.1) (sq_rn s R.1 R.2.2.1) R.2.2.2 R.1) f7)
set_option maxRecDepth 100000 in
set_option maxHeartbeats 300000 in
theorem ct_X1_forgetSheet (l : Launch) {S : sj_St} {o : Nat} {d : Nat → Nat} (h : sq_ol S o d) {n : Nat} (hn : n ≤ 28) {w : Int32} {f1 f2 f3 f7 : Nat → Int32} (s : Int32) : sj_Ctr l mX1_forgetSheet [.ref o, .int s] (sq_os S o d (nI n, w, f1, f2, f3, f7)) (sj_eq (some (.int (nI (n - (sq_fw s n f1 f2 f3).1)))) (sq_fS S o d w s f7 (sq_fw s n f1 f2 f3))) := by
  refine sj_start ([some (.ref o), some (.int s), none, none]) (by decide +kernel) rfl rfl (fun X hX C hR => ?_)
  subst hX
  obtain ⟨kd_o, ⟨rf_o_2, q1⟩, ⟨rf_o_3, q3⟩, ⟨rf_o_4, q5⟩, ⟨rf_o_5, q7⟩, hinj⟩ := id h
  have kd_r1 := q1.1
  have kd_r3 := q3.1
  have kd_r5 := q5.1
  have kd_r7 := q7.1
  have hr1 : ∀ c, sj_rw (sq_os S o d c) (d 1) (d 2) 28 := fun _ => q1
  have hr3 : ∀ c, sj_rw (sq_os S o d c) (d 3) (d 4) 28 := fun _ => q3
  have hr5 : ∀ c, sj_rw (sq_os S o d c) (d 5) (d 6) 28 := fun _ => q5
  have hr7 : ∀ c, sj_rw (sq_os S o d c) (d 7) (d 8) 8 := fun _ => q7
  have cut_35 : ∀ (N : Nat) (g1 g2 g3 : Nat → Int32), (N, g1, g2, g3) = sq_fw s n f1 f2 f3 → N ≤ 28 → N ≤ n → ∀ T, T = (sq_os S o d (nI N, w, sq_rn s (0) g1, sq_rn s (0) g2, g3, f7)) → sj_G X T 0 0 [some (.ref o), some (.int s), some (.int (nI n)), some (.int (nI 0))] 35 [] := by
    intro N g1 g2 g3 hRw hN hNn
    refine sj_down (fun k => ∀ T, T = (sq_os S o d (nI N, w, sq_rn s (k) g1, sq_rn s (k) g2, g3, f7)) → sj_G X T 0 0 [some (.ref o), some (.int s), some (.int (nI n)), some (.int (nI k))] 35 []) N (fun k hk ih => ?_)
    intro T hT
    subst hT
    refine sj_iload_n C 36 rfl dX1_forgetSheet_35 rfl rfl ?_
    refine sj_aload_n C 37 rfl dX1_forgetSheet_36 rfl rfl ?_
    refine sj_getI C 40 rfl fd_X1_29 dX1_forgetSheet_37 kd_o ?_
    rw [sq_f0]
    refine sj_icmp_ge C 89 43 rfl rfl dX1_forgetSheet_40 (fun c_40 => ?_) (fun c_40 => ?_)
    · have hkn : k = N := by
        have h8 : ¬ k < N := fun h7 => nI_ge h7 (by omega) c_40
        omega
      subst hkn
      refine sj_aload_n C 90 rfl dX1_forgetSheet_89 rfl rfl ?_
      refine sj_callVv C 93 rfl dX1_forgetSheet_90 cv_X1_44 rfl (ct_X1_joinHands _ h (n := k) (by omega)) rfl rfl rfl ⟨_, _, kd_o, rfl, rfl, by decide⟩ ⟨rfl, rfl⟩ ?_
      refine sj_iload_n C 94 rfl dX1_forgetSheet_93 rfl rfl ?_
      refine sj_aload_n C 95 rfl dX1_forgetSheet_94 rfl rfl ?_
      refine sj_getI C 98 rfl fd_X1_29 dX1_forgetSheet_95 kd_o ?_
      rw [sq_f0]
      refine sj_isub C 99 rfl dX1_forgetSheet_98 ?_
      refine sj_iret C hR rfl rfl dX1_forgetSheet_99 ?_
      rw [sj_nsub hNn]
      unfold sq_fS
      rw [← hRw]
      exact ⟨rfl, rfl⟩
    · have hlt : k < N := Nat.not_le.mp fun h8 => c_40 (nI_le h8 (by omega))
      refine sj_aload_n C 44 rfl dX1_forgetSheet_43 rfl rfl ?_
      refine sj_getr C 47 rfl fd_X1_14 dX1_forgetSheet_44 kd_o rf_o_2 ?_
      refine sj_iload_n C 48 rfl dX1_forgetSheet_47 rfl rfl ?_
      refine sj_iload_n C 49 rfl dX1_forgetSheet_48 rfl rfl ?_
      refine sj_aload_n C 50 rfl dX1_forgetSheet_49 rfl rfl ?_
      refine sj_getr C 53 rfl fd_X1_14 dX1_forgetSheet_50 kd_o rf_o_2 ?_
      refine sj_iload_n C 54 rfl dX1_forgetSheet_53 rfl rfl ?_
      refine sj_callVd C 57 rfl dX1_forgetSheet_54 cv_X1_54 rfl (ct_X2_at _ (hr1 _) _) rfl rfl rfl ⟨_, _, kd_r1, rfl, rfl, by decide⟩ ⟨rfl, rfl⟩ ?_
      rw [sq_r2 h, sj_at_nI _ (by omega) (by omega), sq_rn_k]
      refine sj_callSd C 60 rfl dX1_forgetSheet_57 cv_X1_58 rfl (ct_X1_numberWithout _ _ _ _) rfl rfl rfl ⟨rfl, rfl⟩ ?_
      refine sj_callVv C 63 rfl dX1_forgetSheet_60 cv_X1_40 rfl (ct_X2_put _ (hr1 _) _ _) rfl rfl rfl ⟨_, _, kd_r1, rfl, rfl, by decide⟩ ⟨rfl, rfl⟩ ?_
      rw [sj_put_nI (by omega) (by omega), sj_wIa_eq, sq_r2 h, sq_w2 h]
      refine sj_aload_n C 64 rfl dX1_forgetSheet_63 rfl rfl ?_
      refine sj_getr C 67 rfl fd_X1_20 dX1_forgetSheet_64 kd_o rf_o_3 ?_
      refine sj_iload_n C 68 rfl dX1_forgetSheet_67 rfl rfl ?_
      refine sj_iload_n C 69 rfl dX1_forgetSheet_68 rfl rfl ?_
      refine sj_aload_n C 70 rfl dX1_forgetSheet_69 rfl rfl ?_
      refine sj_getr C 73 rfl fd_X1_20 dX1_forgetSheet_70 kd_o rf_o_3 ?_
      refine sj_iload_n C 74 rfl dX1_forgetSheet_73 rfl rfl ?_
      refine sj_callVd C 77 rfl dX1_forgetSheet_74 cv_X1_54 rfl (ct_X2_at _ (hr3 _) _) rfl rfl rfl ⟨_, _, kd_r3, rfl, rfl, by decide⟩ ⟨rfl, rfl⟩ ?_
      rw [sq_r4 h, sj_at_nI _ (by omega) (by omega), sq_rn_k]
      refine sj_callSd C 80 rfl dX1_forgetSheet_77 cv_X1_58 rfl (ct_X1_numberWithout _ _ _ _) rfl rfl rfl ⟨rfl, rfl⟩ ?_
      refine sj_callVv C 83 rfl dX1_forgetSheet_80 cv_X1_40 rfl (ct_X2_put _ (hr3 _) _ _) rfl rfl rfl ⟨_, _, kd_r3, rfl, rfl, by decide⟩ ⟨rfl, rfl⟩ ?_
      rw [sj_put_nI (by omega) (by omega), sj_wIa_eq, sq_r4 h, sq_w4 h]
      refine sj_iinc_3 C 86 rfl dX1_forgetSheet_83 rfl rfl ?_
      refine sj_goto C 35 rfl dX1_forgetSheet_86 ?_
      rw [sj_n1]
      refine ih hlt _ ?_
      rw [sq_rn_s, sq_rn_s]
  have cut_9 : ∀ (k : Nat) (c : (Nat × (Nat → Int32) × (Nat → Int32) × (Nat → Int32))), k ≤ c.1 → c.1 ≤ n → sq_fg s k c = sq_fw s n f1 f2 f3 → ∀ T, T = (sq_os S o d (nI (c).1, w, (c).2.1, (c).2.2.1, (c).2.2.2, f7)) → sj_G X T 0 0 [some (.ref o), some (.int s), some (.int (nI n)), some (.int (nI k - 1))] 9 [] := by
    refine sj_ind (fun k => ∀ (c : (Nat × (Nat → Int32) × (Nat → Int32) × (Nat → Int32))), k ≤ c.1 → c.1 ≤ n → sq_fg s k c = sq_fw s n f1 f2 f3 → ∀ T, T = (sq_os S o d (nI (c).1, w, (c).2.1, (c).2.2.1, (c).2.2.2, f7)) → sj_G X T 0 0 [some (.ref o), some (.int s), some (.int (nI n)), some (.int (nI k - 1))] 9 []) ?_ (fun k ih => ?_)
    · intro c hkc hcn hc T hT
      subst hT
      refine sj_iload_n C 10 rfl dX1_forgetSheet_9 rfl rfl ?_
      refine sj_if_lt C 33 13 rfl rfl dX1_forgetSheet_10 (fun c_10 => ?_) (fun c_10 => absurd (show nI 0 - 1 < 0 by decide) c_10)
      refine sj_iconstv C (0) 34 rfl dX1_forgetSheet_33 rfl ?_
      refine sj_istore_n_3 C 35 rfl dX1_forgetSheet_34 rfl rfl ?_
      exact cut_35 c.1 c.2.1 c.2.2.1 c.2.2.2 hc (by omega) hcn _ (by rw [sq_rn_0, sq_rn_0])
    intro c hkc hcn hc T hT
    subst hT
    rw [nI_pred]
    refine sj_iload_n C 10 rfl dX1_forgetSheet_9 rfl rfl ?_
    refine sj_if_lt C 33 13 rfl rfl dX1_forgetSheet_10 (fun c_10 => ?_) (fun c_10 => ?_)
    · refine sj_iconstv C (0) 34 rfl dX1_forgetSheet_33 rfl ?_
      refine sj_istore_n_3 C 35 rfl dX1_forgetSheet_34 rfl rfl ?_
      exact absurd c_10 (nI_pos (by omega))
    · refine sj_aload_n C 14 rfl dX1_forgetSheet_13 rfl rfl ?_
      refine sj_iload_n C 15 rfl dX1_forgetSheet_14 rfl rfl ?_
      refine sj_iload_n C 16 rfl dX1_forgetSheet_15 rfl rfl ?_
      refine sj_callVd C 19 rfl dX1_forgetSheet_16 cv_X1_50 rfl (ct_X1_isOf _ h (n := c.1) (by omega) k (by omega) s) rfl rfl rfl ⟨_, _, kd_o, rfl, rfl, by decide⟩ ⟨rfl, rfl⟩ ?_
      refine sj_if_eq C 27 22 rfl rfl dX1_forgetSheet_19 (fun c_19 => ?_) (fun c_19 => ?_)
      · refine sj_iinc_3 C 30 rfl dX1_forgetSheet_27 rfl rfl ?_
        refine sj_goto C 9 rfl dX1_forgetSheet_30 ?_
        rw [show nI k + Int32.ofInt (-1) = nI k - 1 from by rw [show Int32.ofInt (-1) = (-1 : Int32) from rfl, ← Int32.sub_eq_add_neg]]
        refine ih c (by omega) hcn ?_ _ rfl
        have e9 : sq_fg s (k + 1) c = sq_fg s k c := congrArg (sq_fg s k) (if_neg (by rw [sj_bi0.mp c_19]; exact Bool.false_ne_true))
        exact e9.symm.trans hc
      · refine sj_aload_n C 23 rfl dX1_forgetSheet_22 rfl rfl ?_
        refine sj_iload_n C 24 rfl dX1_forgetSheet_23 rfl rfl ?_
        refine sj_callVv C 27 rfl dX1_forgetSheet_24 cv_X1_47 rfl (ct_X1_takeOut _ h (n := c.1) (by omega) k (by omega)) rfl rfl rfl ⟨_, _, kd_o, rfl, rfl, by decide⟩ ⟨rfl, rfl⟩ ?_
        refine sj_iinc_3 C 30 rfl dX1_forgetSheet_27 rfl rfl ?_
        refine sj_goto C 9 rfl dX1_forgetSheet_30 ?_
        rw [show nI k + Int32.ofInt (-1) = nI k - 1 from by rw [show Int32.ofInt (-1) = (-1 : Int32) from rfl, ← Int32.sub_eq_add_neg]]
        refine ih (sq_tk k c) (show k ≤ c.1 - 1 by omega) (show c.1 - 1 ≤ n by omega) ?_ _ rfl
        have e9 : sq_fg s (k + 1) c = sq_fg s k (sq_tk k c) := congrArg (sq_fg s k) (if_pos (sj_bin.mp c_19))
        exact e9.symm.trans hc
  refine sj_aload_n C 1 rfl dX1_forgetSheet_0 rfl rfl ?_
  refine sj_getI C 4 rfl fd_X1_29 dX1_forgetSheet_1 kd_o ?_
  rw [sq_f0]
  refine sj_istore_n_2 C 5 rfl dX1_forgetSheet_4 rfl rfl ?_
  refine sj_iload_n C 6 rfl dX1_forgetSheet_5 rfl rfl ?_
  refine sj_iconstv C (1) 7 rfl dX1_forgetSheet_6 rfl ?_
  refine sj_isub C 8 rfl dX1_forgetSheet_7 ?_
  refine sj_istore_n_3 C 9 rfl dX1_forgetSheet_8 rfl rfl ?_
  exact cut_9 n (n, f1, f2, f3) (Nat.le_refl _) (Nat.le_refl _) rfl _ rfl
def sq_tc (c e : sq_C) : sq_C := (e.1, e.2.1, sj_cp 28 e.2.2.1 c.2.2.1, sj_cp 28 e.2.2.2.1 c.2.2.2.1, sj_cp 28 e.2.2.2.2.1 c.2.2.2.2.1, sj_cp 8 e.2.2.2.2.2 c.2.2.2.2.2)
/-- two objects of oaths that have nothing in common -/
def sq_op (o o' : Nat) (d d' : Nat → Nat) : Prop := o ≠ o' ∧ ∀ i j, i < 9 → j < 9 → d i ≠ d' j
set_option maxRecDepth 100000 in
set_option maxHeartbeats 200000 in
theorem ct_X1_takeOver (l : Launch) {S : sj_St} {o e : Nat} {d d' : Nat → Nat} (h : sq_ol S o d) (h' : sq_ol S e d') (hp : sq_op o e d d') {n w : Int32} {f1 f2 f3 f7 : Nat → Int32} : sj_Ctr l mX1_takeOver [.ref o, .ref e] (sq_os S o d (n, w, f1, f2, f3, f7)) (sj_eq none (sq_os S o d (sq_tc (n, w, f1, f2, f3, f7) (sq_or S e d')))) := by
  refine sj_start ([some (.ref o), some (.ref e)]) (by decide +kernel) rfl rfl (fun X hX C hR => ?_)
  subst hX
  have hV : sq_ol (sq_os S o d (n, w, f1, f2, f3, f7)) o d := h
  obtain ⟨kd_o, ⟨rf_o_2, hr1⟩, ⟨rf_o_3, hr3⟩, ⟨rf_o_4, hr5⟩, ⟨rf_o_5, hr7⟩, hinj⟩ := hV
  have hW : sq_ol (sq_os S o d (n, w, f1, f2, f3, f7)) e d' := h'
  have kd_r1 := hr1.1
  have kd_r3 := hr3.1
  have kd_r5 := hr5.1
  have kd_r7 := hr7.1
  obtain ⟨kd_e, ⟨rf_e_2, hs1⟩, ⟨rf_e_3, hs3⟩, ⟨rf_e_4, hs5⟩, ⟨rf_e_5, hs7⟩, hinj'⟩ := hW
  have gr1 : ∀ c, sj_rw (sq_os S o d c) (d 1) (d 2) 28 := fun _ => hr1
  have gr3 : ∀ c, sj_rw (sq_os S o d c) (d 3) (d 4) 28 := fun _ => hr3
  have gr5 : ∀ c, sj_rw (sq_os S o d c) (d 5) (d 6) 28 := fun _ => hr5
  have gr7 : ∀ c, sj_rw (sq_os S o d c) (d 7) (d 8) 8 := fun _ => hr7
  have gs1 : ∀ c, sj_rw (sq_os S o d c) (d' 1) (d' 2) 28 := fun _ => hs1
  have gs3 : ∀ c, sj_rw (sq_os S o d c) (d' 3) (d' 4) 28 := fun _ => hs3
  have gs5 : ∀ c, sj_rw (sq_os S o d c) (d' 5) (d' 6) 28 := fun _ => hs5
  have gs7 : ∀ c, sj_rw (sq_os S o d c) (d' 7) (d' 8) 8 := fun _ => hs7
  have eF : ∀ c k, sj_fi (sq_os S o d c) e k = sj_fi S e k := fun c k => (sj_fi_wFi_a _ 1 k _ hp.1.symm).trans (sj_fi_wFi_a _ 0 k _ hp.1.symm)
  have eI : ∀ c i, i < 9 → sj_ia (sq_os S o d c) (d' i) = sj_ia S (d' i) := fun c i hi => (sj_ia_sIa_ne _ _ (hp.2 8 i (by omega) hi).symm).trans ((sj_ia_sIa_ne _ _ (hp.2 6 i (by omega) hi).symm).trans ((sj_ia_sIa_ne _ _ (hp.2 4 i (by omega) hi).symm).trans (sj_ia_sIa_ne _ _ (hp.2 2 i (by omega) hi).symm)))
  refine sj_aload_n C 1 rfl dX1_takeOver_0 rfl rfl ?_
  refine sj_ifnonnullS C 5 rfl dX1_takeOver_1 ?_
  refine sj_aload_n C 6 rfl dX1_takeOver_5 rfl rfl ?_
  refine sj_aload_n C 7 rfl dX1_takeOver_6 rfl rfl ?_
  refine sj_getI C 10 rfl fd_X1_29 dX1_takeOver_7 kd_e ?_
  rw [eF]
  refine sj_putI C 13 rfl fd_X1_29 dX1_takeOver_10 rfl rfl kd_o ?_
  rw [sq_v0]
  refine sj_aload_n C 14 rfl dX1_takeOver_13 rfl rfl ?_
  refine sj_aload_n C 15 rfl dX1_takeOver_14 rfl rfl ?_
  refine sj_getI C 18 rfl fd_X1_33 dX1_takeOver_15 kd_e ?_
  rw [eF]
  refine sj_putI C 21 rfl fd_X1_33 dX1_takeOver_18 rfl rfl kd_o ?_
  rw [sq_v1]
  refine sj_aload_n C 22 rfl dX1_takeOver_21 rfl rfl ?_
  refine sj_getr C 25 rfl fd_X1_14 dX1_takeOver_22 kd_o rf_o_2 ?_
  refine sj_aload_n C 26 rfl dX1_takeOver_25 rfl rfl ?_
  refine sj_getr C 29 rfl fd_X1_14 dX1_takeOver_26 kd_e rf_e_2 ?_
  refine sj_callVv C 32 rfl dX1_takeOver_29 cv_X1_36 rfl (ct_X2_copyFrom _ (gr1 _) (gs1 _) (hp.2 2 2 (by omega) (by omega))) rfl rfl rfl ⟨_, _, kd_r1, rfl, rfl, by decide⟩ ⟨rfl, rfl⟩ ?_
  rw [sq_r2 h, sq_w2 h, eI _ 2 (by omega)]
  refine sj_aload_n C 33 rfl dX1_takeOver_32 rfl rfl ?_
  refine sj_getr C 36 rfl fd_X1_20 dX1_takeOver_33 kd_o rf_o_3 ?_
  refine sj_aload_n C 37 rfl dX1_takeOver_36 rfl rfl ?_
  refine sj_getr C 40 rfl fd_X1_20 dX1_takeOver_37 kd_e rf_e_3 ?_
  refine sj_callVv C 43 rfl dX1_takeOver_40 cv_X1_36 rfl (ct_X2_copyFrom _ (gr3 _) (gs3 _) (hp.2 4 4 (by omega) (by omega))) rfl rfl rfl ⟨_, _, kd_r3, rfl, rfl, by decide⟩ ⟨rfl, rfl⟩ ?_
  rw [sq_r4 h, sq_w4 h, eI _ 4 (by omega)]
  refine sj_aload_n C 44 rfl dX1_takeOver_43 rfl rfl ?_
  refine sj_getr C 47 rfl fd_X1_23 dX1_takeOver_44 kd_o rf_o_4 ?_
  refine sj_aload_n C 48 rfl dX1_takeOver_47 rfl rfl ?_
  refine sj_getr C 51 rfl fd_X1_23 dX1_takeOver_48 kd_e rf_e_4 ?_
  refine sj_callVv C 54 rfl dX1_takeOver_51 cv_X1_36 rfl (ct_X2_copyFrom _ (gr5 _) (gs5 _) (hp.2 6 6 (by omega) (by omega))) rfl rfl rfl ⟨_, _, kd_r5, rfl, rfl, by decide⟩ ⟨rfl, rfl⟩ ?_
  rw [sq_r6 h, sq_w6 h, eI _ 6 (by omega)]
  refine sj_aload_n C 55 rfl dX1_takeOver_54 rfl rfl ?_
  refine sj_getr C 58 rfl fd_X1_26 dX1_takeOver_55 kd_o rf_o_5 ?_
  refine sj_aload_n C 59 rfl dX1_takeOver_58 rfl rfl ?_
  refine sj_getr C 62 rfl fd_X1_26 dX1_takeOver_59 kd_e rf_e_5 ?_
  refine sj_callVv C 65 rfl dX1_takeOver_62 cv_X1_36 rfl (ct_X2_copyFrom _ (gr7 _) (gs7 _) (hp.2 8 8 (by omega) (by omega))) rfl rfl rfl ⟨_, _, kd_r7, rfl, rfl, by decide⟩ ⟨rfl, rfl⟩ ?_
  rw [sq_r8, sq_w8, eI _ 8 (by omega)]
  refine sj_vret C hR rfl rfl dX1_takeOver_65 ?_
  exact ⟨rfl, rfl⟩
