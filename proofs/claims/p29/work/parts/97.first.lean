/-! THE FIRST STATE -/
def sp_pi (i : Nat) : Nat := if i < 16 then 12 + sq_og i else if i < 32 then 154 + sq_og (i - 16) else if i < 128 then 34 + 20 * (i / 16 - 2) + sq_og (i % 16) else if i < 139 then 1 + (i - 128) else if i = 139 then 32 else if i = 140 then 33 else if i = 141 then 0 else if i < 148 then i + 32 else ([14, 15, 16, 17, 156, 157, 158, 159, 36, 37, 38, 39] : List Nat).getD (i - 148) 0
theorem sp_pi_lt : ∀ i, i < 160 → sp_pi i < 180 := by decide +kernel
theorem sp_pi_inj : ∀ i, i < 160 → ∀ j, j < 160 → sp_pi i = sp_pi j → i = j := by decide +kernel
theorem sp_pi_0 : ∀ i, i < 16 → sp_pi i = 1 + (11 + sq_og i) := by decide +kernel
theorem sp_pi_1 : ∀ i, i < 16 → sp_pi (16 + i) = 1 + (153 + sq_og i) := by decide +kernel
theorem sp_pi_2 : ∀ j, j < 6 → ∀ i, i < 16 → sp_pi (16 * (2 + j) + i) = 1 + (33 + 20 * j + sq_og i) := by decide +kernel
theorem sp_pi_3 : ∀ i, i < 11 → sp_pi (128 + i) = 1 + (0 + i) := by decide +kernel
theorem sp_pi_4 : ∀ i, i < 6 → sp_pi (142 + i) = 1 + (173 + i) := by decide +kernel
/-- the first row of numbers -/
def sp_q0 : Nat → Int32 := (upd (upd (upd (upd (upd (upd (upd (upd (upd (fun _ => 0) 0 4) 1 10) 2 3) 3 20) 4 8) 5 6) 6 40) 7 2) 8 4)
def sp_m0 : Nat → Int32 := upd (upd sp_q0 12 (-1)) 13 (-1)
theorem sp_q0_m : ∀ j, j < 12 → sp_q0 j = sp_m0 j := by decide +kernel
theorem sp_m0_9 : sj_tn (sp_m0 9) = 0 := by decide +kernel
theorem sp_m0_10 : sj_tn (sp_m0 10) = 0 := by decide +kernel
theorem sp_m0_t : ∀ j, j < 9 → sj_t1 j = sp_m0 j := by decide +kernel
theorem sp_m0_s : ∀ s, s < 9 → 0 ≤ sp_m0 s ∧ sp_m0 s ≤ sj_mst (nI s) := by decide +kernel
theorem sp_inv_m0 : sj_inv sp_m0 := by
  refine ⟨⟨by decide +kernel, by decide +kernel⟩, ⟨by decide +kernel, by decide +kernel⟩, ?_, fun i hi => ?_, sp_m0_s⟩
  · rw [sp_m0_10]
    exact ⟨fun k hk => by omega, fun k hk => by omega, fun j k _ hk => by omega⟩
  · rw [sp_m0_9] at hi
    omega
theorem sp_uc_m0 : sj_uc sp_m0 := fun k hk => by
  rw [sp_m0_10] at hk
  omega
theorem sp_T_m0 {S : sj_St} {F : Nat → Prop} {D : Nat → Nat} (h : sq_nT S D) : sq_T S F D sp_m0 := by
  obtain ⟨gt, ⟨g1, g2, g3⟩, g4, ⟨g5, g6, g7⟩, g8⟩ := h
  refine ⟨gt, ⟨g1.trans (by decide +kernel), g2.trans (by decide +kernel), g3.trans (by decide +kernel)⟩, fun i hi => ?_, fun j hj => (g4 j hj).trans (sp_m0_t j hj), ⟨g5.trans (by decide +kernel), g6.trans (by decide +kernel), fun k hk => ?_, fun i hi => ?_⟩, fun i hi => ?_⟩
  · rw [sp_m0_9] at hi
    omega
  · rw [sp_m0_10] at hk
    omega
  · refine (g7 i hi).trans ?_
    unfold sj_hH
    rw [sp_m0_10]
    rfl
  · rw [sp_m0_9] at hi
    omega
theorem sp_k3_0 {S : sj_St} {D : Nat → Nat} (h : sq_nT S D) : sq_k3 S D := fun j b _ hb => by
  rw [h.2.2.2.2 j] at hb
  cases hb
set_option maxHeartbeats 400000 in
theorem sp_W_first {S T U : sj_St} {a : Nat} {L M : List Nat} (ka : sj_kd S a = some 6) (h6 : sq_N6 S a L T) (hM : M.length = 6) (fM : sq_fl T M U) (xU : sq_xp (fun _ => False) T U) : ∃ g : Nat → Nat, g 141 = a ∧ (∀ i, i < 6 → g (142 + i) = M.getD i 0) ∧ (∀ i, i < 160 → ∃ c, sj_kd U (g i) = some c) ∧ ∃ B, sq_W U g sp_m0 false (fun _ => 0) 0 0 (fun _ _ => 0) 0 B := by
  obtain ⟨⟨hL, hf⟩, ⟨k0, r0, r1, r2, r3, f4⟩, hxl, hn0, hn1, ⟨hk, hr, hks, hil, hfi, hTs⟩, x1⟩ := h6
  have hf3 : sq_fl S (L ++ M) U := sq_fl_tr hf x1 fM xU
  have hnd := sq_fl_cons hf3 ka
  have hlen : (a :: (L ++ M)).length = 180 := by
    rw [List.length_cons, List.length_append]
    omega
  obtain ⟨LL, hLL⟩ : ∃ LL, a :: (L ++ M) = LL := ⟨_, rfl⟩
  rw [hLL] at hnd hlen
  have gL : ∀ i, i < 173 → LL.getD (1 + i) 0 = L.getD i 0 := fun i hi => by
    rw [← hLL, Nat.add_comm]
    exact sq_gd_l (by omega)
  have gM : ∀ i, LL.getD (1 + (173 + i)) 0 = M.getD i 0 := fun i => by
    rw [← hLL, Nat.add_comm 1]
    exact sq_gd_r hL
  have g0 : LL.getD 0 0 = a := by rw [← hLL]; rfl
  have hall : ∀ x, x ∈ LL → ∃ c, sj_kd U x = some c := fun x hx => by
    rw [← hLL] at hx
    rcases List.mem_cons.mp hx with rfl | hx
    · exact ⟨6, sq_x_k xU k0⟩
    · exact (hf3.1 x hx).2
  clear hLL
  obtain ⟨g, hg⟩ : ∃ g : Nat → Nat, ∀ i, g i = LL.getD (sp_pi i) 0 := ⟨fun i => LL.getD (sp_pi i) 0, fun _ => rfl⟩
  have hgi : ∀ i j, i < 160 → j < 160 → g i = g j → i = j := fun i j hi hj e => by
    rw [hg, hg] at e
    exact sp_pi_inj i hi j hj (sq_gd_inj hnd (by rw [hlen]; exact sp_pi_lt i hi) (by rw [hlen]; exact sp_pi_lt j hj) e)
  have hgk : ∀ i, i < 160 → ∃ c, sj_kd U (g i) = some c := fun i hi => by
    rw [hg]
    exact hall _ (sq_gd_mem (by rw [hlen]; exact sp_pi_lt i hi))
  have e0 : ∀ i, i < 16 → g (16 * 0 + i) = L.getD (11 + sq_og i) 0 := fun i hi => by
    rw [hg, Nat.mul_zero, Nat.zero_add, sp_pi_0 i hi, gL _ (by have := sq_og_lt hi; omega)]
  have e1 : ∀ i, i < 16 → g (16 * 1 + i) = L.getD (153 + sq_og i) 0 := fun i hi => by
    rw [hg, Nat.mul_one, sp_pi_1 i hi, gL _ (by have := sq_og_lt hi; omega)]
  have e2 : ∀ j, j < 6 → ∀ i, i < 16 → g (16 * (2 + j) + i) = L.getD (33 + 20 * j + sq_og i) 0 := fun j hj i hi => by
    rw [hg, sp_pi_2 j hj i hi, gL _ (by have := sq_og_lt hi; omega)]
  have e3 : ∀ i, i < 11 → g (128 + i) = L.getD (0 + i) 0 := fun i hi => by
    rw [hg, sp_pi_3 i hi, gL _ (by omega)]
  have e4 : ∀ i, i < 6 → g (142 + i) = M.getD i 0 := fun i hi => by
    rw [hg, sp_pi_4 i hi, gM]
  have e139 : g 139 = L.getD 31 0 := by
    rw [hg, show sp_pi 139 = 1 + 31 from by decide +kernel, gL _ (by omega)]
  have e140 : g 140 = L.getD 32 0 := by
    rw [hg, show sp_pi 140 = 1 + 32 from by decide +kernel, gL _ (by omega)]
  have e141 : g 141 = a := by
    rw [hg, show sp_pi 141 = 0 from by decide +kernel, g0]
  clear hg gL gM g0 hnd hlen hall
  have t0 : sq_nT U (sq_D g 0) := sq_nT_cg e0 (sq_nT_xp xU (fun i _ => (fun h => h)) hn0)
  have t1 : sq_nT U (sq_D g 1) := sq_nT_cg e1 (sq_nT_xp xU (fun i _ => (fun h => h)) hn1)
  have t2 : ∀ j, j < 6 → sq_nT U (sq_D g (2 + j)) := fun j hj => sq_nT_cg (e2 j hj) (sq_nT_xp xU (fun i _ => (fun h => h)) (hTs j hj).2)
  have tt : ∀ t, t < 8 → sq_nT U (sq_D g t) := fun t ht => by
    rcases Nat.lt_or_ge t 2 with h2 | h2
    · rcases (show t = 0 ∨ t = 1 by omega) with rfl | rfl
      · exact t0
      · exact t1
    · obtain ⟨j, rfl⟩ : ∃ j, t = 2 + j := ⟨t - 2, by omega⟩
      exact t2 j (by omega)
  have c0 : g 0 = L.getD 11 0 := e0 0 (by omega)
  have c16 : g 16 = L.getD 153 0 := e1 0 (by omega)
  have c128 : g 128 = L.getD 0 0 := e3 0 (by omega)
  have fiH : sj_fi U (g 139) = fun _ => 0 := by
    rw [e139]
    exact ((xU _ _ hk).2 (fun h => h)).2.2.1.trans hfi
  refine ⟨g, e141, e4, hgk, sj_ia U (g 147), ⟨⟨?_, fun t ht => (tt t ht).1, ?_, hgi⟩, ⟨sp_T_m0 t0, ?_, fun hh => by cases hh⟩, fun t ht => sp_k3_0 (tt t ht), ⟨?_, by omega, ?_, by omega, fun j hj => by omega⟩, ?_, fun j hj => by omega⟩⟩
  · rw [e141, c0, c16, c128, e139]
    exact ⟨sq_x_k xU k0, (sq_x_rf xU k0 (fun h => h) 0).trans r0, (sq_x_rf xU k0 (fun h => h) 1).trans r1, (sq_x_rf xU k0 (fun h => h) 2).trans r2, (sq_x_rf xU k0 (fun h => h) 3).trans r3⟩
  · rw [e139, e140]
    exact ⟨sq_x_k xU hk, (sq_x_rf xU hk (fun h => h) 0).trans hr, sq_x_k xU hks, (sq_x_il xU hks (fun h => h)).trans hil, fun j hj => (sq_x_ra xU hks (fun h => h) j).trans ((hTs j hj).1.trans (congrArg some (e2 j hj 0 (by omega)).symm))⟩
  · rw [e141]
    exact (sq_x_fi xU k0 (fun h => h) 4).trans f4
  · rw [fiH]
    rfl
  · rw [fiH]
    rfl
  · rw [c128]
    exact sq_xl_cg e3 (sq_xl_xpP xU (fun h => h) (fun i _ => (fun h => h)) (hxl _))
theorem sp_wq (S : sj_St) (a k : Nat) (v : Int32) : sj_ia (sj_wIa S a k v) a = upd (sj_ia S a) k v := sj_up_self _ _ _
theorem sp_Mfirst {S T : sj_St} {a q n t p w r : Nat} {L : List Nat} (ka : sj_kd S a = some 6) (h6 : sq_N6 S a L T) (f1 : sj_kd T q = none) (f2 : sj_kd (sj_nA T q 12) r = none) (f3 : sj_kd (sj_nA (sj_nA T q 12) r 9) n = none) (f4 : sj_kd (sj_nA (sj_nA (sj_nA T q 12) r 9) n 9) t = none) (f5 : sj_kd (sj_nA (sj_nA (sj_nA (sj_nA T q 12) r 9) n 9) t 64) p = none) (f6 : sj_kd (sj_nA (sj_nA (sj_nA (sj_nA (sj_nA T q 12) r 9) n 9) t 64) p 29) w = none) : ∃ g : Nat → Nat, ∃ B, (g 141 = a ∧ g 142 = q ∧ g 143 = r ∧ g 144 = n ∧ g 145 = t ∧ g 146 = p ∧ g 147 = w) ∧ sp_M (sj_wIa (sj_wIa (sj_wIa (sj_wIa (sj_wIa (sj_wIa (sj_wIa (sj_wIa (sj_wIa (sj_nA (sj_nA (sj_nA (sj_nA (sj_nA (sj_nA T q 12) r 9) n 9) t 64) p 29) w 8) q 0 4) q 1 10) q 2 3) q 3 20) q 4 8) q 5 6) q 6 40) q 7 2) q 8 4) g sp_m0 sp_m0 0 0 (fun _ _ => 0) 0 B := by
  obtain ⟨T1, e1⟩ : ∃ T1, sj_nA T q 12 = T1 := ⟨_, rfl⟩
  obtain ⟨T2, e2⟩ : ∃ T2, sj_nA T1 r 9 = T2 := ⟨_, rfl⟩
  obtain ⟨T3, e3⟩ : ∃ T3, sj_nA T2 n 9 = T3 := ⟨_, rfl⟩
  obtain ⟨T4, e4⟩ : ∃ T4, sj_nA T3 t 64 = T4 := ⟨_, rfl⟩
  obtain ⟨T5, e5⟩ : ∃ T5, sj_nA T4 p 29 = T5 := ⟨_, rfl⟩
  obtain ⟨T6, e6⟩ : ∃ T6, sj_nA T5 w 8 = T6 := ⟨_, rfl⟩
  rw [e1] at f2
  rw [e1, e2] at f3
  rw [e1, e2, e3] at f4
  rw [e1, e2, e3, e4] at f5
  rw [e1, e2, e3, e4, e5] at f6
  rw [e1, e2, e3, e4, e5, e6]
  have nw : ∀ {A A' : sj_St} {b N : Nat}, sj_nA A b N = A' → sj_kd A b = none → sq_xp (fun _ => False) A A' ∧ (sj_kd A' b = some 8 ∧ sj_il A' b = N) ∧ sj_ia A' b = fun _ => 0 := fun {A A' b N} e f => by
    subst e
    exact ⟨sq_xp_nA f, ⟨sj_up_self _ _ _, sj_up_self _ _ _⟩, sj_up_self _ _ _⟩
  obtain ⟨x1, k1, i1⟩ := nw e1 f1
  obtain ⟨x2, k2, i2⟩ := nw e2 f2
  obtain ⟨x3, k3, i3⟩ := nw e3 f3
  obtain ⟨x4, k4, i4⟩ := nw e4 f4
  obtain ⟨x5, k5, i5⟩ := nw e5 f5
  obtain ⟨x6, k6, i6⟩ := nw e6 f6
  clear nw e1 e2 e3 e4 e5 e6
  have y6 : sq_xp (fun _ => False) T5 T6 := x6
  have y5 := sq_xp_tr x5 y6
  have y4 := sq_xp_tr x4 y5
  have y3 := sq_xp_tr x3 y4
  have y2 := sq_xp_tr x2 y3
  have y1 := sq_xp_tr x1 y2
  have l6 := sq_fl_tr (sq_fl_tr (sq_fl_tr (sq_fl_tr (sq_fl_tr (sq_fl_1 f1 k1.1) x1 (sq_fl_1 f2 k2.1) x2) (sq_xp_tr x1 x2) (sq_fl_1 f3 k3.1) x3) (sq_xp_tr x1 (sq_xp_tr x2 x3)) (sq_fl_1 f4 k4.1) x4) (sq_xp_tr x1 (sq_xp_tr x2 (sq_xp_tr x3 x4))) (sq_fl_1 f5 k5.1) x5) (sq_xp_tr x1 (sq_xp_tr x2 (sq_xp_tr x3 (sq_xp_tr x4 x5)))) (sq_fl_1 f6 k6.1) x6
  have q1 := sp_rowx y2 (fun h => h) k1
  have q2 := sp_rowx y3 (fun h => h) k2
  have q3 := sp_rowx y4 (fun h => h) k3
  have q4 := sp_rowx y5 (fun h => h) k4
  have q5 := sp_rowx y6 (fun h => h) k5
  obtain ⟨U, hU⟩ : ∃ U, (sj_wIa (sj_wIa (sj_wIa (sj_wIa (sj_wIa (sj_wIa (sj_wIa (sj_wIa (sj_wIa T6 q 0 4) q 1 10) q 2 3) q 3 20) q 4 8) q 5 6) q 6 40) q 7 2) q 8 4) = U := ⟨_, rfl⟩
  have iU : sj_ia U q = sp_q0 := by
    rw [← hU]
    rw [sp_wq, sp_wq, sp_wq, sp_wq, sp_wq, sp_wq, sp_wq, sp_wq, sp_wq, q1.2, i1]
    rfl
  have w1 : ∀ (A : sj_St) (k : Nat) (v : Int32), sq_xp (fun b => b = q) A (sj_wIa A q k v) := fun A k v => sq_xp_fr (sq_fr_ia (upd (sj_ia A q) k v) rfl)
  have xW : sq_xp (fun b => b = q) T6 U := by
    rw [← hU]
    exact sq_xp_tr (sq_xp_tr (sq_xp_tr (sq_xp_tr (sq_xp_tr (sq_xp_tr (sq_xp_tr (sq_xp_tr (w1 _ _ _) (w1 _ _ _)) (w1 _ _ _)) (w1 _ _ _)) (w1 _ _ _)) (w1 _ _ _)) (w1 _ _ _)) (w1 _ _ _)) (w1 _ _ _)
  have kU : ∀ b, sj_kd U b = sj_kd T6 b ∧ sj_il U b = sj_il T6 b := fun b => by
    rw [← hU]
    exact ⟨rfl, rfl⟩
  rw [hU]
  have xTU : sq_xp (fun _ => False) T U := sq_xp_tq y1 xW (fun b c hb e => by
    rw [e, f1] at hb
    cases hb)
  obtain ⟨g, ga, gM, gk, B, hW⟩ := sp_W_first (U := U) (M := [q] ++ [r] ++ [n] ++ [t] ++ [p] ++ [w]) ka h6 rfl ⟨fun x hx => ⟨(l6.1 x hx).1, by rw [(kU x).1]; exact (l6.1 x hx).2⟩, l6.2⟩ xTU
  have g2 : g 142 = q := gM 0 (by omega)
  have g3 : g 143 = r := gM 1 (by omega)
  have g4 : g 144 = n := gM 2 (by omega)
  have g5 : g 145 = t := gM 3 (by omega)
  have g6 : g 146 = p := gM 4 (by omega)
  have g7 : g 147 = w := gM 5 (by omega)
  have z : ∀ b N, (sj_kd T6 b = some 8 ∧ sj_il T6 b = N) → (sj_kd U b = some 8 ∧ sj_il U b = N) := fun b N h => by
    rw [(kU b).1, (kU b).2]
    exact h
  refine ⟨g, B, ⟨ga, g2, g3, g4, g5, g6, g7⟩, hW, ⟨sp_inv_m0, sp_uc_m0⟩, fun j hj => absurd hj (Nat.not_lt_zero j), gk, ?_, ?_⟩
  · rw [g2, g3, g4, g5, g6]
    refine ⟨z _ _ q1.1, z _ _ q2.1, z _ _ q3.1, z _ _ q4.1, z _ _ q5.1, fun j hj => ?_, fun i hi => ?_, fun k hk => ?_⟩
    · rw [iU]
      exact sp_q0_m j hj
    · rw [sp_m0_9] at hi
      exact absurd hi (Nat.not_lt_zero i)
    · rw [sp_m0_10] at hk
      exact absurd hk (Nat.not_lt_zero k)
  · rw [g7]
    exact z _ _ k6
