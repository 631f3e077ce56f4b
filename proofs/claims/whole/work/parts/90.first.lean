/-! THE FIRST STATE OF BOTH -/
def sq_pi (i : Nat) : Nat := if i < 16 then 12 + sq_og i else if i < 32 then 154 + sq_og (i - 16) else if i < 128 then 34 + 20 * (i / 16 - 2) + sq_og (i % 16) else if i < 139 then 1 + (i - 128) else if i = 139 then 32 else if i = 140 then 33 else if i = 141 then 0 else if i < 150 then i + 32 else ([14, 15, 16, 17, 156, 157, 158, 159, 36, 37] : List Nat).getD (i - 150) 0
theorem sq_pi_lt : ∀ i, i < 160 → sq_pi i < 182 := by decide +kernel
theorem sq_pi_inj : ∀ i, i < 160 → ∀ j, j < 160 → sq_pi i = sq_pi j → i = j := by decide +kernel
theorem sq_pi_0 : ∀ i, i < 16 → sq_pi i = 1 + (11 + sq_og i) := by decide +kernel
theorem sq_pi_1 : ∀ i, i < 16 → sq_pi (16 + i) = 1 + (153 + sq_og i) := by decide +kernel
theorem sq_pi_2 : ∀ j, j < 6 → ∀ i, i < 16 → sq_pi (16 * (2 + j) + i) = 1 + (33 + 20 * j + sq_og i) := by decide +kernel
theorem sq_pi_3 : ∀ i, i < 11 → sq_pi (128 + i) = 1 + (0 + i) := by decide +kernel
theorem sq_pi_4 : ∀ i, i < 8 → sq_pi (142 + i) = 1 + (173 + i) := by decide +kernel
theorem sj_m0_9 : sj_tn (sj_m0 9) = 0 := by decide +kernel
theorem sj_m0_10 : sj_tn (sj_m0 10) = 0 := by decide +kernel
theorem sj_m0_t : ∀ j, j < 9 → sj_t1 j = sj_m0 j := by decide +kernel
theorem sj_m0_s : ∀ s, s < 9 → 0 ≤ sj_m0 s ∧ sj_m0 s ≤ sj_mst (nI s) := by decide +kernel
theorem sj_inv_m0 : sj_inv sj_m0 := by
  refine ⟨⟨by decide +kernel, by decide +kernel⟩, ⟨by decide +kernel, by decide +kernel⟩, ?_, fun i hi => ?_, sj_m0_s⟩
  · rw [sj_m0_10]
    exact ⟨fun k hk => by omega, fun k hk => by omega, fun j k _ hk => by omega⟩
  · rw [sj_m0_9] at hi
    omega
theorem sj_uc_m0 : sj_uc sj_m0 := fun k hk => by
  rw [sj_m0_10] at hk
  omega
theorem sq_T_m0 {S : sj_St} {F : Nat → Prop} {D : Nat → Nat} (h : sq_nT S D) : sq_T S F D sj_m0 := by
  obtain ⟨gt, ⟨g1, g2, g3⟩, g4, ⟨g5, g6, g7⟩, g8⟩ := h
  refine ⟨gt, ⟨g1.trans (by decide +kernel), g2.trans (by decide +kernel), g3.trans (by decide +kernel)⟩, fun i hi => ?_, fun j hj => (g4 j hj).trans (sj_m0_t j hj), ⟨g5.trans (by decide +kernel), g6.trans (by decide +kernel), fun k hk => ?_, fun i hi => ?_⟩, fun i hi => ?_⟩
  · rw [sj_m0_9] at hi
    omega
  · rw [sj_m0_10] at hk
    omega
  · refine (g7 i hi).trans ?_
    unfold sj_hH
    rw [sj_m0_10]
    rfl
  · rw [sj_m0_9] at hi
    omega
theorem sq_k3_0 {S : sj_St} {D : Nat → Nat} (h : sq_nT S D) : sq_k3 S D := fun j b _ hb => by
  rw [h.2.2.2.2 j] at hb
  cases hb
/-- the reference, new -/
def sq_N7 (S : sj_St) (a : Nat) (L : List Nat) (T : sj_St) : Prop := L.length = 7 ∧ sq_fl S L T ∧ (sj_kd T a = some 7 ∧ (sj_rf T a 1 = some (L.getD 0 0) ∧ sj_kd T (L.getD 0 0) = some 8 ∧ sj_il T (L.getD 0 0) = 434) ∧ (sj_rf T a 2 = some (L.getD 1 0) ∧ sj_kd T (L.getD 1 0) = some 8 ∧ sj_il T (L.getD 1 0) = 434) ∧ (sj_rf T a 3 = some (L.getD 2 0) ∧ sj_kd T (L.getD 2 0) = some 8 ∧ sj_il T (L.getD 2 0) = 2604) ∧ (sj_rf T a 5 = some (L.getD 3 0) ∧ sj_kd T (L.getD 3 0) = some 8 ∧ sj_il T (L.getD 3 0) = 434) ∧ (sj_rf T a 7 = some (L.getD 4 0) ∧ sj_kd T (L.getD 4 0) = some 8 ∧ sj_il T (L.getD 4 0) = 60) ∧ (sj_rf T a 13 = some (L.getD 5 0) ∧ sj_kd T (L.getD 5 0) = some 8 ∧ sj_il T (L.getD 5 0) = 40) ∧ (sj_rf T a 15 = some (L.getD 6 0) ∧ sj_kd T (L.getD 6 0) = some 8 ∧ sj_il T (L.getD 6 0) = 8)) ∧ sj_ia T (L.getD 0 0) = sj_m0 ∧ sj_fi T a = sj_fi S a ∧ sq_xp (fun b => b = a) S T
set_option maxHeartbeats 400000 in
theorem sq_Z_first {S T T2 U : sj_St} {a h o : Nat} {L LM : List Nat} (ka : sj_kd S a = some 6) (h6 : sq_N6 S a L T) (fh : sj_kd T h = none) (h7 : sq_N7 (sj_nO T h 7) h LM T2) (x2 : sq_xp (fun _ => False) T2 U) (fo : sj_kd T2 o = none) : ∃ g : Nat → Nat, g 141 = a ∧ g 142 = h ∧ (∀ i, i < 160 → g i ≠ o) ∧ ∃ B, sq_Z U g sj_m0 false (fun _ => 0) 0 0 (fun _ _ => 0) 0 B := by
  obtain ⟨⟨hL, hf⟩, ⟨k0, r0, r1, r2, r3, f4⟩, hxl, hn0, hn1, ⟨hk, hr, hks, hil, hfi, hTs⟩, x1⟩ := h6
  obtain ⟨lM, hfM, ⟨m0, ⟨m1, m1k, m1l⟩, ⟨m2, m2k, m2l⟩, ⟨m3, m3k, m3l⟩, ⟨m5, m5k, m5l⟩, ⟨m7, m7k, m7l⟩, ⟨m13, m13k, m13l⟩, ⟨m15, m15k, m15l⟩⟩, mi, mf, x7⟩ := h7
  have xT2 : sq_xp (fun _ => False) T T2 := sq_xp_new (sq_xp_nO fh) fh x7
  have xU : sq_xp (fun _ => False) T U := sq_xp_tr xT2 x2
  have hf2 : sq_fl T (h :: LM) T2 := sq_fl_new fh hfM x7
  have hf3 : sq_fl S (L ++ (h :: LM)) T2 := sq_fl_tr hf x1 hf2 xT2
  have hnd := sq_fl_cons hf3 ka
  have hlen : (a :: (L ++ (h :: LM))).length = 182 := by
    rw [List.length_cons, List.length_append, List.length_cons]
    omega
  obtain ⟨LL, hLL⟩ : ∃ LL, a :: (L ++ (h :: LM)) = LL := ⟨_, rfl⟩
  rw [hLL] at hnd hlen
  have gL : ∀ i, i < 173 → LL.getD (1 + i) 0 = L.getD i 0 := fun i hi => by
    rw [← hLL, Nat.add_comm]
    exact sq_gd_l (by omega)
  have gM : ∀ i, LL.getD (1 + (173 + i)) 0 = (h :: LM).getD i 0 := fun i => by
    rw [← hLL, Nat.add_comm 1]
    exact sq_gd_r hL
  have g0 : LL.getD 0 0 = a := by rw [← hLL]; rfl
  have hall : ∀ x, x ∈ LL → ∃ c, sj_kd T2 x = some c := fun x hx => by
    rw [← hLL] at hx
    rcases List.mem_cons.mp hx with rfl | hx
    · exact ⟨6, sq_x_k xT2 k0⟩
    · exact (hf3.1 x hx).2
  clear hLL
  obtain ⟨g, hg⟩ : ∃ g : Nat → Nat, ∀ i, g i = LL.getD (sq_pi i) 0 := ⟨fun i => LL.getD (sq_pi i) 0, fun _ => rfl⟩
  have hgi : ∀ i j, i < 160 → j < 160 → g i = g j → i = j := fun i j hi hj e => by
    rw [hg, hg] at e
    exact sq_pi_inj i hi j hj (sq_gd_inj hnd (by rw [hlen]; exact sq_pi_lt i hi) (by rw [hlen]; exact sq_pi_lt j hj) e)
  have hgk : ∀ i, i < 160 → ∃ c, sj_kd T2 (g i) = some c := fun i hi => by
    rw [hg]
    exact hall _ (sq_gd_mem (by rw [hlen]; exact sq_pi_lt i hi))
  have e0 : ∀ i, i < 16 → g (16 * 0 + i) = L.getD (11 + sq_og i) 0 := fun i hi => by
    rw [hg, Nat.mul_zero, Nat.zero_add, sq_pi_0 i hi, gL _ (by have := sq_og_lt hi; omega)]
  have e1 : ∀ i, i < 16 → g (16 * 1 + i) = L.getD (153 + sq_og i) 0 := fun i hi => by
    rw [hg, Nat.mul_one, sq_pi_1 i hi, gL _ (by have := sq_og_lt hi; omega)]
  have e2 : ∀ j, j < 6 → ∀ i, i < 16 → g (16 * (2 + j) + i) = L.getD (33 + 20 * j + sq_og i) 0 := fun j hj i hi => by
    rw [hg, sq_pi_2 j hj i hi, gL _ (by have := sq_og_lt hi; omega)]
  have e3 : ∀ i, i < 11 → g (128 + i) = L.getD (0 + i) 0 := fun i hi => by
    rw [hg, sq_pi_3 i hi, gL _ (by omega)]
  have e4 : ∀ i, i < 8 → g (142 + i) = (h :: LM).getD i 0 := fun i hi => by
    rw [hg, sq_pi_4 i hi, gM]
  have e139 : g 139 = L.getD 31 0 := by
    rw [hg, show sq_pi 139 = 1 + 31 from by decide +kernel, gL _ (by omega)]
  have e140 : g 140 = L.getD 32 0 := by
    rw [hg, show sq_pi 140 = 1 + 32 from by decide +kernel, gL _ (by omega)]
  have e141 : g 141 = a := by
    rw [hg, show sq_pi 141 = 0 from by decide +kernel, g0]
  have e142 : g 142 = h := e4 0 (by omega)
  have b1 : sq_b g 1 = LM.getD 0 0 := e4 1 (by omega)
  have b2 : sq_b g 2 = LM.getD 1 0 := e4 2 (by omega)
  have b3 : sq_b g 3 = LM.getD 2 0 := e4 3 (by omega)
  have b5 : sq_b g 5 = LM.getD 3 0 := e4 4 (by omega)
  have b7 : sq_b g 7 = LM.getD 4 0 := e4 5 (by omega)
  have b13 : sq_b g 13 = LM.getD 5 0 := e4 6 (by omega)
  have b15 : sq_b g 15 = LM.getD 6 0 := e4 7 (by omega)
  clear hg gL gM g0 hnd hlen hall
  have t0 : sq_nT U (sq_D g 0) := sq_nT_cg e0 (sq_nT_xp xU (fun i _ => (fun h => h)) hn0)
  have t1 : sq_nT U (sq_D g 1) := sq_nT_cg e1 (sq_nT_xp xU (fun i _ => (fun h => h)) hn1)
  have t2 : ∀ j, j < 6 → sq_nT U (sq_D g (2 + j)) := fun j hj => sq_nT_cg (e2 j hj) (sq_nT_xp xU (fun i _ => (fun h => h)) (hTs j hj).2)
  have tt : ∀ t, t < 8 → sq_nT U (sq_D g t) := fun t ht => by
    rcases Nat.lt_or_ge t 2 with h2 | h2
    · rcases (show t = 0 ∨ t = 1 by omega) with rfl | rfl
      · exact t0
      · exact t1
    · obtain ⟨j, rfl⟩ : ∃ j, t = 2 + j := ⟨t - 2, by omega⟩
      exact t2 j (by omega)
  have c0 : g 0 = L.getD 11 0 := e0 0 (by omega)
  have c16 : g 16 = L.getD 153 0 := e1 0 (by omega)
  have c128 : g 128 = L.getD 0 0 := e3 0 (by omega)
  have fiH : sj_fi U (g 139) = fun _ => 0 := by
    rw [e139]
    exact ((xU _ _ hk).2 (fun h => h)).2.2.1.trans hfi
  have fih : sj_fi U (g 142) = fun _ => 0 := by
    rw [e142]
    exact (((x2 _ _ m0).2 (fun h => h)).2.2.1.trans mf).trans (sj_up_self _ _ _)
  refine ⟨g, e141, e142, fun i hi e => ?_, sj_ia U (g 147), ⟨⟨?_, fun t ht => (tt t ht).1, ?_, hgi⟩, ⟨sq_T_m0 t0, ?_, fun hh => by cases hh⟩, fun t ht => sq_k3_0 (tt t ht), ⟨?_, by omega, ?_, by omega, fun j hj => by omega⟩, ?_, fun j hj => by omega⟩, ⟨⟨?_, ?_⟩, ⟨?_, fun j hj => by omega⟩, ⟨?_, fun hh => by cases hh⟩, ?_, by omega, rfl⟩, ⟨sj_inv_m0, sj_uc_m0⟩, (fun hh => by cases hh), (fun j hj => by omega), fun i hi => (hgk i hi).imp (fun c hc => sq_x_k x2 hc)⟩
  · obtain ⟨c, hc⟩ := hgk i hi
    rw [e, fo] at hc
    cases hc
  · rw [e141, c0, c16, c128, e139]
    exact ⟨sq_x_k xU k0, (sq_x_rf xU k0 (fun h => h) 0).trans r0, (sq_x_rf xU k0 (fun h => h) 1).trans r1, (sq_x_rf xU k0 (fun h => h) 2).trans r2, (sq_x_rf xU k0 (fun h => h) 3).trans r3⟩
  · rw [e139, e140]
    exact ⟨sq_x_k xU hk, (sq_x_rf xU hk (fun h => h) 0).trans hr, sq_x_k xU hks, (sq_x_il xU hks (fun h => h)).trans hil, fun j hj => (sq_x_ra xU hks (fun h => h) j).trans ((hTs j hj).1.trans (congrArg some (e2 j hj 0 (by omega)).symm))⟩
  · rw [e141]
    exact (sq_x_fi xU k0 (fun h => h) 4).trans f4
  · rw [fiH]
    rfl
  · rw [fiH]
    rfl
  · rw [c128]
    exact sq_xl_cg e3 (sq_xl_xpP xU (fun h => h) (fun i _ => (fun h => h)) (hxl _))
  · refine ⟨?_, ?_, ?_, ?_, ?_, ?_, ?_, ?_, ?_⟩
    · rw [e142]
      exact sq_x_k x2 m0
    · rw [b1, e142]
      exact ⟨(sq_x_rf x2 m0 (fun h => h) 1).trans m1, sq_x_k x2 m1k, (sq_x_il x2 m1k (fun h => h)).trans m1l⟩
    · rw [b2, e142]
      exact ⟨(sq_x_rf x2 m0 (fun h => h) 2).trans m2, sq_x_k x2 m2k, (sq_x_il x2 m2k (fun h => h)).trans m2l⟩
    · rw [b3, e142]
      exact ⟨(sq_x_rf x2 m0 (fun h => h) 3).trans m3, sq_x_k x2 m3k, (sq_x_il x2 m3k (fun h => h)).trans m3l⟩
    · rw [b5, e142]
      exact ⟨(sq_x_rf x2 m0 (fun h => h) 5).trans m5, sq_x_k x2 m5k, (sq_x_il x2 m5k (fun h => h)).trans m5l⟩
    · rw [b7, e142]
      exact ⟨(sq_x_rf x2 m0 (fun h => h) 7).trans m7, sq_x_k x2 m7k, (sq_x_il x2 m7k (fun h => h)).trans m7l⟩
    · rw [b13, e142]
      exact ⟨(sq_x_rf x2 m0 (fun h => h) 13).trans m13, sq_x_k x2 m13k, (sq_x_il x2 m13k (fun h => h)).trans m13l⟩
    · rw [b15, e142]
      exact ⟨(sq_x_rf x2 m0 (fun h => h) 15).trans m15, sq_x_k x2 m15k, (sq_x_il x2 m15k (fun h => h)).trans m15l⟩
    · intro i j hi hj e
      have hbe : ∀ i, i < 16 → sq_be i < 160 := by decide +kernel
      have hbi : ∀ i, i < 16 → ∀ j, j < 16 → sq_be i = sq_be j → i = j := by decide +kernel
      exact hbi i hi j hj (hgi _ _ (hbe i hi) (hbe j hj) e)
  · rw [b1]
    exact (sq_x_ia x2 m1k (fun h => h)).trans mi
  · rw [fih]
    rfl
  · rw [fih]
    rfl
  · rw [fih]
    rfl
