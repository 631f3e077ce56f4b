/-! THE LAW: the class and its rows, together -/
def sp_Z (S : sj_St) (g : Nat → Nat) (m : Nat → Int32) : Prop := (∀ i, i < 160 → ∃ c, sj_kd S (g i) = some c) ∧ sp_B S (g 142) (g 143) (g 144) (g 145) (g 146) m ∧ (sj_kd S (g 147) = some 8 ∧ sj_il S (g 147) = 8)
/-- the class tells the row m1, the law's rows tell m0 -/
def sp_M (S : sj_St) (g : Nat → Nat) (m0 m1 : Nat → Int32) (p q : Nat) (Q : Nat → Nat → Int32) (n : Nat) (B : Nat → Int32) : Prop := sq_W S g m1 false (fun _ => 0) p q Q n B ∧ (sj_inv m1 ∧ sj_uc m1) ∧ (∀ j, j < q → sj_inv (Q j) ∧ sj_uc (Q j)) ∧ sp_Z S g m0
section
variable {S T : sj_St} {g : Nat → Nat} {m m0 m1 : Nat → Int32} {p q : Nat} {Q : Nat → Nat → Int32} {n : Nat} {B : Nat → Int32}
theorem sp_hi {hs : Bool} {ms : Nat → Int32} (hW : sq_W S g m hs ms p q Q n B) : ∀ i j, i < 160 → j < 160 → g i = g j → i = j := hW.1.2.2.2
theorem sp_hne (hi : ∀ i j, i < 160 → j < 160 → g i = g j → i = j) : sp_ne (g 142) (g 143) (g 144) (g 145) (g 146) := by
  have h : ∀ i j, i < 160 → j < 160 → i ≠ j → g i ≠ g j := fun i j h1 h2 h3 e => h3 (hi i j h1 h2 e)
  exact ⟨⟨h _ _ (by omega) (by omega) (by omega), h _ _ (by omega) (by omega) (by omega), h _ _ (by omega) (by omega) (by omega), h _ _ (by omega) (by omega) (by omega)⟩, ⟨h _ _ (by omega) (by omega) (by omega), h _ _ (by omega) (by omega) (by omega), h _ _ (by omega) (by omega) (by omega)⟩, ⟨h _ _ (by omega) (by omega) (by omega), h _ _ (by omega) (by omega) (by omega)⟩, h _ _ (by omega) (by omega) (by omega)⟩
theorem sp_rowx {P : Nat → Prop} (h : sq_xp P S T) {a N : Nat} (hp : ¬ P a) (hk : sj_kd S a = some 8 ∧ sj_il S a = N) : (sj_kd T a = some 8 ∧ sj_il T a = N) ∧ sj_ia T a = sj_ia S a := ⟨⟨sq_x_k h hk.1, (sq_x_il h hk.1 hp).trans hk.2⟩, sq_x_ia h hk.1 hp⟩
theorem sp_Z_xp {P : Nat → Prop} (hP : ∀ i, 142 ≤ i → i < 148 → ¬ P (g i)) (h : sq_xp P S T) (z : sp_Z S g m) : sp_Z T g m := by
  obtain ⟨z1, ⟨b1, b2, b3, b4, b5, bR⟩, z3⟩ := z
  have a1 := sp_rowx h (hP 142 (by omega) (by omega)) b1
  have a2 := sp_rowx h (hP 143 (by omega) (by omega)) b2
  have a3 := sp_rowx h (hP 144 (by omega) (by omega)) b3
  have a4 := sp_rowx h (hP 145 (by omega) (by omega)) b4
  have a5 := sp_rowx h (hP 146 (by omega) (by omega)) b5
  have a6 := sp_rowx h (hP 147 (by omega) (by omega)) z3
  refine ⟨fun i hi => (z1 i hi).imp (fun c hc => sq_x_k h hc), ⟨a1.1, a2.1, a3.1, a4.1, a5.1, ?_⟩, a6.1⟩
  rw [a1.2, a2.2, a3.2, a4.2, a5.2]
  exact bR
theorem sp_nCl (hi : ∀ i j, i < 160 → j < 160 → g i = g j → i = j) : ∀ i, 142 ≤ i → i < 148 → ¬ sq_Cl g (g i) := fun i h1 h2 => sp_Cl_no hi h1 (by omega)
theorem sp_QI (hm : sj_inv m ∧ sj_uc m) (hQ : ∀ j, j < q → sj_inv (Q j) ∧ sj_uc (Q j)) : ∀ j, j < sq_q6 q → sj_inv (sq_Qs m Q j) ∧ sj_uc (sq_Qs m Q j) := fun j hj => by
  cases j with
  | zero => exact hm
  | succ j =>
    refine hQ j ?_
    unfold sq_q6 at hj
    by_cases h : q < 6
    · rw [if_pos h] at hj
      omega
    · rw [if_neg h] at hj
      omega
theorem sp_q6_0 (q : Nat) : 0 < sq_q6 q := by
  unfold sq_q6
  by_cases h : q < 6
  · rw [if_pos h]
    omega
  · rw [if_neg h]
    omega
theorem sp_q6_1 (q : Nat) : sq_q6 q ≤ q + 1 := by
  unfold sq_q6
  by_cases h : q < 6
  · rw [if_pos h]
    omega
  · rw [if_neg h]
    omega
theorem sp_M_told (l : Launch) (hl : l.stackTraces = false) (h : sp_M S g m0 m1 p q Q n B) : sj_Ctr l nL_told [.ref (g 141)] S (sj_eq (some (.long (sp_told m1))) S) := ct_L_told l hl h.1 h.2.1.1
theorem sp_M_cy (l : Launch) (hl : l.stackTraces = false) (h : sp_M S g m m p q Q n B) {kd u v : Nat} (hk : sp_ok kd u v) (hy : (sp_f kd u v m).2.2 = true) : sj_Ctr l nL_call [.ref (g 141), .int (nI kd), .int (nI u), .int (nI v)] S (fun r T => r = some (.int (sp_f kd u v m).1) ∧ sp_M T g m (sp_f kd u v m).2.1 (sq_n6 p) (sq_q6 q) (sq_Qs m Q) n B) := by
  obtain ⟨hW, hm, hQ, hz⟩ := h
  refine sp_Ctr_up (ct_L_call l hl hW hm.1 hm.2 hk) (fun r T hp => ?_)
  obtain ⟨e, hf, hw⟩ := hp
  rw [if_pos hy, if_pos hy, if_pos hy] at hw
  exact ⟨e, hw, sp_f_in hm.1 hm.2 hk, sp_QI hm hQ, sp_Z_xp (sp_nCl (sp_hi hW)) (sq_xp_fr hf) hz⟩
theorem sp_M_cn (l : Launch) (hl : l.stackTraces = false) (h : sp_M S g m m p q Q n B) {kd u v : Nat} (hk : sp_ok kd u v) (hy : (sp_f kd u v m).2.2 = false) (he : (sp_f kd u v m).2.1 = m) : sj_Ctr l nL_call [.ref (g 141), .int (nI kd), .int (nI u), .int (nI v)] S (fun r T => r = some (.int (sp_f kd u v m).1) ∧ sp_M T g m m p q Q n B) := by
  obtain ⟨hW, hm, hQ, hz⟩ := h
  refine sp_Ctr_up (ct_L_call l hl hW hm.1 hm.2 hk) (fun r T hp => ?_)
  obtain ⟨e, hf, hw⟩ := hp
  have hn : ¬ (sp_f kd u v m).2.2 = true := by
    rw [hy]
    exact Bool.false_ne_true
  rw [if_neg hn, if_neg hn, if_neg hn, he] at hw
  exact ⟨e, hw, hm, hQ, sp_Z_xp (sp_nCl (sp_hi hW)) (sq_xp_fr hf) hz⟩
theorem sp_M_un (l : Launch) (hm : sj_inv m ∧ sj_uc m) (hQ : ∀ j, j < q → sj_inv (Q j) ∧ sj_uc (Q j)) (h : sp_M S g m0 m1 p (sq_q6 q) (sq_Qs m Q) n B) : sj_CtW l mL_undo [(0, 4, 5, 18)] [.ref (g 141)] S (fun r T => r = some (.int (nI (sq_q6 q - 1))) ∧ sp_M T g m0 m (sq_p6 p) (sq_q6 q - 1) (fun j => sq_Qs m Q (j + 1)) n B) := by
  obtain ⟨hW, hm1, hQ1, hz⟩ := h
  have h6 := sp_q6_1 q
  refine ct_L_undo_r l hW.1.1.1 (sp_Ctr_up (ct_X6_undo l hW hm1.1 (sp_q6_0 q) hm.1) (fun r T hp => ?_))
  obtain ⟨e, hf, hw⟩ := hp
  exact ⟨e, hw, hm, fun j hj => hQ j (by omega), sp_Z_xp (sp_nCl (sp_hi hW)) (sq_xp_fr hf) hz⟩
/-- the law's rows, written anew -/
theorem sp_M_w (h : sp_M S g m0 m1 p q Q n B) {Q' A N T' P' : Nat → Int32} (hR : sp_R Q' A N T' P' m1) : sp_M (sp_w S (g 142) (g 143) (g 144) (g 145) (g 146) Q' A N T' P') g m1 m1 p q Q n B := by
  obtain ⟨hW, hm1, hQ1, ⟨z1, zB, z3⟩⟩ := h
  have hi := sp_hi hW
  have hx : sq_xp (sp_La g) S (sp_w S (g 142) (g 143) (g 144) (g 145) (g 146) Q' A N T' P') := sq_xp_fr (sq_fr_tr (sq_fr_tr (sq_fr_tr (sq_fr_tr (sq_fr_ia _ ⟨142, by omega, by omega, rfl⟩) (sq_fr_ia _ ⟨143, by omega, by omega, rfl⟩)) (sq_fr_ia _ ⟨144, by omega, by omega, rfl⟩)) (sq_fr_ia _ ⟨145, by omega, by omega, rfl⟩)) (sq_fr_ia _ ⟨146, by omega, by omega, rfl⟩))
  obtain ⟨b1, b2, b3, b4, b5, bR⟩ := zB
  have h2 : ∀ a, sp_La g a → ¬ sj_kd S a = some 2 := fun a ha => by
    obtain ⟨i, h3, h4, e⟩ := ha
    have h8 : sj_kd S a = some 8 := by
      rcases (show i = 142 ∨ i = 143 ∨ i = 144 ∨ i = 145 ∨ i = 146 ∨ i = 147 by omega) with rfl | rfl | rfl | rfl | rfl | rfl
      · rw [e]; exact b1.1
      · rw [e]; exact b2.1
      · rw [e]; exact b3.1
      · rw [e]; exact b4.1
      · rw [e]; exact b5.1
      · rw [e]; exact z3.1
    rw [h8]
    exact fun h => by cases h
  exact ⟨sp_W_xp (fun a ha => ha) hx h2 hW, hm1, hQ1, fun i hi => (z1 i hi).imp (fun c hc => sq_x_k hx hc), sp_B_of ⟨b1, b2, b3, b4, b5⟩ (sp_hne hi) hR, z3⟩
theorem sp_M_du (l : Launch) (hm : sj_inv m ∧ sj_uc m) {kd u v : Nat} (hk : sp_ok kd u v) (mn : Int32) (h : sp_M S g m (sp_f kd u v m).2.1 p q Q n B) : sj_Ctr l mL_due [.int (nI kd), .int (nI u), .int (nI v), .int mn, .ref (g 142), .ref (g 143), .ref (g 144), .ref (g 145), .ref (g 146)] S (fun r U => r = some (.int (sp_f kd u v m).1) ∧ sp_M U g (sp_f kd u v m).2.1 (sp_f kd u v m).2.1 p q Q n B) := by
  refine sp_Ctr_up (ct_L_due l h.2.2.2.2.1 hm.1 (sp_hne (sp_hi h.1)) hm.2 hk mn) (fun r U hp => ?_)
  obtain ⟨e, Q', A, N, T', P', rfl, hR⟩ := hp
  exact ⟨e, sp_M_w h hR⟩
theorem sp_M_so (l : Launch) (x : Int32) (h : sp_M S g m m p q Q n B) : sj_Ctr l nL_isSo [.ref (g 141), .int (x), .ref (g 142), .ref (g 143), .ref (g 144), .ref (g 145), .ref (g 146)] S (sj_eq (some (.int 1)) S) := ct_L_isSo l h.1 h.2.1.1 h.2.1.2 h.2.2.2.2.1 x
/-- what the law typed -/
def sp_s (v : Int32) (e : Nat) : sp_X5 := sp_sx v (sp_x v e)
theorem sp_M_ty (l : Launch) (h : sp_M S g m m p q Q n B) (h8 : sj_tn (m 9) < 8) (v : Int32) : sj_Ctr l nL_types [.ref (g 141), .int v, .int (nI (sj_tn (m 9))), .ref (g 145)] S (fun r V => r = some (.int (nI (1 + sp_lw v 5))) ∧ ∃ n' B', sp_M V g m m p q Q n' B' ∧ sp_tx n' B' (sp_txt (sp_s v) (1 + sp_lw v 5)) ∧ ∀ e, e < 1 + sp_lw v 5 → sj_ia V (g 145) (8 * sj_tn (m 9) + e) = sp_pk (sp_s v e)) := by
  obtain ⟨hW, hm, hQ, ⟨z1, ⟨b1, b2, b3, b4, b5, bR⟩, z3⟩⟩ := h
  have hi := sp_hi hW
  refine sp_Ctr_up (ct_L_types l (sp_nCl hi 145 (by omega) (by omega)) ⟨145, by omega, by omega, rfl⟩ hm.1 hW b4 v (sh := sj_tn (m 9)) (by omega) (by omega)) (fun r V hp => ?_)
  obtain ⟨e, TR, ⟨y1, ⟨n', B', y2, y3⟩, y4, y5⟩, hP, hO⟩ := hp
  have hn : ∀ i, 142 ≤ i → i < 148 → i ≠ 145 → ¬ (sq_Cl g (g i) ∨ g i = g 145) := fun i h1 h2 h3 h4 => by
    rcases h4 with h4 | h4
    · exact sp_nCl hi i h1 h2 h4
    · exact h3 (hi i 145 (by omega) (by omega) h4)
  have a1 := sp_rowx y1 (hn 142 (by omega) (by omega) (by omega)) b1
  have a2 := sp_rowx y1 (hn 143 (by omega) (by omega) (by omega)) b2
  have a3 := sp_rowx y1 (hn 144 (by omega) (by omega) (by omega)) b3
  have a5 := sp_rowx y1 (hn 146 (by omega) (by omega) (by omega)) b5
  have a6 := sp_rowx y1 (hn 147 (by omega) (by omega) (by omega)) z3
  refine ⟨e, n', B', ⟨y2, hm, hQ, fun i hi => (z1 i hi).imp (fun c hc => sq_x_k y1 hc), ⟨a1.1, a2.1, a3.1, y4, a5.1, ?_⟩, a6.1⟩, y3, fun e he => ?_⟩
  · rw [a1.2, a2.2, a3.2, a5.2, y5]
    obtain ⟨r1, r2, r3⟩ := bR
    refine ⟨r1, fun i hi => ⟨(r2 i hi).1, (r2 i hi).2.1, fun e he => ?_⟩, r3⟩
    have h7 := (sp_ns hm.1 hi).2.2
    rw [hO _ (by omega)]
    exact (r2 i hi).2.2 e he
  · rw [y5]
    exact hP e he
theorem sp_M_tw (l : Launch) (h : sp_M S g m m p q Q n B) (v : Int32) : sj_Ctr l nL_types [.ref (g 141), .int v, .int (nI 0), .ref (g 147)] S (fun r V => r = some (.int (nI (1 + sp_lw v 5))) ∧ ∃ n' B', sp_M V g m m p q Q n' B' ∧ sp_tx n' B' (sp_txt (sp_s v) (1 + sp_lw v 5))) := by
  obtain ⟨hW, hm, hQ, ⟨z1, ⟨b1, b2, b3, b4, b5, bR⟩, z3⟩⟩ := h
  have hi := sp_hi hW
  refine sp_Ctr_up (ct_L_types l (sp_nCl hi 147 (by omega) (by omega)) ⟨147, by omega, by omega, rfl⟩ hm.1 hW z3 v (sh := 0) (by omega) (by omega)) (fun r V hp => ?_)
  obtain ⟨e, TR, ⟨y1, ⟨n', B', y2, y3⟩, y4, y5⟩, hP, hO⟩ := hp
  have hn : ∀ i, 142 ≤ i → i < 148 → i ≠ 147 → ¬ (sq_Cl g (g i) ∨ g i = g 147) := fun i h1 h2 h3 h4 => by
    rcases h4 with h4 | h4
    · exact sp_nCl hi i h1 h2 h4
    · exact h3 (hi i 147 (by omega) (by omega) h4)
  have a1 := sp_rowx y1 (hn 142 (by omega) (by omega) (by omega)) b1
  have a2 := sp_rowx y1 (hn 143 (by omega) (by omega) (by omega)) b2
  have a3 := sp_rowx y1 (hn 144 (by omega) (by omega) (by omega)) b3
  have a4 := sp_rowx y1 (hn 145 (by omega) (by omega) (by omega)) b4
  have a5 := sp_rowx y1 (hn 146 (by omega) (by omega) (by omega)) b5
  refine ⟨e, n', B', ⟨y2, hm, hQ, fun i hi => (z1 i hi).imp (fun c hc => sq_x_k y1 hc), ⟨a1.1, a2.1, a3.1, a4.1, a5.1, ?_⟩, y4⟩, y3⟩
  rw [a1.2, a2.2, a3.2, a4.2, a5.2]
  exact bR
theorem sp_s_b (v : Int32) (e : Nat) : sp_xb (sp_s v e) := sp_sx_b v _
theorem sp_s_sht (v : Int32) {n : Nat} {B : Nat → Int32} (h : sp_tx n B (sp_txt (sp_s v) (1 + sp_lw v 5))) (f : Nat → Int32) : (sj_sht B n f).1 = -1 ∧ (sj_sht B n f).2.2.1 = 1 + sp_lw v 5 ∧ ∀ e, e < 1 + sp_lw v 5 → sp_nt (sj_sht B n f).2.2.2 e (sp_xw (sp_s v e)) := by
  have h5 := sp_lw_lt v (n := 5) (by omega) (by omega)
  rw [Nat.add_comm 1] at h ⊢
  exact sp_sht (sp_s_b v) f h (by omega)
/-- the sheet that was laid -/
def sp_ly (m : Nat → Int32) (v : Nat) (B : Nat → Int32) (n : Nat) : Nat → Int32 := sj_lay m (sj_tn (m 9)) (nI v) (sj_sht B n (fun _ => 0)).2.2.1 (sj_sht B n (fun _ => 0)).2.2.2
theorem sp_M_c0 (l : Launch) (hn60 : n ≤ 60) (h : sp_M S g m m p q Q n B) (h8 : sj_tn (m 9) < 8) {v u : Nat} (hv : v ≤ 99) (hok : (sj_sht B n (fun _ => 0)).1 = -1) : sj_Ctr l nL_call [.ref (g 141), .int 0, .int (nI u), .int (nI v)] S (fun r T => r = some (.int (nI (sj_tn (m 9)))) ∧ sp_M T g m (sp_ly m v B n) (sq_n6 p) (sq_q6 q) (sq_Qs m Q) 0 B ∧ sj_ia T (g 145) = sj_ia S (g 145)) := by
  obtain ⟨hW, hm, hQ, hz⟩ := h
  have hi := sp_hi hW
  have hin := sj_sht_in hn60 hok
  have hwi := sp_wi (a := 0) (b := 99) (Nat.zero_le v) hv (by omega)
  refine ct_L_call_0 l (nI u) (nI v) (P := fun T => sp_M T g m (sp_ly m v B n) (sq_n6 p) (sq_q6 q) (sq_Qs m Q) 0 B ∧ sj_ia T (g 145) = sj_ia S (g 145)) (ct_L_lay_r l hW.1.1.1 (nI v) (sp_Ctr_up (ct_X6_lay l hW hm.1 hz.1 (nI v) hwi h8 rfl hok) (fun r T hp => ?_)))
  obtain ⟨e, hx, hw⟩ := hp
  exact ⟨e, ⟨hw, ⟨sj_inv_lay hm.1 rfl h8 hwi hin.1 hin.2, sj_uc_lay hm.1 rfl h8 hwi hin.1 hin.2 hm.2⟩, sp_QI hm hQ, sp_Z_xp (sp_nCl hi) hx hz⟩, sq_x_ia hx hz.2.1.2.2.2.1.1 (sp_nCl hi 145 (by omega) (by omega))⟩
theorem sp_M_c0f (l : Launch) (hl : l.stackTraces = false) (h : sp_M S g m m p q Q n B) (h8 : sj_tn (m 9) = 8) {v u : Nat} (hv : v ≤ 99) (hok : (sj_sht B n (fun _ => 0)).1 = -1) : sj_Ctr l nL_call [.ref (g 141), .int 0, .int (nI u), .int (nI v)] S (fun r T => r = some (.int (-103)) ∧ sp_M T g m m p q Q n B) := by
  obtain ⟨hW, hm, hQ, hz⟩ := h
  have hi := sp_hi hW
  have hwi := sp_wi (a := 0) (b := 99) (Nat.zero_le v) hv (by omega)
  have e8 : m 9 = 8 := by
    rw [hm.1.1.1, h8]
    rfl
  refine sp_Ctr_up (ct_L_call_0 l (nI u) (nI v) (ct_L_lay_2 l hW.1.1.1 (nI v) (ct_X6_lay_2 l hW hm.1 hl (nI v) hwi hok e8))) (fun r T hp => ?_)
  obtain ⟨e, hf, hw⟩ := hp
  exact ⟨e, hw, hm, hQ, sp_Z_xp (sp_nCl hi) (sq_xp_fr hf) hz⟩
theorem sp_M_d0 (l : Launch) (hm : sj_inv m ∧ sj_uc m) (h8 : sj_tn (m 9) < 8) {v : Nat} {n0 : Nat} {B0 : Nat → Int32} {w : Int32} (htx : sp_tx n0 B0 (sp_txt (sp_s w) (1 + sp_lw w 5))) (u : Int32) (h : sp_M S g m (sp_ly m v B0 n0) p q Q n B) (hT : ∀ e, e < 1 + sp_lw w 5 → sj_ia S (g 145) (8 * sj_tn (m 9) + e) = sp_pk (sp_s w e)) : sj_Ctr l mL_due [.int 0, .int u, .int (nI v), .int (nI (1 + sp_lw w 5)), .ref (g 142), .ref (g 143), .ref (g 144), .ref (g 145), .ref (g 146)] S (fun r U => r = some (.int (nI (sj_tn (m 9)))) ∧ sp_M U g (sp_ly m v B0 n0) (sp_ly m v B0 n0) p q Q n B) := by
  have h5 := sp_lw_lt w (n := 5) (by omega) (by omega)
  obtain ⟨s1, s2, s3⟩ := sp_s_sht w htx (fun _ => 0)
  have hk8 : (sj_sht B0 n0 (fun _ => 0)).2.2.1 ≤ 8 := by omega
  refine sp_Ctr_up (ct_L_due_0 l h.2.2.2.2.1 hm.1 (sp_hne (sp_hi h.1)) u (y := nI v) (k := 1 + sp_lw w 5) (M := sp_ly m v B0 n0) h8 (fun j h1 h2 => sj_lay_lo h1 h2) sj_lay_9 sj_lay_a ?_ (by omega) (fun e he => ?_)) (fun r U hp => ?_)
  · rw [← s2]
    exact sj_lay_n
  · rw [hT e he]
    obtain ⟨x0, x1, x2, x3, x4, hx⟩ : ∃ x0 x1 x2 x3 x4, sp_s w e = (x0, x1, x2, x3, x4) := ⟨_, _, _, _, _, rfl⟩
    have hb := sp_s_b w e
    obtain ⟨t0, t1, t2, t3, t4⟩ := s3 e he
    rw [hx] at hb t0 t1 t2 t3 t4 ⊢
    exact ⟨x0, x1, x2, x3, x4, ⟨hb.1.2, hb.2.1.2, hb.2.2.1, hb.2.2.2.1.2, hb.2.2.2.2⟩, ⟨(sj_lay_s hk8 (by omega) (by omega)).trans t0, (sj_lay_s hk8 (by omega) (by omega)).trans t1, (sj_lay_s hk8 (by omega) (by omega)).trans t2, (sj_lay_s hk8 (by omega) (by omega)).trans t3, (sj_lay_s hk8 (by omega) (by omega)).trans t4⟩, rfl⟩
  · obtain ⟨e, Q', A, N, T', P', rfl, hR⟩ := hp
    exact ⟨e, sp_M_w h hR⟩
theorem sp_M_d0f (l : Launch) (h8 : sj_tn (m 9) = 8) (u v mn : Int32) (h : sp_M S g m m p q Q n B) : sj_Ctr l mL_due [.int 0, .int u, .int v, .int mn, .ref (g 142), .ref (g 143), .ref (g 144), .ref (g 145), .ref (g 146)] S (fun r U => r = some (.int (-103)) ∧ sp_M U g m m p q Q n B) := by
  refine sp_Ctr_up (ct_L_due_0f l h.2.2.2.2.1 h.2.1.1 (sp_hne (sp_hi h.1)) u v mn h8) (fun r U hp => ?_)
  obtain ⟨e, rfl⟩ := hp
  exact ⟨e, h⟩
end
