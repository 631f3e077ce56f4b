/-! THE LAW: its rows written; an oath, a sheet taken out -/
def sp_w (S : sj_St) (rq ra rn rt rp : Nat) (Q A N T P : Nat → Int32) : sj_St := sj_sIa (sj_sIa (sj_sIa (sj_sIa (sj_sIa S rq Q) ra A) rn N) rt T) rp P
def sp_ne (rq ra rn rt rp : Nat) : Prop := (rq ≠ ra ∧ rq ≠ rn ∧ rq ≠ rt ∧ rq ≠ rp) ∧ (ra ≠ rn ∧ ra ≠ rt ∧ ra ≠ rp) ∧ (rn ≠ rt ∧ rn ≠ rp) ∧ rt ≠ rp
section
variable {S : sj_St} {rq ra rn rt rp : Nat} {Q A N T P : Nat → Int32}
theorem sp_w_p (h : sp_ne rq ra rn rt rp) : sj_ia (sp_w S rq ra rn rt rp Q A N T P) rp = P := sj_ia_sIa _ _ _
theorem sp_w_t (h : sp_ne rq ra rn rt rp) : sj_ia (sp_w S rq ra rn rt rp Q A N T P) rt = T := (sj_ia_sIa_ne _ _ h.2.2.2).trans (sj_ia_sIa _ _ _)
theorem sp_w_n (h : sp_ne rq ra rn rt rp) : sj_ia (sp_w S rq ra rn rt rp Q A N T P) rn = N := (sj_ia_sIa_ne _ _ h.2.2.1.2).trans ((sj_ia_sIa_ne _ _ h.2.2.1.1).trans (sj_ia_sIa _ _ _))
theorem sp_w_a (h : sp_ne rq ra rn rt rp) : sj_ia (sp_w S rq ra rn rt rp Q A N T P) ra = A := (sj_ia_sIa_ne _ _ h.2.1.2.2).trans ((sj_ia_sIa_ne _ _ h.2.1.2.1).trans ((sj_ia_sIa_ne _ _ h.2.1.1).trans (sj_ia_sIa _ _ _)))
theorem sp_w_q (h : sp_ne rq ra rn rt rp) : sj_ia (sp_w S rq ra rn rt rp Q A N T P) rq = Q := (sj_ia_sIa_ne _ _ h.1.2.2.2).trans ((sj_ia_sIa_ne _ _ h.1.2.2.1).trans ((sj_ia_sIa_ne _ _ h.1.2.1).trans ((sj_ia_sIa_ne _ _ h.1.1).trans (sj_ia_sIa _ _ _))))
theorem sp_w_wp (h : sp_ne rq ra rn rt rp) {k : Nat} {v : Int32} : sj_wIa (sp_w S rq ra rn rt rp Q A N T P) rp k v = sp_w S rq ra rn rt rp Q A N T (upd P k v) := sj_wIa_sIa _ _ _ _ _
theorem sp_w_wt (h : sp_ne rq ra rn rt rp) {k : Nat} {v : Int32} : sj_wIa (sp_w S rq ra rn rt rp Q A N T P) rt k v = sp_w S rq ra rn rt rp Q A N (upd T k v) P := by
  rw [sj_wIa_eq, sp_w_t h]
  unfold sp_w
  rw [sj_sIa_comm _ (Ne.symm h.2.2.2), sj_sIa_sIa]
theorem sp_w_wn (h : sp_ne rq ra rn rt rp) {k : Nat} {v : Int32} : sj_wIa (sp_w S rq ra rn rt rp Q A N T P) rn k v = sp_w S rq ra rn rt rp Q A (upd N k v) T P := by
  rw [sj_wIa_eq, sp_w_n h]
  unfold sp_w
  rw [sj_sIa_comm _ (Ne.symm h.2.2.1.2), sj_sIa_comm _ (Ne.symm h.2.2.1.1), sj_sIa_sIa]
theorem sp_w_wa (h : sp_ne rq ra rn rt rp) {k : Nat} {v : Int32} : sj_wIa (sp_w S rq ra rn rt rp Q A N T P) ra k v = sp_w S rq ra rn rt rp Q (upd A k v) N T P := by
  rw [sj_wIa_eq, sp_w_a h]
  unfold sp_w
  rw [sj_sIa_comm _ (Ne.symm h.2.1.2.2), sj_sIa_comm _ (Ne.symm h.2.1.2.1), sj_sIa_comm _ (Ne.symm h.2.1.1), sj_sIa_sIa]
theorem sp_w_wq (h : sp_ne rq ra rn rt rp) {k : Nat} {v : Int32} : sj_wIa (sp_w S rq ra rn rt rp Q A N T P) rq k v = sp_w S rq ra rn rt rp (upd Q k v) A N T P := by
  rw [sj_wIa_eq, sp_w_q h]
  unfold sp_w
  rw [sj_sIa_comm _ (Ne.symm h.1.2.2.2), sj_sIa_comm _ (Ne.symm h.1.2.2.1), sj_sIa_comm _ (Ne.symm h.1.2.1), sj_sIa_comm _ (Ne.symm h.1.1), sj_sIa_sIa]
theorem sp_w_id (h : sp_ne rq ra rn rt rp) : sp_w S rq ra rn rt rp (sj_ia S rq) (sj_ia S ra) (sj_ia S rn) (sj_ia S rt) (sj_ia S rp) = S := by
  unfold sp_w
  rw [sj_sIa_id]
  rw [sj_sIa_id S ra, sj_sIa_id S rn, sj_sIa_id S rt, sj_sIa_id S rp]
end
/-- the rows are there -/
def sp_K (S : sj_St) (rq ra rn rt rp : Nat) : Prop := (sj_kd S rq = some 8 ∧ sj_il S rq = 12) ∧ (sj_kd S ra = some 8 ∧ sj_il S ra = 9) ∧ (sj_kd S rn = some 8 ∧ sj_il S rn = 9) ∧ (sj_kd S rt = some 8 ∧ sj_il S rt = 64) ∧ (sj_kd S rp = some 8 ∧ sj_il S rp = 29)
theorem sp_B_of {S : sj_St} {rq ra rn rt rp : Nat} (hK : sp_K S rq ra rn rt rp) (hne : sp_ne rq ra rn rt rp) {Q A N T P m : Nat → Int32} (h : sp_R Q A N T P m) : sp_B (sp_w S rq ra rn rt rp Q A N T P) rq ra rn rt rp m := by
  obtain ⟨k1, k2, k3, k4, k5⟩ := hK
  refine ⟨k1, k2, k3, k4, k5, ?_⟩
  rw [sp_w_q hne, sp_w_a hne, sp_w_n hne, sp_w_t hne, sp_w_p hne]
  exact h
theorem sp_B_K {S : sj_St} {rq ra rn rt rp : Nat} {m : Nat → Int32} (h : sp_B S rq ra rn rt rp m) : sp_K S rq ra rn rt rp := ⟨h.1, h.2.1, h.2.2.1, h.2.2.2.1, h.2.2.2.2.1⟩
def sp_cg (g u : Nat) (f : Nat → Int32) : Nat → Int32 := fun j => if g ≤ j ∧ j < u then f (j + 8) else f j
theorem sp_cg_0 (g : Nat) (f : Nat → Int32) : sp_cg g g f = f := by
  funext j
  exact if_neg (by omega)
theorem sp_cg_s {g u : Nat} (h : g ≤ u) (f : Nat → Int32) : upd (sp_cg g u f) u (sp_cg g u f (u + 8)) = sp_cg g (u + 1) f := by
  funext j
  have e : sp_cg g u f (u + 8) = f (u + 8) := if_neg (by omega)
  rw [e]
  unfold upd sp_cg
  by_cases h1 : j = u
  · subst h1
    rw [if_pos rfl, if_pos (by omega)]
  · rw [if_neg h1]
    by_cases h2 : g ≤ j ∧ j < u
    · rw [if_pos h2, if_pos (by omega)]
    · rw [if_neg h2, if_neg (by omega)]
theorem sp_m1 (k : Nat) : nI k + Int32.ofInt (-1) = nI k - 1 := by
  rw [Int32.sub_eq_add_neg]
  rfl
/-- an oath whose sheets have their new numbers -/
def sp_pw (i : Nat) (m : Nat → Int32) (k : Nat) : Nat := (if i < sj_tn (sj_oa m k 0) then sj_tn (sj_oa m k 0) - 1 else sj_tn (sj_oa m k 0)) + 16 * (if i < sj_tn (sj_oa m k 1) then sj_tn (sj_oa m k 1) - 1 else sj_tn (sj_oa m k 1)) + 256 * sj_tn (sj_oa m k 2)
def sp_J (m : Nat → Int32) (i k : Nat) (mk : Nat → Int32) (gk : Nat) (Q0 Qk Pk : Nat → Int32) : Prop := (sj_inv mk ∧ mk 9 = m 9 ∧ gk + sj_tn (mk 10) = sj_tn (m 10)) ∧ k ≤ sj_tn (mk 10) ∧ sj_dl i k mk (nI gk) = sj_dl i (sj_tn (m 10)) m 0 ∧ (∀ j, j < k → Pk j = nI (sp_pn mk j)) ∧ (∀ j, k ≤ j → j < sj_tn (mk 10) → Pk j = nI (sp_pw i mk j)) ∧ Qk = upd Q0 10 (mk 10)
theorem sp_dO_n {m : Nat → Int32} (hI : sj_inv m) {p : Nat} (hp : p < sj_tn (m 10)) : sj_tn (sj_dO m p 10) = sj_tn (m 10) - 1 := by
  rw [sj_dO_10]
  exact sj_tn_nI (by have := hI.2.1.2; omega)
theorem sp_J_drop {m : Nat → Int32} {i k : Nat} {mk : Nat → Int32} {gk : Nat} {Q0 Qk Pk : Nat → Int32} (h : sp_J m i (k + 1) mk gk Q0 Qk Pk) (ho : sj_oa mk k 0 = nI i ∨ sj_oa mk k 1 = nI i) : sp_J m i k (sj_dO mk k) (gk + 1) Q0 (upd Qk 10 (nI (sj_tn (mk 10) - 1))) (sj_cu k (sj_tn (mk 10) - 1) Pk) := by
  obtain ⟨⟨hI, h9, hg⟩, hk, hd, hp, hw, hq⟩ := h
  have hn := sp_dO_n hI (show k < sj_tn (mk 10) by omega)
  have h28 := hI.2.1.2
  refine ⟨⟨sj_inv_dO hI (by omega), (sj_dO_hi mk k (by omega) h28).trans h9, by omega⟩, by omega, ?_, fun j hj => ?_, fun j h1 h2 => ?_, ?_⟩
  · rw [← hd]
    refine Eq.trans ?_ (show sj_dl i (k + 1) mk (nI gk) = sj_dl i k (sj_dO mk k) (nI gk + 1) from if_pos ho).symm
    rw [nI_1]
  · rw [show sj_cu k (sj_tn (mk 10) - 1) Pk j = Pk j from if_neg (by omega), hp j (by omega)]
    unfold sp_pn
    rw [sj_dO_oa mk k j 0 (by omega) (Or.inr hj) (by omega), sj_dO_oa mk k j 1 (by omega) (Or.inr hj) (by omega), sj_dO_oa mk k j 2 (by omega) (Or.inr hj) (by omega), if_pos hj]
  · rw [hn] at h2
    rw [show sj_cu k (sj_tn (mk 10) - 1) Pk j = Pk (j + 1) from if_pos ⟨h1, h2⟩, hw (j + 1) (by omega) (by omega)]
    unfold sp_pw
    rw [sj_dO_oa mk k j 0 (by omega) (Or.inl (by omega)) (by omega), sj_dO_oa mk k j 1 (by omega) (Or.inl (by omega)) (by omega), sj_dO_oa mk k j 2 (by omega) (Or.inl (by omega)) (by omega), if_neg (show ¬ j < k by omega)]
  · rw [hq, sj_dO_10]
    funext j
    unfold upd
    by_cases hj : j = 10
    · rw [if_pos hj, if_pos hj]
    · rw [if_neg hj, if_neg hj, if_neg hj]
theorem sp_J_ren {m : Nat → Int32} {i k : Nat} {mk : Nat → Int32} {gk : Nat} {Q0 Qk Pk : Nat → Int32} (h : sp_J m i (k + 1) mk gk Q0 Qk Pk) (ho : ¬ (sj_oa mk k 0 = nI i ∨ sj_oa mk k 1 = nI i)) : sp_J m i k mk gk Q0 Qk (upd Pk k (nI (sp_pw i mk k))) := by
  obtain ⟨⟨hI, h9, hg⟩, hk, hd, hp, hw, hq⟩ := h
  refine ⟨⟨hI, h9, hg⟩, by omega, ?_, fun j hj => ?_, fun j h1 h2 => ?_, hq⟩
  · rw [← hd]
    exact (show sj_dl i (k + 1) mk (nI gk) = sj_dl i k mk (nI gk) from if_neg ho).symm
  · rw [show upd Pk k (nI (sp_pw i mk k)) j = Pk j from sj_upd_ne _ _ (by omega)]
    exact hp j (by omega)
  · by_cases hj : j = k
    · subst hj
      exact sj_upd_self _ _ _
    · rw [show upd Pk k (nI (sp_pw i mk k)) j = Pk j from sj_upd_ne _ _ hj]
      exact hw j (by omega) h2
theorem sp_ren {m : Nat → Int32} (hI : sj_inv m) {i k : Nat} (hi : i < 8) (hk : k < sj_tn (m 10)) {j1 j2 : Int32} (h1 : j1 = if nI (sj_tn (sj_oa m k 0)) ≤ nI i then 0 else 1) (h2 : j2 = if nI (sj_tn (sj_oa m k 1)) ≤ nI i then 0 else 16) : nI (sp_pn m k) - (j1 + j2) = nI (sp_pw i m k) := by
  obtain ⟨⟨-, a⟩, ⟨-, b⟩, ⟨-, c⟩⟩ := sp_oa_n hI hk
  rw [h1, h2]
  unfold sp_pn sp_pw
  generalize sj_tn (sj_oa m k 0) = x at *
  generalize sj_tn (sj_oa m k 1) = y at *
  generalize sj_tn (sj_oa m k 2) = z at *
  by_cases g1 : i < x
  · rw [if_neg (nI_ge g1 (by omega)), if_pos g1]
    by_cases g2 : i < y
    · rw [if_neg (nI_ge g2 (by omega)), if_pos g2, show (1 : Int32) + 16 = nI 17 from rfl, sj_nsub (by omega)]
      exact congrArg nI (by omega)
    · rw [if_pos (nI_le (by omega) (by omega)), if_neg g2, show (1 : Int32) + 0 = nI 1 from rfl, sj_nsub (by omega)]
      exact congrArg nI (by omega)
  · rw [if_pos (nI_le (by omega) (by omega)), if_neg g1]
    by_cases g2 : i < y
    · rw [if_neg (nI_ge g2 (by omega)), if_pos g2, show (0 : Int32) + 16 = nI 16 from rfl, sj_nsub (by omega)]
      exact congrArg nI (by omega)
    · rw [if_pos (nI_le (by omega) (by omega)), if_neg g2, show (0 : Int32) + 0 = nI 0 from rfl, sj_nsub (by omega)]
      exact congrArg nI (by omega)
theorem sp_R_drp {m : Nat → Int32} (hI : sj_inv m) {i : Nat} (hi : i < sj_tn (m 9)) {Q A N T P : Nat → Int32} (hR : sp_R Q A N T P m) {mk : Nat → Int32} {gk : Nat} {Qk Pk : Nat → Int32} (h : sp_J m i 0 mk gk Q Qk Pk) : nI gk = sj_drn m i ∧ sp_R (upd Qk 9 (nI (sj_tn (m 9) - 1))) (sj_cu i (sj_tn (m 9) - 1) A) (sj_cu i (sj_tn (m 9) - 1) N) (sp_cg (8 * i) (8 * (sj_tn (m 9) - 1)) T) Pk (sj_drp m i) := by
  obtain ⟨⟨hIk, h9, hg⟩, -, hd, -, hw, hq⟩ := h
  obtain ⟨r1, r2, r3⟩ := hR
  have hn8 := hI.1.2
  have e1 : sj_dp1 m i = mk := by
    unfold sj_dp1
    rw [← hd]
    rfl
  have e10 : sj_drp m i 10 = mk 10 := by
    refine (sj_ct_lo _ _ _ _ (by omega) (by omega)).trans ?_
    refine (sj_rn_o _ _ _ (fun k hk => by omega)).trans ?_
    rw [e1]
  have e9 : sj_tn (sj_drp m i 9) = sj_tn (m 9) - 1 := by
    rw [sj_drp_9]
    exact sj_tn_nI (by omega)
  refine ⟨?_, fun j hj => ?_, fun k hk => ?_, fun k hk => ?_⟩
  · unfold sj_drn
    rw [← hd]
    rfl
  · by_cases hj9 : j = 9
    · subst hj9
      rw [sj_drp_9]
      exact sj_upd_self _ _ _
    · rw [show upd Qk 9 (nI (sj_tn (m 9) - 1)) j = Qk j from sj_upd_ne _ _ hj9, hq]
      by_cases hj10 : j = 10
      · subst hj10
        rw [e10]
        exact sj_upd_self _ _ _
      · rw [show upd Q 10 (mk 10) j = Q j from sj_upd_ne _ _ hj10, r1 j hj, sj_drp_lo hI hj9 (by omega)]
  · rw [e9] at hk
    have hk2 : (if k < i then k else k + 1) < sj_tn (m 9) := by split <;> omega
    obtain ⟨a1, a2, a3⟩ := r2 _ hk2
    have hcu : ∀ f : Nat → Int32, sj_cu i (sj_tn (m 9) - 1) f k = f (if k < i then k else k + 1) := fun f => by
      unfold sj_cu
      by_cases h1 : k < i
      · rw [if_neg (by omega), if_pos h1]
      · rw [if_pos ⟨by omega, hk⟩, if_neg h1]
    have hof : ∀ w, w < 42 → sj_of (sj_drp m i) k w = sj_of m (if k < i then k else k + 1) w := fun w hw2 => sj_drp_of hI hk hw2
    have hns : sj_ns (sj_drp m i) k = sj_ns m (if k < i then k else k + 1) := by
      unfold sj_ns
      rw [hof 1 (by omega)]
    have hn := (sp_ns hI hk2).2.2
    refine ⟨by rw [hcu, a1, hof 0 (by omega)], by rw [hcu, a2, hof 1 (by omega)], fun e he => ?_⟩
    rw [hns] at he
    have ho : ∀ w, w < 5 → sj_os (sj_drp m i) k e w = sj_os m (if k < i then k else k + 1) e w := fun w hw2 => hof (2 + 5 * e + w) (by omega)
    have hT : sp_cg (8 * i) (8 * (sj_tn (m 9) - 1)) T (8 * k + e) = T (8 * (if k < i then k else k + 1) + e) := by
      unfold sp_cg
      by_cases h1 : k < i
      · rw [if_neg (by omega), if_pos h1]
      · rw [if_pos ⟨by omega, by omega⟩, if_neg h1]
        exact congrArg T (by omega)
    rw [hT]
    obtain ⟨x0, x1, x2, x3, x4, b, ⟨c0, c1, c2, c3, c4⟩, d⟩ := a3 e he
    exact ⟨x0, x1, x2, x3, x4, b, ⟨by rw [ho 0 (by omega), c0], by rw [ho 1 (by omega), c1], by rw [ho 2 (by omega), c2], by rw [ho 3 (by omega), c3], by rw [ho 4 (by omega), c4]⟩, d⟩
  · rw [e10] at hk
    rw [hw k (Nat.zero_le _) hk]
    refine congrArg nI ?_
    obtain ⟨⟨a1, a⟩, ⟨b1, b⟩, ⟨c1, c⟩⟩ := sp_oa_n hIk hk
    have o : ∀ w, w < 3 → sj_oa (sj_drp m i) k w = sj_oa (sj_rn mk i (sj_tn (mk 10))) k w := fun w hw2 => by
      refine (sj_ct_lo _ _ _ _ (by have := hIk.2.1.2; omega) (by have := hIk.2.1.2; omega)).trans ?_
      unfold sj_dp2
      rw [e1]
      rfl
    unfold sp_pn sp_pw
    rw [o 0 (by omega), o 1 (by omega), o 2 (by omega), sj_rn_0 mk i _ hk, sj_rn_1 mk i _ hk, sj_rn_2 mk i]
    rw [a1, b1, sj_nw_n (by omega) (by omega), sj_nw_n (by omega) (by omega), ← a1, ← b1, sj_tn_nI (by split <;> omega), sj_tn_nI (by split <;> omega)]
theorem sp_J_0 {m : Nat → Int32} (hI : sj_inv m) {i : Nat} {Q A N T P : Nat → Int32} (hR : sp_R Q A N T P m) : sp_J m i (sj_tn (m 10)) m 0 Q Q P := ⟨⟨hI, rfl, Nat.zero_add _⟩, Nat.le_refl _, rfl, hR.2.2, fun j h1 h2 => absurd h2 (by omega), by
  funext j
  unfold upd
  by_cases hj : j = 10
  · rw [if_pos hj, hj, hR.1 10 (by omega)]
  · rw [if_neg hj]⟩
set_option maxRecDepth 100000 in
set_option maxHeartbeats 400000 in
theorem ct_L_dropOath (l : Launch) {S : sj_St} {rq ra rn rt rp : Nat} (hK : sp_K S rq ra rn rt rp) (hne : sp_ne rq ra rn rt rp) {Q A N T P : Nat → Int32} {b c : Nat} (hQ : Q 10 = nI (c + 1)) (hc : c < 28) (hb : b ≤ c) : sj_Ctr l mL_dropOath [.int (nI b), .ref rq, .ref rp] (sp_w S rq ra rn rt rp Q A N T P) (sj_eq none (sp_w S rq ra rn rt rp (upd Q 10 (nI c)) A N T (sj_cu b c P))) := by
  refine sj_start ([some (.int (nI (b))), some (.ref rq), some (.ref rp), none]) (by decide +kernel) rfl rfl (fun X hX C hR => ?_)
  subst hX
  obtain ⟨⟨kd_rq, il_rq⟩, ⟨kd_ra, il_ra⟩, ⟨kd_rn, il_rn⟩, ⟨kd_rt, il_rt⟩, ⟨kd_rp, il_rp⟩⟩ := id hK
  have cut_10 : sj_G X (sp_w S rq ra rn rt rp (upd Q 10 (nI c)) A N T (sj_cu b b P)) 0 0 [some (.int (nI (b))), some (.ref rq), some (.ref rp), some (.int (nI (b)))] 10 [] := by
    refine sj_downFrom (fun k => sj_G X (sp_w S rq ra rn rt rp (upd Q 10 (nI c)) A N T (sj_cu b k P)) 0 0 [some (.int (nI (b))), some (.ref rq), some (.ref rp), some (.int (nI (k)))] 10 []) b c hb (fun k h0k hk ih_10 => ?_)
    refine sj_iload_n C 11 rfl dL_dropOath_10 rfl rfl ?_
    refine sj_aload_n C 12 rfl dL_dropOath_11 rfl rfl ?_
    refine sj_bipush C (10) 14 rfl dL_dropOath_12 (by decide) ?_
    refine sj_iald C 15 rfl dL_dropOath_14 kd_rq (sp_vp (i := 10) il_rq (by omega) (by omega)) ?_
    rw [show Int32.toNatClampNeg 10 = 10 from rfl]
    rw [sp_w_q hne]
    rw [sj_upd_self]
    refine sj_icmp_ge C 32 18 rfl rfl dL_dropOath_15 (fun c_15 => ?_) (fun c_15 => ?_)
    · have hkn : k = c := by
        have h99 : ¬ k < c := fun h9 => nI_ge h9 (by omega) c_15
        omega
      subst hkn
      refine sj_vret C hR rfl rfl dL_dropOath_32 ?_
      exact ⟨rfl, rfl⟩
    · have hlt : k < c := Nat.not_le.mp fun h9 => c_15 (nI_le h9 (by omega))
      refine sj_aload_n C 19 rfl dL_dropOath_18 rfl rfl ?_
      refine sj_iload_n C 20 rfl dL_dropOath_19 rfl rfl ?_
      refine sj_aload_n C 21 rfl dL_dropOath_20 rfl rfl ?_
      refine sj_iload_n C 22 rfl dL_dropOath_21 rfl rfl ?_
      refine sj_iconstv C (1) 23 rfl dL_dropOath_22 rfl ?_
      refine sj_iadd C 24 rfl dL_dropOath_23 ?_
      rw [show nI (k) + 1 = nI (k + 1) from nI_add k 1]
      refine sj_iald C 25 rfl dL_dropOath_24 kd_rp (sp_vp il_rp (by omega) (by omega)) ?_
      rw [nI_clamp (by omega)]
      rw [sp_w_p hne]
      refine sj_iast C 26 rfl dL_dropOath_25 kd_rp (sp_vp il_rp (by omega) (by omega)) ?_
      rw [nI_clamp (by omega)]
      rw [sp_w_wp hne]
      refine sj_iinc_3 C 29 rfl dL_dropOath_26 rfl rfl ?_
      rw [show nI (k) + Int32.ofInt 1 = nI (k + 1) from nI_add _ _]
      refine sj_goto C 10 rfl dL_dropOath_29 ?_
      rw [sj_cu_s h0k]
      exact ih_10 (hlt)
  refine sj_aload_n C 1 rfl dL_dropOath_0 rfl rfl ?_
  refine sj_bipush C (10) 3 rfl dL_dropOath_1 (by decide) ?_
  refine sj_dup2 C 4 rfl dL_dropOath_3 rfl rfl ?_
  refine sj_iald C 5 rfl dL_dropOath_4 kd_rq (sp_vp (i := 10) il_rq (by omega) (by omega)) ?_
  rw [show Int32.toNatClampNeg 10 = 10 from rfl]
  rw [sp_w_q hne]
  rw [hQ]
  refine sj_iconstv C (1) 6 rfl dL_dropOath_5 rfl ?_
  refine sj_isub C 7 rfl dL_dropOath_6 ?_
  rw [show nI (c + 1) - 1 = nI ((c + 1) - 1) from sj_nsub (a := (c + 1)) (b := 1) (by omega)]
  rw [Nat.add_sub_cancel]
  refine sj_iast C 8 rfl dL_dropOath_7 kd_rq (sp_vp (i := 10) il_rq (by omega) (by omega)) ?_
  rw [show Int32.toNatClampNeg 10 = 10 from rfl]
  rw [sp_w_wq hne]
  refine sj_iload_n C 9 rfl dL_dropOath_8 rfl rfl ?_
  refine sj_istore_n_3 C 10 rfl dL_dropOath_9 rfl rfl ?_
  rw [sj_cu_0] at cut_10
  exact cut_10
set_option maxRecDepth 100000 in
set_option maxHeartbeats 1000000 in
theorem ct_L_drops (l : Launch) {S : sj_St} {rq ra rn rt rp : Nat} {m : Nat → Int32} (h : sp_B S rq ra rn rt rp m) (hI : sj_inv m) (hne : sp_ne rq ra rn rt rp) {i : Nat} (hi : i < sj_tn (m 9)) : sj_Ctr l mL_drops [.int (nI i), .ref rq, .ref ra, .ref rn, .ref rt, .ref rp] S (fun v U => v = some (.int (sj_drn m i)) ∧ ∃ Q A N T P, U = sp_w S rq ra rn rt rp Q A N T P ∧ sp_R Q A N T P (sj_drp m i)) := by
  refine sj_start ([some (.int (nI (i))), some (.ref rq), some (.ref ra), some (.ref rn), some (.ref rt), some (.ref rp), none, none, none, none]) (by decide +kernel) rfl rfl (fun X hX C hR => ?_)
  subst hX
  obtain ⟨-, -, -, -, -, hR0⟩ := id h
  have hK := sp_B_K h
  obtain ⟨⟨kd_rq, il_rq⟩, ⟨kd_ra, il_ra⟩, ⟨kd_rn, il_rn⟩, ⟨kd_rt, il_rt⟩, ⟨kd_rp, il_rp⟩, hq, hs, hp⟩ := id h
  obtain ⟨h9, hn8⟩ := id hI.1
  obtain ⟨h10, hN28⟩ := id hI.2.1
  have cut_11 : ∀ (k : Nat) (mk : Nat → Int32) (gk : Nat) (Qk Pk : Nat → Int32), sp_J m i k mk gk (sj_ia S rq) Qk Pk → sj_G X (sp_w S rq ra rn rt rp Qk (sj_ia S ra) (sj_ia S rn) (sj_ia S rt) Pk) 0 0 [some (.int (nI (i))), some (.ref rq), some (.ref ra), some (.ref rn), some (.ref rt), some (.ref rp), some (.int (nI (gk))), some (.int (nI k - 1)), none, none] 11 [] := by
    intro k
    induction k with
    | zero =>
      intro mk gk Qk Pk hJ
      have hJ9 : Qk 9 = m 9 := by
        rw [hJ.2.2.2.2.2, sj_upd_ne _ _ (by decide)]
        exact hq 9 (by omega)
      refine sj_iload C 13 rfl dL_drops_11 rfl ?_
      refine sj_if_lt C 102 16 rfl rfl dL_drops_13 (fun c_13 => ?_) (fun c_13 => absurd (by decide) c_13)
      refine sj_aload_n C 103 rfl dL_drops_102 rfl rfl ?_
      refine sj_bipush C (9) 105 rfl dL_drops_103 (by decide) ?_
      refine sj_dup2 C 106 rfl dL_drops_105 rfl rfl ?_
      refine sj_iald C 107 rfl dL_drops_106 kd_rq (sp_vp (i := 9) il_rq (by omega) (by omega)) ?_
      rw [show Int32.toNatClampNeg 9 = 9 from rfl]
      rw [sp_w_q hne]
      rw [hJ9, h9]
      refine sj_iconstv C (1) 108 rfl dL_drops_107 rfl ?_
      refine sj_isub C 109 rfl dL_drops_108 ?_
      rw [show nI (sj_tn (m 9)) - 1 = nI ((sj_tn (m 9)) - 1) from sj_nsub (a := (sj_tn (m 9))) (b := 1) (by omega)]
      refine sj_iast C 110 rfl dL_drops_109 kd_rq (sp_vp (i := 9) il_rq (by omega) (by omega)) ?_
      rw [show Int32.toNatClampNeg 9 = 9 from rfl]
      rw [sp_w_wq hne]
      have cut_113 : sj_G X (sp_w S rq ra rn rt rp (upd Qk 9 (nI (sj_tn (m 9) - 1))) (sj_cu i i (sj_ia S ra)) (sj_cu i i (sj_ia S rn)) (sp_cg (8 * i) (8 * i) (sj_ia S rt)) Pk) 0 0 [some (.int (nI (i))), some (.ref rq), some (.ref ra), some (.ref rn), some (.ref rt), some (.ref rp), some (.int (nI (gk))), some (.int (nI (i))), none, none] 113 [] := by
        refine sj_downFrom (fun e => sj_G X (sp_w S rq ra rn rt rp (upd Qk 9 (nI (sj_tn (m 9) - 1))) (sj_cu i e (sj_ia S ra)) (sj_cu i e (sj_ia S rn)) (sp_cg (8 * i) (8 * e) (sj_ia S rt)) Pk) 0 0 [some (.int (nI (i))), some (.ref rq), some (.ref ra), some (.ref rn), some (.ref rt), some (.ref rp), some (.int (nI (gk))), some (.int (nI (e))), none, none] 113 []) i (sj_tn (m 9) - 1) (by omega) (fun e h0e he ih_113 => ?_)
        have cut_145 : (e < sj_tn (m 9) - 1) → sj_G X (sp_w S rq ra rn rt rp (upd Qk 9 (nI (sj_tn (m 9) - 1))) (sj_cu i (e + 1) (sj_ia S ra)) (sj_cu i (e + 1) (sj_ia S rn)) (sp_cg (8 * i) (8 * e + 0) (sj_ia S rt)) Pk) 0 0 [some (.int (nI (i))), some (.ref rq), some (.ref ra), some (.ref rn), some (.ref rt), some (.ref rp), some (.int (nI (gk))), some (.int (nI (e))), some (.int (nI (0))), none] 145 [] := by
          refine sj_down (fun u => (e < sj_tn (m 9) - 1) → sj_G X (sp_w S rq ra rn rt rp (upd Qk 9 (nI (sj_tn (m 9) - 1))) (sj_cu i (e + 1) (sj_ia S ra)) (sj_cu i (e + 1) (sj_ia S rn)) (sp_cg (8 * i) (8 * e + u) (sj_ia S rt)) Pk) 0 0 [some (.int (nI (i))), some (.ref rq), some (.ref ra), some (.ref rn), some (.ref rt), some (.ref rp), some (.int (nI (gk))), some (.int (nI (e))), some (.int (nI (u))), none] 145 []) 8 (fun u hu ih_145 => ?_)
          intro hy145_0
          refine sj_iload C 147 rfl dL_drops_145 rfl ?_
          refine sj_bipush C (8) 149 rfl dL_drops_147 (by decide) ?_
          refine sj_icmp_ge C 183 152 rfl rfl dL_drops_149 (fun c_149 => ?_) (fun c_149 => ?_)
          · have hun : u = 8 := by
              have h99 : ¬ u < 8 := fun h9 => nI_ge h9 (by omega) c_149
              omega
            subst hun
            refine sj_iinc_7 C 186 rfl dL_drops_183 rfl rfl ?_
            rw [show nI (e) + Int32.ofInt 1 = nI (e + 1) from nI_add _ _]
            refine sj_goto C 113 rfl dL_drops_186 ?_
            rw [show 8 * e + 8 = 8 * (e + 1) by omega]
            refine sj_for [some (.int (nI (i))), some (.ref rq), some (.ref ra), some (.ref rn), some (.ref rt), some (.ref rp), some (.int (nI (gk))), some (.int (nI (e + 1))), none, none] (show _ ∧ _ ∧ _ ∧ _ ∧ _ ∧ _ ∧ _ ∧ _ ∧ True from ⟨rfl, rfl, rfl, rfl, rfl, rfl, rfl, rfl, trivial⟩) ?_
            exact ih_113 (hy145_0)
          · have hlu : u < 8 := Nat.not_le.mp fun h9 => c_149 (nI_le (a := 8) h9 (by omega))
            refine sj_aload C 154 rfl dL_drops_152 rfl ?_
            refine sj_bipush C (8) 156 rfl dL_drops_154 (by decide) ?_
            refine sj_iload C 158 rfl dL_drops_156 rfl ?_
            refine sj_imul C 159 rfl dL_drops_158 ?_
            rw [show 8 * nI (e) = nI (8 * e) from sj_nmul 8 e]
            refine sj_iload C 161 rfl dL_drops_159 rfl ?_
            refine sj_iadd C 162 rfl dL_drops_161 ?_
            rw [show nI (8 * e) + nI (u) = nI ((8 * e) + u) from nI_add (8 * e) u]
            refine sj_aload C 164 rfl dL_drops_162 rfl ?_
            refine sj_bipush C (8) 166 rfl dL_drops_164 (by decide) ?_
            refine sj_iload C 168 rfl dL_drops_166 rfl ?_
            refine sj_imul C 169 rfl dL_drops_168 ?_
            rw [show 8 * nI (e) = nI (8 * e) from sj_nmul 8 e]
            refine sj_bipush C (8) 171 rfl dL_drops_169 (by decide) ?_
            refine sj_iadd C 172 rfl dL_drops_171 ?_
            rw [show nI (8 * e) + 8 = nI ((8 * e) + 8) from nI_add (8 * e) 8]
            refine sj_iload C 174 rfl dL_drops_172 rfl ?_
            refine sj_iadd C 175 rfl dL_drops_174 ?_
            rw [show nI ((8 * e) + 8) + nI (u) = nI (((8 * e) + 8) + u) from nI_add ((8 * e) + 8) u]
            refine sj_iald C 176 rfl dL_drops_175 kd_rt (sp_vp il_rt (by omega) (by omega)) ?_
            rw [nI_clamp (by omega)]
            rw [sp_w_t hne]
            refine sj_iast C 177 rfl dL_drops_176 kd_rt (sp_vp il_rt (by omega) (by omega)) ?_
            rw [nI_clamp (by omega)]
            rw [sp_w_wt hne]
            refine sj_iinc_8 C 180 rfl dL_drops_177 rfl rfl ?_
            rw [show nI (u) + Int32.ofInt 1 = nI (u + 1) from nI_add _ _]
            refine sj_goto C 145 rfl dL_drops_180 ?_
            rw [show 8 * e + 8 + u = 8 * e + u + 8 by omega, sp_cg_s (show 8 * i ≤ 8 * e + u by omega), show 8 * e + u + 1 = 8 * e + (u + 1) by omega]
            exact ih_145 (hlu) (hy145_0)
        refine sj_iload C 115 rfl dL_drops_113 rfl ?_
        refine sj_aload_n C 116 rfl dL_drops_115 rfl rfl ?_
        refine sj_bipush C (9) 118 rfl dL_drops_116 (by decide) ?_
        refine sj_iald C 119 rfl dL_drops_118 kd_rq (sp_vp (i := 9) il_rq (by omega) (by omega)) ?_
        rw [show Int32.toNatClampNeg 9 = 9 from rfl]
        rw [sp_w_q hne]
        rw [sj_upd_self]
        refine sj_icmp_ge C 189 122 rfl rfl dL_drops_119 (fun c_119 => ?_) (fun c_119 => ?_)
        · have hen : e = sj_tn (m 9) - 1 := by
            have h99 : ¬ e < sj_tn (m 9) - 1 := fun h9 => nI_ge h9 (by omega) c_119
            omega
          subst hen
          refine sj_iload C 191 rfl dL_drops_189 rfl ?_
          refine sj_iret C hR rfl rfl dL_drops_191 ?_
          have hfin := sp_R_drp hI hi hR0 hJ
          exact ⟨congrArg (fun z => some (Value.int z)) hfin.1, _, _, _, _, _, rfl, hfin.2⟩
        · have hle : e < sj_tn (m 9) - 1 := Nat.not_le.mp fun h9 => c_119 (nI_le h9 (by omega))
          refine sj_aload_n C 123 rfl dL_drops_122 rfl rfl ?_
          refine sj_iload C 125 rfl dL_drops_123 rfl ?_
          refine sj_aload_n C 126 rfl dL_drops_125 rfl rfl ?_
          refine sj_iload C 128 rfl dL_drops_126 rfl ?_
          refine sj_iconstv C (1) 129 rfl dL_drops_128 rfl ?_
          refine sj_iadd C 130 rfl dL_drops_129 ?_
          rw [show nI (e) + 1 = nI (e + 1) from nI_add e 1]
          refine sj_iald C 131 rfl dL_drops_130 kd_ra (sp_vp il_ra (by omega) (by omega)) ?_
          rw [nI_clamp (by omega)]
          rw [sp_w_a hne]
          refine sj_iast C 132 rfl dL_drops_131 kd_ra (sp_vp il_ra (by omega) (by omega)) ?_
          rw [nI_clamp (by omega)]
          rw [sp_w_wa hne]
          rw [sj_cu_s h0e]
          refine sj_aload_n C 133 rfl dL_drops_132 rfl rfl ?_
          refine sj_iload C 135 rfl dL_drops_133 rfl ?_
          refine sj_aload_n C 136 rfl dL_drops_135 rfl rfl ?_
          refine sj_iload C 138 rfl dL_drops_136 rfl ?_
          refine sj_iconstv C (1) 139 rfl dL_drops_138 rfl ?_
          refine sj_iadd C 140 rfl dL_drops_139 ?_
          rw [show nI (e) + 1 = nI (e + 1) from nI_add e 1]
          refine sj_iald C 141 rfl dL_drops_140 kd_rn (sp_vp il_rn (by omega) (by omega)) ?_
          rw [nI_clamp (by omega)]
          rw [sp_w_n hne]
          refine sj_iast C 142 rfl dL_drops_141 kd_rn (sp_vp il_rn (by omega) (by omega)) ?_
          rw [nI_clamp (by omega)]
          rw [sp_w_wn hne]
          rw [sj_cu_s h0e]
          refine sj_iconstv C (0) 143 rfl dL_drops_142 rfl ?_
          refine sj_istore_8 C 145 rfl dL_drops_143 rfl rfl ?_
          rw [Nat.add_zero] at cut_145
          exact cut_145 (hle)
      refine sj_iload_n C 111 rfl dL_drops_110 rfl rfl ?_
      refine sj_istore_7 C 113 rfl dL_drops_111 rfl rfl ?_
      rw [sj_cu_0, sj_cu_0, sp_cg_0] at cut_113
      exact cut_113
    | succ k ih =>
      intro mk gk Qk Pk hJ
      have hk28 : k < 28 := by
        have h1 := hJ.2.1
        have h2 := hJ.1.1.2.1.2
        omega
      rw [nI_pred]
      refine sj_iload C 13 rfl dL_drops_11 rfl ?_
      refine sj_if_lt C 102 16 rfl rfl dL_drops_13 (fun c_13 => absurd c_13 (nI_pos (by have h1 := hJ.2.1; have h2 := hJ.1.1.2.1.2; omega))) (fun c_13 => ?_)
      refine sj_aload C 18 rfl dL_drops_16 rfl ?_
      refine sj_iload C 20 rfl dL_drops_18 rfl ?_
      refine sj_iald C 21 rfl dL_drops_20 kd_rp (sp_vp il_rp (by omega) (by omega)) ?_
      rw [nI_clamp (by omega)]
      rw [sp_w_p hne]
      rw [hJ.2.2.2.1 k (by omega)]
      refine sj_bipush C (15) 23 rfl dL_drops_21 (by decide) ?_
      refine sj_iand C 24 rfl dL_drops_23 ?_
      rw [sp_pn_0 hJ.1.1 (show k < sj_tn (mk 10) by have := hJ.2.1; omega)]
      refine sj_istore_8 C 26 rfl dL_drops_24 rfl rfl ?_
      refine sj_aload C 28 rfl dL_drops_26 rfl ?_
      refine sj_iload C 30 rfl dL_drops_28 rfl ?_
      refine sj_iald C 31 rfl dL_drops_30 kd_rp (sp_vp il_rp (by omega) (by omega)) ?_
      rw [nI_clamp (by omega)]
      rw [sp_w_p hne]
      rw [hJ.2.2.2.1 k (by omega)]
      refine sj_iconstv C (4) 32 rfl dL_drops_31 rfl ?_
      refine sj_ishr C 33 rfl dL_drops_32 ?_
      refine sj_bipush C (15) 35 rfl dL_drops_33 (by decide) ?_
      refine sj_iand C 36 rfl dL_drops_35 ?_
      rw [sp_pn_1 hJ.1.1 (show k < sj_tn (mk 10) by have := hJ.2.1; omega)]
      refine sj_istore_9 C 38 rfl dL_drops_36 rfl rfl ?_
      have hoa := sp_oa_n hJ.1.1 (show k < sj_tn (mk 10) by have := hJ.2.1; omega)
      have hJo : (nI (sj_tn (sj_oa mk k 0)) = nI i ∨ nI (sj_tn (sj_oa mk k 1)) = nI i) → sj_oa mk k 0 = nI i ∨ sj_oa mk k 1 = nI i := fun h9 => h9.imp (fun h8 => hoa.1.1.trans h8) (fun h8 => hoa.2.1.1.trans h8)
      refine sj_iload C 40 rfl dL_drops_38 rfl ?_
      refine sj_iload_n C 41 rfl dL_drops_40 rfl rfl ?_
      refine sj_icmp_eq C 50 44 rfl rfl dL_drops_41 (fun c_41 => ?_) (fun c_41 => ?_)
      · refine sj_iload C 52 rfl dL_drops_50 rfl ?_
        refine sj_aload_n C 53 rfl dL_drops_52 rfl rfl ?_
        refine sj_aload C 55 rfl dL_drops_53 rfl ?_
        have hQk : Qk 10 = nI ((sj_tn (mk 10) - 1) + 1) := by
          rw [hJ.2.2.2.2.2, sj_upd_self, hJ.1.1.2.1.1, show sj_tn (nI (sj_tn (mk 10))) - 1 + 1 = sj_tn (mk 10) by have h1 := hJ.2.1; have h2 := hJ.1.1.2.1.2; rw [sj_tn_nI (by omega)]; omega]
        refine sj_callSv C 58 rfl dL_drops_55 cv_L_134 rfl (ct_L_dropOath _ hK hne hQk (by have h1 := hJ.2.1; have h2 := hJ.1.1.2.1.2; omega) (by have h1 := hJ.2.1; omega)) rfl rfl rfl ⟨rfl, rfl⟩ ?_
        refine sj_iinc_6 C 61 rfl dL_drops_58 rfl rfl ?_
        rw [show nI (gk) + Int32.ofInt 1 = nI (gk + 1) from nI_add _ _]
        refine sj_goto C 96 rfl dL_drops_61 ?_
        refine sj_iinc_7 C 99 rfl dL_drops_96 rfl rfl ?_
        rw [sp_m1]
        refine sj_for [some (.int (nI (i))), some (.ref rq), some (.ref ra), some (.ref rn), some (.ref rt), some (.ref rp), some (.int (nI (gk + 1))), some (.int (nI k - 1)), none, none] (show _ ∧ _ ∧ _ ∧ _ ∧ _ ∧ _ ∧ _ ∧ _ ∧ True from ⟨rfl, rfl, rfl, rfl, rfl, rfl, rfl, rfl, trivial⟩) ?_
        refine sj_goto C 11 rfl dL_drops_99 ?_
        exact ih _ _ _ _ (sp_J_drop hJ (hJo (Or.inl c_41)))
      · refine sj_iload C 46 rfl dL_drops_44 rfl ?_
        refine sj_iload_n C 47 rfl dL_drops_46 rfl rfl ?_
        refine sj_icmp_ne C 64 50 rfl rfl dL_drops_47 (fun c_47 => ?_) (fun c_47 => ?_)
        · have hJn : ¬ (sj_oa mk k 0 = nI i ∨ sj_oa mk k 1 = nI i) := fun h9 => h9.elim (fun h8 => c_41 (hoa.1.1.symm.trans h8)) (fun h8 => c_47 (hoa.2.1.1.symm.trans h8))
          refine sj_aload C 66 rfl dL_drops_64 rfl ?_
          refine sj_iload C 68 rfl dL_drops_66 rfl ?_
          refine sj_dup2 C 69 rfl dL_drops_68 rfl rfl ?_
          refine sj_iald C 70 rfl dL_drops_69 kd_rp (sp_vp il_rp (by omega) (by omega)) ?_
          rw [nI_clamp (by omega)]
          rw [sp_w_p hne]
          rw [hJ.2.2.2.1 k (by omega)]
          refine sj_iload C 72 rfl dL_drops_70 rfl ?_
          refine sj_iload_n C 73 rfl dL_drops_72 rfl rfl ?_
          have cut_81 : ∀ j81 : Int32, (j81 = if nI (sj_tn (sj_oa mk k 0)) ≤ nI (i) then 0 else 1) → sj_G X (sp_w S rq ra rn rt rp Qk (sj_ia S ra) (sj_ia S rn) (sj_ia S rt) Pk) 0 0 [some (.int (nI (i))), some (.ref rq), some (.ref ra), some (.ref rn), some (.ref rt), some (.ref rp), some (.int (nI (gk))), some (.int (nI (k))), some (.int (nI (sj_tn (sj_oa mk k 0)))), some (.int (nI (sj_tn (sj_oa mk k 1))))] 81 [.int (j81), .int (nI (sp_pn mk k)), .int (nI (k)), .ref rp] := by
            intro j81 h81
            refine sj_iload C 83 rfl dL_drops_81 rfl ?_
            refine sj_iload_n C 84 rfl dL_drops_83 rfl rfl ?_
            have cut_93 : ∀ j93 : Int32, (j93 = if nI (sj_tn (sj_oa mk k 1)) ≤ nI (i) then 0 else 16) → sj_G X (sp_w S rq ra rn rt rp Qk (sj_ia S ra) (sj_ia S rn) (sj_ia S rt) Pk) 0 0 [some (.int (nI (i))), some (.ref rq), some (.ref ra), some (.ref rn), some (.ref rt), some (.ref rp), some (.int (nI (gk))), some (.int (nI (k))), some (.int (nI (sj_tn (sj_oa mk k 0)))), some (.int (nI (sj_tn (sj_oa mk k 1))))] 93 [.int (j93), .int (j81), .int (nI (sp_pn mk k)), .int (nI (k)), .ref rp] := by
              intro j93 h93
              refine sj_iadd C 94 rfl dL_drops_93 ?_
              refine sj_isub C 95 rfl dL_drops_94 ?_
              refine sj_iast C 96 rfl dL_drops_95 kd_rp (sp_vp il_rp (by omega) (by omega)) ?_
              rw [nI_clamp (by omega)]
              rw [sp_w_wp hne]
              refine sj_iinc_7 C 99 rfl dL_drops_96 rfl rfl ?_
              rw [sp_m1]
              refine sj_for [some (.int (nI (i))), some (.ref rq), some (.ref ra), some (.ref rn), some (.ref rt), some (.ref rp), some (.int (nI (gk))), some (.int (nI k - 1)), none, none] (show _ ∧ _ ∧ _ ∧ _ ∧ _ ∧ _ ∧ _ ∧ _ ∧ True from ⟨rfl, rfl, rfl, rfl, rfl, rfl, rfl, rfl, trivial⟩) ?_
              refine sj_goto C 11 rfl dL_drops_99 ?_
              rw [sp_ren hJ.1.1 (by omega) (show k < sj_tn (mk 10) by have := hJ.2.1; omega) h81 h93]
              exact ih _ _ _ _ (sp_J_ren hJ (fun h9 => hJn h9))
            refine sj_icmp_le C 92 87 rfl rfl dL_drops_84 (fun c_84 => ?_) (fun c_84 => ?_)
            · refine sj_iconstv C (0) 93 rfl dL_drops_92 rfl ?_
              exact cut_93 _  ((if_pos c_84).symm)
            · refine sj_bipush C (16) 89 rfl dL_drops_87 (by decide) ?_
              refine sj_goto C 93 rfl dL_drops_89 ?_
              exact cut_93 _  ((if_neg c_84).symm)
          refine sj_icmp_le C 80 76 rfl rfl dL_drops_73 (fun c_73 => ?_) (fun c_73 => ?_)
          · refine sj_iconstv C (0) 81 rfl dL_drops_80 rfl ?_
            exact cut_81 _  ((if_pos c_73).symm)
          · refine sj_iconstv C (1) 77 rfl dL_drops_76 rfl ?_
            refine sj_goto C 81 rfl dL_drops_77 ?_
            exact cut_81 _  ((if_neg c_73).symm)
        · refine sj_iload C 52 rfl dL_drops_50 rfl ?_
          refine sj_aload_n C 53 rfl dL_drops_52 rfl rfl ?_
          refine sj_aload C 55 rfl dL_drops_53 rfl ?_
          have hQk : Qk 10 = nI ((sj_tn (mk 10) - 1) + 1) := by
            rw [hJ.2.2.2.2.2, sj_upd_self, hJ.1.1.2.1.1, show sj_tn (nI (sj_tn (mk 10))) - 1 + 1 = sj_tn (mk 10) by have h1 := hJ.2.1; have h2 := hJ.1.1.2.1.2; rw [sj_tn_nI (by omega)]; omega]
          refine sj_callSv C 58 rfl dL_drops_55 cv_L_134 rfl (ct_L_dropOath _ hK hne hQk (by have h1 := hJ.2.1; have h2 := hJ.1.1.2.1.2; omega) (by have h1 := hJ.2.1; omega)) rfl rfl rfl ⟨rfl, rfl⟩ ?_
          refine sj_iinc_6 C 61 rfl dL_drops_58 rfl rfl ?_
          rw [show nI (gk) + Int32.ofInt 1 = nI (gk + 1) from nI_add _ _]
          refine sj_goto C 96 rfl dL_drops_61 ?_
          refine sj_iinc_7 C 99 rfl dL_drops_96 rfl rfl ?_
          rw [sp_m1]
          refine sj_for [some (.int (nI (i))), some (.ref rq), some (.ref ra), some (.ref rn), some (.ref rt), some (.ref rp), some (.int (nI (gk + 1))), some (.int (nI k - 1)), none, none] (show _ ∧ _ ∧ _ ∧ _ ∧ _ ∧ _ ∧ _ ∧ _ ∧ True from ⟨rfl, rfl, rfl, rfl, rfl, rfl, rfl, rfl, trivial⟩) ?_
          refine sj_goto C 11 rfl dL_drops_99 ?_
          exact ih _ _ _ _ (sp_J_drop hJ (hJo (Or.inr c_47)))
  refine sj_iconstv C (0) 1 rfl dL_drops_0 rfl ?_
  refine sj_istore_6 C 3 rfl dL_drops_1 rfl rfl ?_
  refine sj_aload_n C 4 rfl dL_drops_3 rfl rfl ?_
  refine sj_bipush C (10) 6 rfl dL_drops_4 (by decide) ?_
  refine sj_iald C 7 rfl dL_drops_6 kd_rq (sp_vp (i := 10) il_rq (by omega) (by omega)) ?_
  rw [show Int32.toNatClampNeg 10 = 10 from rfl]
  rw [hq 10 (by omega), h10]
  refine sj_iconstv C (1) 8 rfl dL_drops_7 rfl ?_
  refine sj_isub C 9 rfl dL_drops_8 ?_
  refine sj_istore_7 C 11 rfl dL_drops_9 rfl rfl ?_
  rw [← sp_w_id (S := S) hne]
  exact cut_11 (sj_tn (m 10)) m 0 _ _ (sp_J_0 hI hR0)
