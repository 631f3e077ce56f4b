/-! THE LAW: what is due, and its rows afterwards -/
theorem sp_R_set {m : Nat → Int32} (hI : sj_inv m) {Q A N T P : Nat → Int32} (hR : sp_R Q A N T P m) {u : Nat} (hu : u < 9) (v : Int32) : sp_R (upd Q u v) A N T P (upd m u v) := by
  obtain ⟨r1, r2, r3⟩ := hR
  have hi : ∀ j, 9 ≤ j → upd m u v j = m j := fun j hj => sj_upd_ne _ _ (by omega)
  refine ⟨fun j hj => ?_, fun i hi9 => ?_, fun k hk => ?_⟩
  · unfold upd
    by_cases h : j = u
    · rw [if_pos h, if_pos h]
    · rw [if_neg h, if_neg h]
      exact r1 j hj
  · rw [hi 9 (by omega)] at hi9
    obtain ⟨a1, a2, a3⟩ := r2 i hi9
    have ho : ∀ w, sj_of (upd m u v) i w = sj_of m i w := fun w => hi _ (by omega)
    have hn : sj_ns (upd m u v) i = sj_ns m i := by
      unfold sj_ns
      rw [ho]
    refine ⟨by rw [ho, a1], by rw [ho, a2], fun e he => ?_⟩
    rw [hn] at he
    obtain ⟨x0, x1, x2, x3, x4, b, ⟨c0, c1, c2, c3, c4⟩, d⟩ := a3 e he
    have os : ∀ w, sj_os (upd m u v) i e w = sj_os m i e w := fun w => ho _
    exact ⟨x0, x1, x2, x3, x4, b, ⟨by rw [os, c0], by rw [os, c1], by rw [os, c2], by rw [os, c3], by rw [os, c4]⟩, d⟩
  · rw [hi 10 (by omega)] at hk
    rw [r3 k hk]
    have oa : ∀ w, sj_oa (upd m u v) k w = sj_oa m k w := fun w => hi _ (by omega)
    unfold sp_pn
    rw [oa, oa, oa]
theorem sp_R_pas {m : Nat → Int32} (hI : sj_inv m) {Q A N T P : Nat → Int32} (hR : sp_R Q A N T P m) {y : Int32} (hy : 0 ≤ y ∧ y ≤ 99) : sp_R Q (sq_gr m y (sj_tn (m 9)) A) N T P (sj_pas m y (sj_tn (m 9))) := by
  obtain ⟨r1, r2, r3⟩ := hR
  have h8 := hI.1.2
  have h28 := hI.2.1.2
  have lo : ∀ j, j < 98 → sj_pas m y (sj_tn (m 9)) j = m j := fun j hj => sj_pas_lo m y hj _
  refine ⟨fun j hj => ?_, fun i hi9 => ?_, fun k hk => ?_⟩
  · rw [lo j (by omega)]
    exact r1 j hj
  · rw [lo 9 (by omega)] at hi9
    obtain ⟨a1, a2, a3⟩ := r2 i hi9
    have ho : ∀ w, 1 ≤ w → w < 42 → sj_of (sj_pas m y (sj_tn (m 9))) i w = sj_of m i w := fun w h1 h2 => sj_pas_of m y _ i w h1 h2
    have hn : sj_ns (sj_pas m y (sj_tn (m 9))) i = sj_ns m i := by
      unfold sj_ns
      rw [ho 1 (by omega) (by omega)]
    have hn8 := (sp_ns hI hi9).2.2
    refine ⟨?_, by rw [ho 1 (by omega) (by omega), a2], fun e he => ?_⟩
    · rw [sj_pas_at m y _ hi9]
      exact if_pos hi9
    · rw [hn] at he
      obtain ⟨x0, x1, x2, x3, x4, b, ⟨c0, c1, c2, c3, c4⟩, d⟩ := a3 e he
      have os : ∀ w, w < 5 → sj_os (sj_pas m y (sj_tn (m 9))) i e w = sj_os m i e w := fun w hw => ho _ (by omega) (by omega)
      exact ⟨x0, x1, x2, x3, x4, b, ⟨by rw [os 0 (by omega), c0], by rw [os 1 (by omega), c1], by rw [os 2 (by omega), c2], by rw [os 3 (by omega), c3], by rw [os 4 (by omega), c4]⟩, d⟩
  · rw [lo 10 (by omega)] at hk
    rw [r3 k hk]
    have oa : ∀ w, w < 3 → sj_oa (sj_pas m y (sj_tn (m 9))) k w = sj_oa m k w := fun w hw => lo _ (by omega)
    unfold sp_pn
    rw [oa 0 (by omega), oa 1 (by omega), oa 2 (by omega)]
theorem sp_R_dO {m : Nat → Int32} (hI : sj_inv m) {Q A N T P : Nat → Int32} (hR : sp_R Q A N T P m) {p : Nat} (hp : p < sj_tn (m 10)) : sp_R (upd Q 10 (nI (sj_tn (m 10) - 1))) A N T (sj_cu p (sj_tn (m 10) - 1) P) (sj_dO m p) := by
  obtain ⟨r1, r2, r3⟩ := hR
  have h8 := hI.1.2
  have h28 := hI.2.1.2
  have lo : ∀ j, (j < 10 ∨ 10 < j ∧ j < 14 ∨ 98 ≤ j) → sj_dO m p j = m j := fun j hj => sj_dO_hi m p hj h28
  have hn10 := sp_dO_n hI hp
  refine ⟨fun j hj => ?_, fun i hi9 => ?_, fun k hk => ?_⟩
  · by_cases h : j = 10
    · rw [h, sj_dO_10]
      exact sj_upd_self _ _ _
    · rw [show upd Q 10 (nI (sj_tn (m 10) - 1)) j = Q j from sj_upd_ne _ _ h, lo j (by omega)]
      exact r1 j hj
  · rw [lo 9 (by omega)] at hi9
    obtain ⟨a1, a2, a3⟩ := r2 i hi9
    have ho : ∀ w, sj_of (sj_dO m p) i w = sj_of m i w := fun w => lo _ (by omega)
    have hn : sj_ns (sj_dO m p) i = sj_ns m i := by
      unfold sj_ns
      rw [ho]
    refine ⟨by rw [ho, a1], by rw [ho, a2], fun e he => ?_⟩
    rw [hn] at he
    obtain ⟨x0, x1, x2, x3, x4, b, ⟨c0, c1, c2, c3, c4⟩, d⟩ := a3 e he
    have os : ∀ w, sj_os (sj_dO m p) i e w = sj_os m i e w := fun w => ho _
    exact ⟨x0, x1, x2, x3, x4, b, ⟨by rw [os, c0], by rw [os, c1], by rw [os, c2], by rw [os, c3], by rw [os, c4]⟩, d⟩
  · rw [hn10] at hk
    have oa : ∀ w, w < 3 → sj_oa (sj_dO m p) k w = sj_oa m (if k < p then k else k + 1) w := fun w hw => sj_dO_oa m p k w hw (Or.inl (by omega)) hp
    have e : sj_cu p (sj_tn (m 10) - 1) P k = P (if k < p then k else k + 1) := by
      unfold sj_cu
      by_cases h : k < p
      · rw [if_neg (by omega), if_pos h]
      · rw [if_pos ⟨by omega, hk⟩, if_neg h]
    rw [e, r3 _ (by split <;> omega)]
    unfold sp_pn
    rw [oa 0 (by omega), oa 1 (by omega), oa 2 (by omega)]
theorem sp_R_sw {m : Nat → Int32} (hI : sj_inv m) {Q A N T P : Nat → Int32} (hR : sp_R Q A N T P m) {u v : Nat} (hu : u < 8) (hv : v < 8) (like : Bool) {x y z : Int32} (hN : sj_tn (m 10) < 28) (hx : x = m 10 + 1) (hy : y = m 11 + 1) (hz : z = nI (u + 16 * v + 256 * sj_tn (sj_bi like))) : sp_R (upd (upd Q 10 x) 11 y) A N T (upd P (sj_tn (m 10)) z) (sj_sw m u v like) := by
  obtain ⟨r1, r2, r3⟩ := hR
  have h8 := hI.1.2
  obtain ⟨hn10, h9⟩ := sp_sw_n hI u v like
  have lo : ∀ j, (j < 10 ∨ 11 < j ∧ j < 14 ∨ 98 ≤ j) → sj_sw m u v like j = m j := fun j hj => sj_sw_o m u v like (by omega) (by omega) (by omega)
  refine ⟨fun j hj => ?_, fun i hi9 => ?_, fun k hk => ?_⟩
  · by_cases h11 : j = 11
    · rw [h11, sj_sw_11, ← hy]
      exact sj_upd_self _ _ _
    · rw [sj_upd_ne _ _ h11]
      by_cases h : j = 10
      · rw [h, sj_sw_10, ← hx]
        exact sj_upd_self _ _ _
      · rw [sj_upd_ne _ _ h, lo j (by omega)]
        exact r1 j hj
  · rw [h9] at hi9
    obtain ⟨a1, a2, a3⟩ := r2 i hi9
    have ho : ∀ w, sj_of (sj_sw m u v like) i w = sj_of m i w := fun w => lo _ (by omega)
    have hn : sj_ns (sj_sw m u v like) i = sj_ns m i := by
      unfold sj_ns
      rw [ho]
    refine ⟨by rw [ho, a1], by rw [ho, a2], fun e he => ?_⟩
    rw [hn] at he
    obtain ⟨x0, x1, x2, x3, x4, b, ⟨c0, c1, c2, c3, c4⟩, d⟩ := a3 e he
    have os : ∀ w, sj_os (sj_sw m u v like) i e w = sj_os m i e w := fun w => ho _
    exact ⟨x0, x1, x2, x3, x4, b, ⟨by rw [os, c0], by rw [os, c1], by rw [os, c2], by rw [os, c3], by rw [os, c4]⟩, d⟩
  · rw [hn10] at hk
    by_cases h : k = sj_tn (m 10)
    · subst h
      rw [sj_upd_self, hz]
      unfold sp_pn
      rw [sj_sw_0, sj_sw_1, sj_sw_2, sj_tn_nI (by omega), sj_tn_nI (by omega)]
    · rw [sj_upd_ne _ _ h, r3 k (by omega)]
      unfold sp_pn
      rw [sj_sw_oa m u v like (by omega) (by omega), sj_sw_oa m u v like (by omega) (by omega), sj_sw_oa m u v like (by omega) (by omega)]
theorem sp_R_lay {m M : Nat → Int32} (hI : sj_inv m) {Q A N T P : Nat → Int32} (hR : sp_R Q A N T P m) {y : Int32} {k : Nat} (lo : ∀ j, j < 98 + 42 * sj_tn (m 9) → j ≠ 9 → M j = m j) (e9 : M 9 = nI (sj_tn (m 9) + 1)) (eA : sj_of M (sj_tn (m 9)) 0 = y) (eN : sj_of M (sj_tn (m 9)) 1 = nI k) (hk : k ≤ 8) (ht : ∀ e, e < k → sp_tk M (sj_tn (m 9)) e (T (8 * sj_tn (m 9) + e))) : sp_R (upd Q 9 (nI (sj_tn (m 9) + 1))) (upd A (sj_tn (m 9)) y) (upd N (sj_tn (m 9)) (nI k)) T P M := by
  obtain ⟨r1, r2, r3⟩ := hR
  have h8 := hI.1.2
  have h28 := hI.2.1.2
  refine ⟨fun j hj => ?_, fun i hi9 => ?_, fun q hq => ?_⟩
  · by_cases h : j = 9
    · rw [h, e9]
      exact sj_upd_self _ _ _
    · rw [sj_upd_ne _ _ h, lo j (by omega) h]
      exact r1 j hj
  · rw [e9, sj_tn_nI (by omega)] at hi9
    by_cases h : i = sj_tn (m 9)
    · subst h
      refine ⟨by rw [sj_upd_self, eA], by rw [sj_upd_self, eN], fun e he => ht e ?_⟩
      have : sj_ns M (sj_tn (m 9)) = k := by
        unfold sj_ns
        rw [eN]
        exact nI_clamp (by omega)
      omega
    · have hi : i < sj_tn (m 9) := by omega
      obtain ⟨a1, a2, a3⟩ := r2 i hi
      have ho : ∀ w, w < 42 → sj_of M i w = sj_of m i w := fun w hw => lo _ (by omega) (by omega)
      have hn : sj_ns M i = sj_ns m i := by
        unfold sj_ns
        rw [ho 1 (by omega)]
      have hn8 := (sp_ns hI hi).2.2
      refine ⟨by rw [sj_upd_ne _ _ h, a1, ho 0 (by omega)], by rw [sj_upd_ne _ _ h, a2, ho 1 (by omega)], fun e he => ?_⟩
      rw [hn] at he
      obtain ⟨x0, x1, x2, x3, x4, b, ⟨c0, c1, c2, c3, c4⟩, d⟩ := a3 e he
      have os : ∀ w, w < 5 → sj_os M i e w = sj_os m i e w := fun w hw => ho _ (by omega)
      exact ⟨x0, x1, x2, x3, x4, b, ⟨by rw [os 0 (by omega), c0], by rw [os 1 (by omega), c1], by rw [os 2 (by omega), c2], by rw [os 3 (by omega), c3], by rw [os 4 (by omega), c4]⟩, d⟩
  · rw [lo 10 (by omega) (by omega)] at hq
    rw [r3 q hq]
    have oa : ∀ w, w < 3 → sj_oa M q w = sj_oa m q w := fun w hw => lo _ (by omega) (by omega)
    unfold sp_pn
    rw [oa 0 (by omega), oa 1 (by omega), oa 2 (by omega)]
theorem sp_old_j {m : Nat → Int32} {y : Int32} {k : Nat} {x j : Int32} (ex : x = sj_old m y k) (h : j = if sj_age m y k ≤ x then x else sj_age m y k) : j = sj_old m y (k + 1) := by
  rw [h, ex]
  show _ = if sj_old m y k < sj_age m y k then sj_age m y k else sj_old m y k
  by_cases h1 : sj_age m y k ≤ sj_old m y k
  · rw [if_pos h1, if_neg (Int32.not_lt.mpr h1)]
  · rw [if_neg h1, if_pos (Int32.not_le.mp h1)]
theorem sp_why_n (m : Nat → Int32) (i e : Nat) (like : Bool) : ∃ j, j ≤ 6 ∧ sj_why m i e like = nI j := by
  unfold sj_why
  repeat' split
  all_goals first | exact ⟨0, by omega, rfl⟩ | exact ⟨1, by omega, rfl⟩ | exact ⟨2, by omega, rfl⟩ | exact ⟨3, by omega, rfl⟩ | exact ⟨4, by omega, rfl⟩ | exact ⟨5, by omega, rfl⟩ | exact ⟨6, by omega, rfl⟩
theorem sp_why_le {m : Nat → Int32} {i e : Nat} {like : Bool} : sj_why m i e like ≤ 0 ↔ sj_why m i e like = 0 := by
  obtain ⟨j, hj, ej⟩ := sp_why_n m i e like
  rw [ej]
  by_cases h : j = 0
  · rw [h]
    exact ⟨fun _ => rfl, fun _ => by decide⟩
  · exact ⟨fun h1 => absurd h1 (nI_nle (by omega) (by omega)), fun h1 => absurd h1 (nI_ne0 (by omega) (by omega))⟩
set_option maxRecDepth 100000 in
set_option maxHeartbeats 600000 in
theorem ct_L_due_0f (l : Launch) {S : sj_St} {rq ra rn rt rp : Nat} {m : Nat → Int32} (h : sp_B S rq ra rn rt rp m) (hI : sj_inv m) (hne : sp_ne rq ra rn rt rp) (x y mn : Int32) (hfull : sj_tn (m 9) = 8) : sj_Ctr l mL_due [.int (0), .int (x), .int (y), .int (mn), .ref rq, .ref ra, .ref rn, .ref rt, .ref rp] S (sj_eq (some (.int (-103))) S) := by
  refine sj_start ([some (.int (0)), some (.int (x)), some (.int (y)), some (.int (mn)), some (.ref rq), some (.ref ra), some (.ref rn), some (.ref rt), some (.ref rp), none, none]) (by decide +kernel) rfl rfl (fun X hX C hR => ?_)
  subst hX
  obtain ⟨-, -, -, -, -, hR0⟩ := id h
  have hK := sp_B_K h
  obtain ⟨⟨kd_rq, il_rq⟩, ⟨kd_ra, il_ra⟩, ⟨kd_rn, il_rn⟩, ⟨kd_rt, il_rt⟩, ⟨kd_rp, il_rp⟩, hq, hs, hp⟩ := id h
  obtain ⟨h9, hn8⟩ := id hI.1
  obtain ⟨h10, hN28⟩ := id hI.2.1
  have hq9 : sj_ia S rq 9 = nI (sj_tn (m 9)) := (hq 9 (by omega)).trans h9
  have hq10 : sj_ia S rq 10 = nI (sj_tn (m 10)) := (hq 10 (by omega)).trans h10
  refine sj_iload_n C 1 rfl dL_due_0 rfl rfl ?_
  refine sj_if_ne C 52 4 rfl rfl dL_due_1 (fun c_1 => absurd c_1 (by decide)) (fun c_1 => ?_)
  refine sj_aload C 6 rfl dL_due_4 rfl ?_
  refine sj_bipush C (9) 8 rfl dL_due_6 (by decide) ?_
  refine sj_iald C 9 rfl dL_due_8 kd_rq (sp_vp (i := 9) il_rq (by omega) (by omega)) ?_
  rw [show Int32.toNatClampNeg 9 = 9 from rfl]
  rw [hq9]
  refine sj_bipush C (8) 11 rfl dL_due_9 (by decide) ?_
  refine sj_icmp_ne C 17 14 rfl rfl dL_due_11 (fun c_11 => absurd (by rw [hfull]; rfl) c_11) (fun c_11 => ?_)
  refine sj_bipush C (-103) 16 rfl dL_due_14 (by decide) ?_
  refine sj_iret C hR rfl rfl dL_due_16 ?_
  exact ⟨rfl, rfl⟩
set_option maxRecDepth 100000 in
set_option maxHeartbeats 600000 in
theorem ct_L_due_0 (l : Launch) {S : sj_St} {rq ra rn rt rp : Nat} {m : Nat → Int32} (h : sp_B S rq ra rn rt rp m) (hI : sj_inv m) (hne : sp_ne rq ra rn rt rp) (x : Int32) {y : Int32} {k : Nat} {M : Nat → Int32} (h8 : sj_tn (m 9) < 8) (lo : ∀ j, j < 98 + 42 * sj_tn (m 9) → j ≠ 9 → M j = m j) (e9 : M 9 = nI (sj_tn (m 9) + 1)) (eA : sj_of M (sj_tn (m 9)) 0 = y) (eN : sj_of M (sj_tn (m 9)) 1 = nI k) (hk : k ≤ 8) (ht : ∀ e, e < k → sp_tk M (sj_tn (m 9)) e (sj_ia S rt (8 * sj_tn (m 9) + e))) : sj_Ctr l mL_due [.int (0), .int (x), .int (y), .int (nI (k)), .ref rq, .ref ra, .ref rn, .ref rt, .ref rp] S (fun r U => r = some (.int (nI (sj_tn (m 9)))) ∧ ∃ Q A N T P, U = sp_w S rq ra rn rt rp Q A N T P ∧ sp_R Q A N T P M) := by
  refine sj_start ([some (.int (0)), some (.int (x)), some (.int (y)), some (.int (nI (k))), some (.ref rq), some (.ref ra), some (.ref rn), some (.ref rt), some (.ref rp), none, none]) (by decide +kernel) rfl rfl (fun X hX C hR => ?_)
  subst hX
  obtain ⟨-, -, -, -, -, hR0⟩ := id h
  have hK := sp_B_K h
  obtain ⟨⟨kd_rq, il_rq⟩, ⟨kd_ra, il_ra⟩, ⟨kd_rn, il_rn⟩, ⟨kd_rt, il_rt⟩, ⟨kd_rp, il_rp⟩, hq, hs, hp⟩ := id h
  obtain ⟨h9, hn8⟩ := id hI.1
  obtain ⟨h10, hN28⟩ := id hI.2.1
  have hq9 : sj_ia S rq 9 = nI (sj_tn (m 9)) := (hq 9 (by omega)).trans h9
  have hq10 : sj_ia S rq 10 = nI (sj_tn (m 10)) := (hq 10 (by omega)).trans h10
  refine sj_iload_n C 1 rfl dL_due_0 rfl rfl ?_
  refine sj_if_ne C 52 4 rfl rfl dL_due_1 (fun c_1 => absurd c_1 (by decide)) (fun c_1 => ?_)
  refine sj_aload C 6 rfl dL_due_4 rfl ?_
  refine sj_bipush C (9) 8 rfl dL_due_6 (by decide) ?_
  refine sj_iald C 9 rfl dL_due_8 kd_rq (sp_vp (i := 9) il_rq (by omega) (by omega)) ?_
  rw [show Int32.toNatClampNeg 9 = 9 from rfl]
  rw [hq9]
  refine sj_bipush C (8) 11 rfl dL_due_9 (by decide) ?_
  refine sj_icmp_ne C 17 14 rfl rfl dL_due_11 (fun c_11 => ?_) (fun c_11 => absurd ((nI_eq (b := 8) (by omega) (by omega)).mp c_11) (by omega))
  rw [← sp_w_id (S := S) hne]
  refine sj_aload C 19 rfl dL_due_17 rfl ?_
  refine sj_aload C 21 rfl dL_due_19 rfl ?_
  refine sj_bipush C (9) 23 rfl dL_due_21 (by decide) ?_
  refine sj_iald C 24 rfl dL_due_23 kd_rq (sp_vp (i := 9) il_rq (by omega) (by omega)) ?_
  rw [show Int32.toNatClampNeg 9 = 9 from rfl]
  rw [sp_w_q hne]
  rw [hq9]
  refine sj_iload_n C 25 rfl dL_due_24 rfl rfl ?_
  refine sj_iast C 26 rfl dL_due_25 kd_ra (sp_vp il_ra (by omega) (by omega)) ?_
  rw [nI_clamp (by omega)]
  rw [sp_w_wa hne]
  refine sj_aload C 28 rfl dL_due_26 rfl ?_
  refine sj_aload C 30 rfl dL_due_28 rfl ?_
  refine sj_bipush C (9) 32 rfl dL_due_30 (by decide) ?_
  refine sj_iald C 33 rfl dL_due_32 kd_rq (sp_vp (i := 9) il_rq (by omega) (by omega)) ?_
  rw [show Int32.toNatClampNeg 9 = 9 from rfl]
  rw [sp_w_q hne]
  rw [hq9]
  refine sj_iload_n C 34 rfl dL_due_33 rfl rfl ?_
  refine sj_iast C 35 rfl dL_due_34 kd_rn (sp_vp il_rn (by omega) (by omega)) ?_
  rw [nI_clamp (by omega)]
  rw [sp_w_wn hne]
  refine sj_aload C 37 rfl dL_due_35 rfl ?_
  refine sj_bipush C (9) 39 rfl dL_due_37 (by decide) ?_
  refine sj_dup2 C 40 rfl dL_due_39 rfl rfl ?_
  refine sj_iald C 41 rfl dL_due_40 kd_rq (sp_vp (i := 9) il_rq (by omega) (by omega)) ?_
  rw [show Int32.toNatClampNeg 9 = 9 from rfl]
  rw [sp_w_q hne]
  rw [hq9]
  refine sj_iconstv C (1) 42 rfl dL_due_41 rfl ?_
  refine sj_iadd C 43 rfl dL_due_42 ?_
  rw [show nI (sj_tn (m 9)) + 1 = nI ((sj_tn (m 9)) + 1) from nI_add (sj_tn (m 9)) 1]
  refine sj_iast C 44 rfl dL_due_43 kd_rq (sp_vp (i := 9) il_rq (by omega) (by omega)) ?_
  rw [show Int32.toNatClampNeg 9 = 9 from rfl]
  rw [sp_w_wq hne]
  refine sj_aload C 46 rfl dL_due_44 rfl ?_
  refine sj_bipush C (9) 48 rfl dL_due_46 (by decide) ?_
  refine sj_iald C 49 rfl dL_due_48 kd_rq (sp_vp (i := 9) il_rq (by omega) (by omega)) ?_
  rw [show Int32.toNatClampNeg 9 = 9 from rfl]
  rw [sp_w_q hne]
  rw [sj_upd_self]
  refine sj_iconstv C (1) 50 rfl dL_due_49 rfl ?_
  refine sj_isub C 51 rfl dL_due_50 ?_
  rw [show nI (sj_tn (m 9) + 1) - 1 = nI ((sj_tn (m 9) + 1) - 1) from sj_nsub (a := (sj_tn (m 9) + 1)) (b := 1) (by omega)]
  refine sj_iret C hR rfl rfl dL_due_51 ?_
  exact ⟨congrArg (fun z => some (Value.int z)) (congrArg nI (Nat.add_sub_cancel _ _)), _, _, _, _, _, rfl, sp_R_lay hI hR0 lo e9 eA eN hk ht⟩
set_option maxRecDepth 100000 in
set_option maxHeartbeats 600000 in
theorem ct_L_due_4 (l : Launch) {S : sj_St} {rq ra rn rt rp : Nat} {m : Nat → Int32} (h : sp_B S rq ra rn rt rp m) (hI : sj_inv m) (hne : sp_ne rq ra rn rt rp) (x mn : Int32) {y : Int32} (hy : 0 ≤ y ∧ y ≤ 99) : sj_Ctr l mL_due [.int (4), .int (x), .int (y), .int (mn), .ref rq, .ref ra, .ref rn, .ref rt, .ref rp] S (fun r U => r = some (.int (sj_old m y (sj_tn (m 9)))) ∧ ∃ Q A N T P, U = sp_w S rq ra rn rt rp Q A N T P ∧ sp_R Q A N T P (sj_pas m y (sj_tn (m 9)))) := by
  refine sj_start ([some (.int (4)), some (.int (x)), some (.int (y)), some (.int (mn)), some (.ref rq), some (.ref ra), some (.ref rn), some (.ref rt), some (.ref rp), none, none]) (by decide +kernel) rfl rfl (fun X hX C hR => ?_)
  subst hX
  obtain ⟨-, -, -, -, -, hR0⟩ := id h
  have hK := sp_B_K h
  obtain ⟨⟨kd_rq, il_rq⟩, ⟨kd_ra, il_ra⟩, ⟨kd_rn, il_rn⟩, ⟨kd_rt, il_rt⟩, ⟨kd_rp, il_rp⟩, hq, hs, hp⟩ := id h
  obtain ⟨h9, hn8⟩ := id hI.1
  obtain ⟨h10, hN28⟩ := id hI.2.1
  have hq9 : sj_ia S rq 9 = nI (sj_tn (m 9)) := (hq 9 (by omega)).trans h9
  have hq10 : sj_ia S rq 10 = nI (sj_tn (m 10)) := (hq 10 (by omega)).trans h10
  refine sj_iload_n C 1 rfl dL_due_0 rfl rfl ?_
  refine sj_if_ne C 52 4 rfl rfl dL_due_1 (fun c_1 => ?_) (fun c_1 => absurd c_1 (by decide))
  refine sj_iload_n C 53 rfl dL_due_52 rfl rfl ?_
  refine sj_iconstv C (4) 54 rfl dL_due_53 rfl ?_
  refine sj_icmp_ne C 133 57 rfl rfl dL_due_54 (fun c_54 => absurd c_54 (by decide)) (fun c_54 => ?_)
  rw [← sp_w_id (S := S) hne]
  have cut_63 : ∀ x9 : Int32, (x9 = sj_old m y 0) → sj_G X (sp_w S rq ra rn rt rp (sj_ia S rq) (sq_gr m y 0 (sj_ia S ra)) (sj_ia S rn) (sj_ia S rt) (sj_ia S rp)) 0 0 [some (.int (4)), some (.int (x)), some (.int (y)), some (.int (mn)), some (.ref rq), some (.ref ra), some (.ref rn), some (.ref rt), some (.ref rp), some (.int (x9)), some (.int (nI (0)))] 63 [] := by
    refine sj_down (fun k => ∀ x9 : Int32, (x9 = sj_old m y k) → sj_G X (sp_w S rq ra rn rt rp (sj_ia S rq) (sq_gr m y k (sj_ia S ra)) (sj_ia S rn) (sj_ia S rt) (sj_ia S rp)) 0 0 [some (.int (4)), some (.int (x)), some (.int (y)), some (.int (mn)), some (.ref rq), some (.ref ra), some (.ref rn), some (.ref rt), some (.ref rp), some (.int (x9)), some (.int (nI (k)))] 63 []) (sj_tn (m 9)) (fun k hk ih_63 => ?_)
    intro x9 e_x9
    refine sj_iload C 65 rfl dL_due_63 rfl ?_
    refine sj_aload C 67 rfl dL_due_65 rfl ?_
    refine sj_bipush C (9) 69 rfl dL_due_67 (by decide) ?_
    refine sj_iald C 70 rfl dL_due_69 kd_rq (sp_vp (i := 9) il_rq (by omega) (by omega)) ?_
    rw [show Int32.toNatClampNeg 9 = 9 from rfl]
    rw [sp_w_q hne]
    rw [hq9]
    refine sj_icmp_ge C 130 73 rfl rfl dL_due_70 (fun c_70 => ?_) (fun c_70 => ?_)
    · have hkn : k = sj_tn (m 9) := by
        have h99 : ¬ k < sj_tn (m 9) := fun h9 => nI_ge h9 (by omega) c_70
        omega
      subst hkn
      refine sj_iload C 132 rfl dL_due_130 rfl ?_
      refine sj_iret C hR rfl rfl dL_due_132 ?_
      exact ⟨congrArg (fun z => some (Value.int z)) e_x9, _, _, _, _, _, rfl, sp_R_pas hI hR0 hy⟩
    · have hlt : k < sj_tn (m 9) := Nat.not_le.mp fun h9 => c_70 (nI_le h9 (by omega))
      refine sj_aload C 75 rfl dL_due_73 rfl ?_
      refine sj_iload C 77 rfl dL_due_75 rfl ?_
      refine sj_aload C 79 rfl dL_due_77 rfl ?_
      refine sj_iload C 81 rfl dL_due_79 rfl ?_
      refine sj_iald C 82 rfl dL_due_81 kd_ra (sp_vp il_ra (by omega) (by omega)) ?_
      rw [nI_clamp (by omega)]
      rw [sp_w_a hne]
      rw [show sq_gr m y k (sj_ia S ra) k = sj_ia S ra k from if_neg (by omega), (hs k hlt).1]
      refine sj_iload_n C 83 rfl dL_due_82 rfl rfl ?_
      refine sj_iadd C 84 rfl dL_due_83 ?_
      refine sj_bipush C (99) 86 rfl dL_due_84 (by decide) ?_
      have cut_101 : ∀ j101 : Int32, (j101 = if ((sj_of m k 0) + y) ≤ 99 then (sj_of m k 0) + y else 99) → sj_G X (sp_w S rq ra rn rt rp (sj_ia S rq) (sq_gr m y k (sj_ia S ra)) (sj_ia S rn) (sj_ia S rt) (sj_ia S rp)) 0 0 [some (.int (4)), some (.int (x)), some (.int (y)), some (.int (mn)), some (.ref rq), some (.ref ra), some (.ref rn), some (.ref rt), some (.ref rp), some (.int (x9)), some (.int (nI (k)))] 101 [.int (j101), .int (nI (k)), .ref ra] := by
        intro j101 h101
        have e101 : j101 = sj_age m y k := sp_age h101
        subst e101
        refine sj_iast C 102 rfl dL_due_101 kd_ra (sp_vp il_ra (by omega) (by omega)) ?_
        rw [nI_clamp (by omega)]
        rw [sp_w_wa hne]
        refine sj_aload C 104 rfl dL_due_102 rfl ?_
        refine sj_iload C 106 rfl dL_due_104 rfl ?_
        refine sj_iald C 107 rfl dL_due_106 kd_ra (sp_vp il_ra (by omega) (by omega)) ?_
        rw [nI_clamp (by omega)]
        rw [sp_w_a hne]
        rw [sj_upd_self]
        refine sj_iload C 109 rfl dL_due_107 rfl ?_
        have cut_122 : ∀ j122 : Int32, (j122 = if (sj_age m y k) ≤ x9 then x9 else sj_age m y k) → sj_G X (sp_w S rq ra rn rt rp (sj_ia S rq) (upd (sq_gr m y k (sj_ia S ra)) (k) (sj_age m y k)) (sj_ia S rn) (sj_ia S rt) (sj_ia S rp)) 0 0 [some (.int (4)), some (.int (x)), some (.int (y)), some (.int (mn)), some (.ref rq), some (.ref ra), some (.ref rn), some (.ref rt), some (.ref rp), some (.int (x9)), some (.int (nI (k)))] 122 [.int (j122)] := by
          intro j122 h122
          refine sj_istore_9 C 124 rfl dL_due_122 rfl rfl ?_
          refine sj_iinc_10 C 127 rfl dL_due_124 rfl rfl ?_
          rw [show nI (k) + Int32.ofInt 1 = nI (k + 1) from nI_add _ _]
          refine sj_goto C 63 rfl dL_due_127 ?_
          rw [sq_gr_s]
          exact ih_63 (hlt) _ (sp_old_j e_x9 h122)
        refine sj_icmp_le C 120 112 rfl rfl dL_due_109 (fun c_109 => ?_) (fun c_109 => ?_)
        · refine sj_iload C 122 rfl dL_due_120 rfl ?_
          exact cut_122 _  ((if_pos c_109).symm)
        · refine sj_aload C 114 rfl dL_due_112 rfl ?_
          refine sj_iload C 116 rfl dL_due_114 rfl ?_
          refine sj_iald C 117 rfl dL_due_116 kd_ra (sp_vp il_ra (by omega) (by omega)) ?_
          rw [nI_clamp (by omega)]
          rw [sp_w_a hne]
          rw [sj_upd_self]
          refine sj_goto C 122 rfl dL_due_117 ?_
          exact cut_122 _  ((if_neg c_109).symm)
      refine sj_icmp_le C 94 89 rfl rfl dL_due_86 (fun c_86 => ?_) (fun c_86 => ?_)
      · refine sj_aload C 96 rfl dL_due_94 rfl ?_
        refine sj_iload C 98 rfl dL_due_96 rfl ?_
        refine sj_iald C 99 rfl dL_due_98 kd_ra (sp_vp il_ra (by omega) (by omega)) ?_
        rw [nI_clamp (by omega)]
        rw [sp_w_a hne]
        rw [show sq_gr m y k (sj_ia S ra) k = sj_ia S ra k from if_neg (by omega), (hs k hlt).1]
        refine sj_iload_n C 100 rfl dL_due_99 rfl rfl ?_
        refine sj_iadd C 101 rfl dL_due_100 ?_
        exact cut_101 _  ((if_pos c_86).symm)
      · refine sj_bipush C (99) 91 rfl dL_due_89 (by decide) ?_
        refine sj_goto C 101 rfl dL_due_91 ?_
        exact cut_101 _  ((if_neg c_86).symm)
  refine sj_iconstv C (-1) 58 rfl dL_due_57 rfl ?_
  refine sj_istore_9 C 60 rfl dL_due_58 rfl rfl ?_
  refine sj_iconstv C (0) 61 rfl dL_due_60 rfl ?_
  refine sj_istore_10 C 63 rfl dL_due_61 rfl rfl ?_
  rw [sq_gr_0] at cut_63
  exact cut_63 _ (rfl)
set_option maxRecDepth 100000 in
set_option maxHeartbeats 600000 in
theorem ct_L_due_5 (l : Launch) {S : sj_St} {rq ra rn rt rp : Nat} {m : Nat → Int32} (h : sp_B S rq ra rn rt rp m) (hI : sj_inv m) (hne : sp_ne rq ra rn rt rp) {u : Nat} (y mn : Int32) (hu9 : u < 9) : sj_Ctr l mL_due [.int (5), .int (nI (u)), .int (y), .int (mn), .ref rq, .ref ra, .ref rn, .ref rt, .ref rp] S (fun r U => r = some (.int (m u)) ∧ ∃ Q A N T P, U = sp_w S rq ra rn rt rp Q A N T P ∧ sp_R Q A N T P (upd m u y)) := by
  refine sj_start ([some (.int (5)), some (.int (nI (u))), some (.int (y)), some (.int (mn)), some (.ref rq), some (.ref ra), some (.ref rn), some (.ref rt), some (.ref rp), none, none]) (by decide +kernel) rfl rfl (fun X hX C hR => ?_)
  subst hX
  obtain ⟨-, -, -, -, -, hR0⟩ := id h
  have hK := sp_B_K h
  obtain ⟨⟨kd_rq, il_rq⟩, ⟨kd_ra, il_ra⟩, ⟨kd_rn, il_rn⟩, ⟨kd_rt, il_rt⟩, ⟨kd_rp, il_rp⟩, hq, hs, hp⟩ := id h
  obtain ⟨h9, hn8⟩ := id hI.1
  obtain ⟨h10, hN28⟩ := id hI.2.1
  have hq9 : sj_ia S rq 9 = nI (sj_tn (m 9)) := (hq 9 (by omega)).trans h9
  have hq10 : sj_ia S rq 10 = nI (sj_tn (m 10)) := (hq 10 (by omega)).trans h10
  refine sj_iload_n C 1 rfl dL_due_0 rfl rfl ?_
  refine sj_if_ne C 52 4 rfl rfl dL_due_1 (fun c_1 => ?_) (fun c_1 => absurd c_1 (by decide))
  refine sj_iload_n C 53 rfl dL_due_52 rfl rfl ?_
  refine sj_iconstv C (4) 54 rfl dL_due_53 rfl ?_
  refine sj_icmp_ne C 133 57 rfl rfl dL_due_54 (fun c_54 => ?_) (fun c_54 => absurd c_54 (by decide))
  refine sj_iload_n C 134 rfl dL_due_133 rfl rfl ?_
  refine sj_iconstv C (5) 135 rfl dL_due_134 rfl ?_
  refine sj_icmp_ne C 152 138 rfl rfl dL_due_135 (fun c_135 => absurd c_135 (by decide)) (fun c_135 => ?_)
  rw [← sp_w_id (S := S) hne]
  refine sj_aload C 140 rfl dL_due_138 rfl ?_
  refine sj_iload_n C 141 rfl dL_due_140 rfl rfl ?_
  refine sj_iald C 142 rfl dL_due_141 kd_rq (sp_vp il_rq (by omega) (by omega)) ?_
  rw [nI_clamp (by omega)]
  rw [sp_w_q hne]
  rw [hq u (by omega)]
  refine sj_istore_9 C 144 rfl dL_due_142 rfl rfl ?_
  refine sj_aload C 146 rfl dL_due_144 rfl ?_
  refine sj_iload_n C 147 rfl dL_due_146 rfl rfl ?_
  refine sj_iload_n C 148 rfl dL_due_147 rfl rfl ?_
  refine sj_iast C 149 rfl dL_due_148 kd_rq (sp_vp il_rq (by omega) (by omega)) ?_
  rw [nI_clamp (by omega)]
  rw [sp_w_wq hne]
  refine sj_iload C 151 rfl dL_due_149 rfl ?_
  refine sj_iret C hR rfl rfl dL_due_151 ?_
  exact ⟨rfl, _, _, _, _, _, rfl, sp_R_set hI hR0 hu9 y⟩
set_option maxRecDepth 100000 in
set_option maxHeartbeats 600000 in
theorem ct_L_due_6x (l : Launch) {S : sj_St} {rq ra rn rt rp : Nat} {m : Nat → Int32} (h : sp_B S rq ra rn rt rp m) (hI : sj_inv m) (hne : sp_ne rq ra rn rt rp) {u : Nat} (y mn : Int32) (hu : sj_tn (m 9) ≤ u) (hu9 : u < 9) : sj_Ctr l mL_due [.int (6), .int (nI (u)), .int (y), .int (mn), .ref rq, .ref ra, .ref rn, .ref rt, .ref rp] S (sj_eq (some (.int (-101))) S) := by
  refine sj_start ([some (.int (6)), some (.int (nI (u))), some (.int (y)), some (.int (mn)), some (.ref rq), some (.ref ra), some (.ref rn), some (.ref rt), some (.ref rp), none, none]) (by decide +kernel) rfl rfl (fun X hX C hR => ?_)
  subst hX
  obtain ⟨-, -, -, -, -, hR0⟩ := id h
  have hK := sp_B_K h
  obtain ⟨⟨kd_rq, il_rq⟩, ⟨kd_ra, il_ra⟩, ⟨kd_rn, il_rn⟩, ⟨kd_rt, il_rt⟩, ⟨kd_rp, il_rp⟩, hq, hs, hp⟩ := id h
  obtain ⟨h9, hn8⟩ := id hI.1
  obtain ⟨h10, hN28⟩ := id hI.2.1
  have hq9 : sj_ia S rq 9 = nI (sj_tn (m 9)) := (hq 9 (by omega)).trans h9
  have hq10 : sj_ia S rq 10 = nI (sj_tn (m 10)) := (hq 10 (by omega)).trans h10
  refine sj_iload_n C 1 rfl dL_due_0 rfl rfl ?_
  refine sj_if_ne C 52 4 rfl rfl dL_due_1 (fun c_1 => ?_) (fun c_1 => absurd c_1 (by decide))
  refine sj_iload_n C 53 rfl dL_due_52 rfl rfl ?_
  refine sj_iconstv C (4) 54 rfl dL_due_53 rfl ?_
  refine sj_icmp_ne C 133 57 rfl rfl dL_due_54 (fun c_54 => ?_) (fun c_54 => absurd c_54 (by decide))
  refine sj_iload_n C 134 rfl dL_due_133 rfl rfl ?_
  refine sj_iconstv C (5) 135 rfl dL_due_134 rfl ?_
  refine sj_icmp_ne C 152 138 rfl rfl dL_due_135 (fun c_135 => ?_) (fun c_135 => absurd c_135 (by decide))
  refine sj_iload_n C 153 rfl dL_due_152 rfl rfl ?_
  refine sj_aload C 155 rfl dL_due_153 rfl ?_
  refine sj_bipush C (9) 157 rfl dL_due_155 (by decide) ?_
  refine sj_iald C 158 rfl dL_due_157 kd_rq (sp_vp (i := 9) il_rq (by omega) (by omega)) ?_
  rw [show Int32.toNatClampNeg 9 = 9 from rfl]
  rw [hq9]
  refine sj_icmp_ge C 175 161 rfl rfl dL_due_158 (fun c_158 => ?_) (fun c_158 => absurd (nI_le hu (by omega)) c_158)
  refine sj_bipush C (-101) 177 rfl dL_due_175 (by decide) ?_
  refine sj_iret C hR rfl rfl dL_due_177 ?_
  exact ⟨rfl, rfl⟩
set_option maxRecDepth 100000 in
set_option maxHeartbeats 600000 in
theorem ct_L_due_6 (l : Launch) {S : sj_St} {rq ra rn rt rp : Nat} {m : Nat → Int32} (h : sp_B S rq ra rn rt rp m) (hI : sj_inv m) (hne : sp_ne rq ra rn rt rp) {u : Nat} (y mn : Int32) (hu : u < sj_tn (m 9)) : sj_Ctr l mL_due [.int (6), .int (nI (u)), .int (y), .int (mn), .ref rq, .ref ra, .ref rn, .ref rt, .ref rp] S (fun r U => r = some (.int (sj_drn m u)) ∧ ∃ Q A N T P, U = sp_w S rq ra rn rt rp Q A N T P ∧ sp_R Q A N T P (sj_drp m u)) := by
  refine sj_start ([some (.int (6)), some (.int (nI (u))), some (.int (y)), some (.int (mn)), some (.ref rq), some (.ref ra), some (.ref rn), some (.ref rt), some (.ref rp), none, none]) (by decide +kernel) rfl rfl (fun X hX C hR => ?_)
  subst hX
  obtain ⟨-, -, -, -, -, hR0⟩ := id h
  have hK := sp_B_K h
  obtain ⟨⟨kd_rq, il_rq⟩, ⟨kd_ra, il_ra⟩, ⟨kd_rn, il_rn⟩, ⟨kd_rt, il_rt⟩, ⟨kd_rp, il_rp⟩, hq, hs, hp⟩ := id h
  obtain ⟨h9, hn8⟩ := id hI.1
  obtain ⟨h10, hN28⟩ := id hI.2.1
  have hq9 : sj_ia S rq 9 = nI (sj_tn (m 9)) := (hq 9 (by omega)).trans h9
  have hq10 : sj_ia S rq 10 = nI (sj_tn (m 10)) := (hq 10 (by omega)).trans h10
  refine sj_iload_n C 1 rfl dL_due_0 rfl rfl ?_
  refine sj_if_ne C 52 4 rfl rfl dL_due_1 (fun c_1 => ?_) (fun c_1 => absurd c_1 (by decide))
  refine sj_iload_n C 53 rfl dL_due_52 rfl rfl ?_
  refine sj_iconstv C (4) 54 rfl dL_due_53 rfl ?_
  refine sj_icmp_ne C 133 57 rfl rfl dL_due_54 (fun c_54 => ?_) (fun c_54 => absurd c_54 (by decide))
  refine sj_iload_n C 134 rfl dL_due_133 rfl rfl ?_
  refine sj_iconstv C (5) 135 rfl dL_due_134 rfl ?_
  refine sj_icmp_ne C 152 138 rfl rfl dL_due_135 (fun c_135 => ?_) (fun c_135 => absurd c_135 (by decide))
  refine sj_iload_n C 153 rfl dL_due_152 rfl rfl ?_
  refine sj_aload C 155 rfl dL_due_153 rfl ?_
  refine sj_bipush C (9) 157 rfl dL_due_155 (by decide) ?_
  refine sj_iald C 158 rfl dL_due_157 kd_rq (sp_vp (i := 9) il_rq (by omega) (by omega)) ?_
  rw [show Int32.toNatClampNeg 9 = 9 from rfl]
  rw [hq9]
  refine sj_icmp_ge C 175 161 rfl rfl dL_due_158 (fun c_158 => absurd c_158 (nI_ge hu (by omega))) (fun c_158 => ?_)
  refine sj_iload_n C 162 rfl dL_due_161 rfl rfl ?_
  refine sj_iconstv C (4) 163 rfl dL_due_162 rfl ?_
  refine sj_icmp_ge C 178 166 rfl rfl dL_due_163 (fun c_163 => ?_) (fun c_163 => absurd c_163 (by decide))
  refine sj_iload_n C 179 rfl dL_due_178 rfl rfl ?_
  refine sj_bipush C (6) 181 rfl dL_due_179 (by decide) ?_
  refine sj_icmp_ne C 199 184 rfl rfl dL_due_181 (fun c_181 => absurd c_181 (by decide)) (fun c_181 => ?_)
  refine sj_iload_n C 185 rfl dL_due_184 rfl rfl ?_
  refine sj_aload C 187 rfl dL_due_185 rfl ?_
  refine sj_aload C 189 rfl dL_due_187 rfl ?_
  refine sj_aload C 191 rfl dL_due_189 rfl ?_
  refine sj_aload C 193 rfl dL_due_191 rfl ?_
  refine sj_aload C 195 rfl dL_due_193 rfl ?_
  refine sj_callSp C 198 rfl dL_due_195 cv_L_152 rfl (ct_L_drops _ h hI hne hu) rfl rfl rfl ⟨rfl, rfl⟩ (fun v9 S9 hp9 => ?_)
  obtain ⟨rfl, hfin⟩ := hp9
  refine sj_iret C hR rfl rfl dL_due_198 ?_
  exact ⟨rfl, hfin⟩
set_option maxRecDepth 100000 in
set_option maxHeartbeats 600000 in
theorem ct_L_due_3x (l : Launch) {S : sj_St} {rq ra rn rt rp : Nat} {m : Nat → Int32} (h : sp_B S rq ra rn rt rp m) (hI : sj_inv m) (hne : sp_ne rq ra rn rt rp) {u v : Nat} (mn : Int32) (hx : sj_tn (m 9) ≤ u ∨ sj_tn (m 9) ≤ v) (hu9 : u < 9) (hv9 : v < 9) : sj_Ctr l mL_due [.int (3), .int (nI (u)), .int (nI (v)), .int (mn), .ref rq, .ref ra, .ref rn, .ref rt, .ref rp] S (sj_eq (some (.int (-101))) S) := by
  refine sj_start ([some (.int (3)), some (.int (nI (u))), some (.int (nI (v))), some (.int (mn)), some (.ref rq), some (.ref ra), some (.ref rn), some (.ref rt), some (.ref rp), none, none]) (by decide +kernel) rfl rfl (fun X hX C hR => ?_)
  subst hX
  obtain ⟨-, -, -, -, -, hR0⟩ := id h
  have hK := sp_B_K h
  obtain ⟨⟨kd_rq, il_rq⟩, ⟨kd_ra, il_ra⟩, ⟨kd_rn, il_rn⟩, ⟨kd_rt, il_rt⟩, ⟨kd_rp, il_rp⟩, hq, hs, hp⟩ := id h
  obtain ⟨h9, hn8⟩ := id hI.1
  obtain ⟨h10, hN28⟩ := id hI.2.1
  have hq9 : sj_ia S rq 9 = nI (sj_tn (m 9)) := (hq 9 (by omega)).trans h9
  have hq10 : sj_ia S rq 10 = nI (sj_tn (m 10)) := (hq 10 (by omega)).trans h10
  refine sj_iload_n C 1 rfl dL_due_0 rfl rfl ?_
  refine sj_if_ne C 52 4 rfl rfl dL_due_1 (fun c_1 => ?_) (fun c_1 => absurd c_1 (by decide))
  refine sj_iload_n C 53 rfl dL_due_52 rfl rfl ?_
  refine sj_iconstv C (4) 54 rfl dL_due_53 rfl ?_
  refine sj_icmp_ne C 133 57 rfl rfl dL_due_54 (fun c_54 => ?_) (fun c_54 => absurd c_54 (by decide))
  refine sj_iload_n C 134 rfl dL_due_133 rfl rfl ?_
  refine sj_iconstv C (5) 135 rfl dL_due_134 rfl ?_
  refine sj_icmp_ne C 152 138 rfl rfl dL_due_135 (fun c_135 => ?_) (fun c_135 => absurd c_135 (by decide))
  refine sj_iload_n C 153 rfl dL_due_152 rfl rfl ?_
  refine sj_aload C 155 rfl dL_due_153 rfl ?_
  refine sj_bipush C (9) 157 rfl dL_due_155 (by decide) ?_
  refine sj_iald C 158 rfl dL_due_157 kd_rq (sp_vp (i := 9) il_rq (by omega) (by omega)) ?_
  rw [show Int32.toNatClampNeg 9 = 9 from rfl]
  rw [hq9]
  refine sj_icmp_ge C 175 161 rfl rfl dL_due_158 (fun c_158 => ?_) (fun c_158 => ?_)
  · refine sj_bipush C (-101) 177 rfl dL_due_175 (by decide) ?_
    refine sj_iret C hR rfl rfl dL_due_177 ?_
    exact ⟨rfl, rfl⟩
  · refine sj_iload_n C 162 rfl dL_due_161 rfl rfl ?_
    refine sj_iconstv C (4) 163 rfl dL_due_162 rfl ?_
    refine sj_icmp_ge C 178 166 rfl rfl dL_due_163 (fun c_163 => absurd c_163 (by decide)) (fun c_163 => ?_)
    refine sj_iload_n C 167 rfl dL_due_166 rfl rfl ?_
    refine sj_aload C 169 rfl dL_due_167 rfl ?_
    refine sj_bipush C (9) 171 rfl dL_due_169 (by decide) ?_
    refine sj_iald C 172 rfl dL_due_171 kd_rq (sp_vp (i := 9) il_rq (by omega) (by omega)) ?_
    rw [show Int32.toNatClampNeg 9 = 9 from rfl]
    rw [hq9]
    refine sj_icmp_lt C 178 175 rfl rfl dL_due_172 (fun c_172 => absurd c_172 (nI_nlt (hx.resolve_left (fun h1 => c_158 (nI_le h1 (by omega)))) (by omega))) (fun c_172 => ?_)
    refine sj_bipush C (-101) 177 rfl dL_due_175 (by decide) ?_
    refine sj_iret C hR rfl rfl dL_due_177 ?_
    exact ⟨rfl, rfl⟩
set_option maxRecDepth 100000 in
set_option maxHeartbeats 600000 in
theorem ct_L_due_3n (l : Launch) {S : sj_St} {rq ra rn rt rp : Nat} {m : Nat → Int32} (h : sp_B S rq ra rn rt rp m) (hI : sj_inv m) (hne : sp_ne rq ra rn rt rp) {u v : Nat} (mn : Int32) (hu : u < sj_tn (m 9)) (hv : v < sj_tn (m 9)) (hfo : sj_fo m u v = -1) : sj_Ctr l mL_due [.int (3), .int (nI (u)), .int (nI (v)), .int (mn), .ref rq, .ref ra, .ref rn, .ref rt, .ref rp] S (sj_eq (some (.int (0))) S) := by
  refine sj_start ([some (.int (3)), some (.int (nI (u))), some (.int (nI (v))), some (.int (mn)), some (.ref rq), some (.ref ra), some (.ref rn), some (.ref rt), some (.ref rp), none, none]) (by decide +kernel) rfl rfl (fun X hX C hR => ?_)
  subst hX
  obtain ⟨-, -, -, -, -, hR0⟩ := id h
  have hK := sp_B_K h
  obtain ⟨⟨kd_rq, il_rq⟩, ⟨kd_ra, il_ra⟩, ⟨kd_rn, il_rn⟩, ⟨kd_rt, il_rt⟩, ⟨kd_rp, il_rp⟩, hq, hs, hp⟩ := id h
  obtain ⟨h9, hn8⟩ := id hI.1
  obtain ⟨h10, hN28⟩ := id hI.2.1
  have hq9 : sj_ia S rq 9 = nI (sj_tn (m 9)) := (hq 9 (by omega)).trans h9
  have hq10 : sj_ia S rq 10 = nI (sj_tn (m 10)) := (hq 10 (by omega)).trans h10
  refine sj_iload_n C 1 rfl dL_due_0 rfl rfl ?_
  refine sj_if_ne C 52 4 rfl rfl dL_due_1 (fun c_1 => ?_) (fun c_1 => absurd c_1 (by decide))
  refine sj_iload_n C 53 rfl dL_due_52 rfl rfl ?_
  refine sj_iconstv C (4) 54 rfl dL_due_53 rfl ?_
  refine sj_icmp_ne C 133 57 rfl rfl dL_due_54 (fun c_54 => ?_) (fun c_54 => absurd c_54 (by decide))
  refine sj_iload_n C 134 rfl dL_due_133 rfl rfl ?_
  refine sj_iconstv C (5) 135 rfl dL_due_134 rfl ?_
  refine sj_icmp_ne C 152 138 rfl rfl dL_due_135 (fun c_135 => ?_) (fun c_135 => absurd c_135 (by decide))
  refine sj_iload_n C 153 rfl dL_due_152 rfl rfl ?_
  refine sj_aload C 155 rfl dL_due_153 rfl ?_
  refine sj_bipush C (9) 157 rfl dL_due_155 (by decide) ?_
  refine sj_iald C 158 rfl dL_due_157 kd_rq (sp_vp (i := 9) il_rq (by omega) (by omega)) ?_
  rw [show Int32.toNatClampNeg 9 = 9 from rfl]
  rw [hq9]
  refine sj_icmp_ge C 175 161 rfl rfl dL_due_158 (fun c_158 => absurd c_158 (nI_ge hu (by omega))) (fun c_158 => ?_)
  refine sj_iload_n C 162 rfl dL_due_161 rfl rfl ?_
  refine sj_iconstv C (4) 163 rfl dL_due_162 rfl ?_
  refine sj_icmp_ge C 178 166 rfl rfl dL_due_163 (fun c_163 => absurd c_163 (by decide)) (fun c_163 => ?_)
  refine sj_iload_n C 167 rfl dL_due_166 rfl rfl ?_
  refine sj_aload C 169 rfl dL_due_167 rfl ?_
  refine sj_bipush C (9) 171 rfl dL_due_169 (by decide) ?_
  refine sj_iald C 172 rfl dL_due_171 kd_rq (sp_vp (i := 9) il_rq (by omega) (by omega)) ?_
  rw [show Int32.toNatClampNeg 9 = 9 from rfl]
  rw [hq9]
  refine sj_icmp_lt C 178 175 rfl rfl dL_due_172 (fun c_172 => ?_) (fun c_172 => absurd (nI_lt hv (by omega)) c_172)
  refine sj_iload_n C 179 rfl dL_due_178 rfl rfl ?_
  refine sj_bipush C (6) 181 rfl dL_due_179 (by decide) ?_
  refine sj_icmp_ne C 199 184 rfl rfl dL_due_181 (fun c_181 => ?_) (fun c_181 => absurd c_181 (by decide))
  refine sj_iload_n C 200 rfl dL_due_199 rfl rfl ?_
  refine sj_iconstv C (3) 201 rfl dL_due_200 rfl ?_
  refine sj_icmp_ne C 240 204 rfl rfl dL_due_201 (fun c_201 => absurd c_201 (by decide)) (fun c_201 => ?_)
  refine sj_iload_n C 205 rfl dL_due_204 rfl rfl ?_
  refine sj_iload_n C 206 rfl dL_due_205 rfl rfl ?_
  refine sj_aload C 208 rfl dL_due_206 rfl ?_
  refine sj_aload C 210 rfl dL_due_208 rfl ?_
  refine sj_callSd C 213 rfl dL_due_210 cv_L_116 rfl (show sj_Ctr _ _ _ _ (sj_eq (some (.int (-1))) S) from by rw [← hfo]; exact ct_L_oathOf _ h hI (by omega) (by omega)) rfl rfl rfl ⟨rfl, rfl⟩ ?_
  refine sj_istore_9 C 215 rfl dL_due_213 rfl rfl ?_
  refine sj_iload C 217 rfl dL_due_215 rfl ?_
  refine sj_if_lt C 229 220 rfl rfl dL_due_217 (fun c_217 => ?_) (fun c_217 => absurd c_217 (by decide))
  refine sj_iload C 231 rfl dL_due_229 rfl ?_
  refine sj_if_lt C 238 234 rfl rfl dL_due_231 (fun c_231 => ?_) (fun c_231 => absurd c_231 (by decide))
  refine sj_iconstv C (0) 239 rfl dL_due_238 rfl ?_
  refine sj_iret C hR rfl rfl dL_due_239 ?_
  exact ⟨rfl, rfl⟩
set_option maxRecDepth 100000 in
set_option maxHeartbeats 600000 in
theorem ct_L_due_3y (l : Launch) {S : sj_St} {rq ra rn rt rp : Nat} {m : Nat → Int32} (h : sp_B S rq ra rn rt rp m) (hI : sj_inv m) (hne : sp_ne rq ra rn rt rp) {u v j : Nat} (mn : Int32) (hu : u < sj_tn (m 9)) (hv : v < sj_tn (m 9)) (hj : j < sj_tn (m 10)) (hfo : sj_fo m u v = nI j) : sj_Ctr l mL_due [.int (3), .int (nI (u)), .int (nI (v)), .int (mn), .ref rq, .ref ra, .ref rn, .ref rt, .ref rp] S (fun r U => r = some (.int (1)) ∧ ∃ Q A N T P, U = sp_w S rq ra rn rt rp Q A N T P ∧ sp_R Q A N T P (sj_dO m j)) := by
  refine sj_start ([some (.int (3)), some (.int (nI (u))), some (.int (nI (v))), some (.int (mn)), some (.ref rq), some (.ref ra), some (.ref rn), some (.ref rt), some (.ref rp), none, none]) (by decide +kernel) rfl rfl (fun X hX C hR => ?_)
  subst hX
  obtain ⟨-, -, -, -, -, hR0⟩ := id h
  have hK := sp_B_K h
  obtain ⟨⟨kd_rq, il_rq⟩, ⟨kd_ra, il_ra⟩, ⟨kd_rn, il_rn⟩, ⟨kd_rt, il_rt⟩, ⟨kd_rp, il_rp⟩, hq, hs, hp⟩ := id h
  obtain ⟨h9, hn8⟩ := id hI.1
  obtain ⟨h10, hN28⟩ := id hI.2.1
  have hq9 : sj_ia S rq 9 = nI (sj_tn (m 9)) := (hq 9 (by omega)).trans h9
  have hq10 : sj_ia S rq 10 = nI (sj_tn (m 10)) := (hq 10 (by omega)).trans h10
  refine sj_iload_n C 1 rfl dL_due_0 rfl rfl ?_
  refine sj_if_ne C 52 4 rfl rfl dL_due_1 (fun c_1 => ?_) (fun c_1 => absurd c_1 (by decide))
  refine sj_iload_n C 53 rfl dL_due_52 rfl rfl ?_
  refine sj_iconstv C (4) 54 rfl dL_due_53 rfl ?_
  refine sj_icmp_ne C 133 57 rfl rfl dL_due_54 (fun c_54 => ?_) (fun c_54 => absurd c_54 (by decide))
  refine sj_iload_n C 134 rfl dL_due_133 rfl rfl ?_
  refine sj_iconstv C (5) 135 rfl dL_due_134 rfl ?_
  refine sj_icmp_ne C 152 138 rfl rfl dL_due_135 (fun c_135 => ?_) (fun c_135 => absurd c_135 (by decide))
  refine sj_iload_n C 153 rfl dL_due_152 rfl rfl ?_
  refine sj_aload C 155 rfl dL_due_153 rfl ?_
  refine sj_bipush C (9) 157 rfl dL_due_155 (by decide) ?_
  refine sj_iald C 158 rfl dL_due_157 kd_rq (sp_vp (i := 9) il_rq (by omega) (by omega)) ?_
  rw [show Int32.toNatClampNeg 9 = 9 from rfl]
  rw [hq9]
  refine sj_icmp_ge C 175 161 rfl rfl dL_due_158 (fun c_158 => absurd c_158 (nI_ge hu (by omega))) (fun c_158 => ?_)
  refine sj_iload_n C 162 rfl dL_due_161 rfl rfl ?_
  refine sj_iconstv C (4) 163 rfl dL_due_162 rfl ?_
  refine sj_icmp_ge C 178 166 rfl rfl dL_due_163 (fun c_163 => absurd c_163 (by decide)) (fun c_163 => ?_)
  refine sj_iload_n C 167 rfl dL_due_166 rfl rfl ?_
  refine sj_aload C 169 rfl dL_due_167 rfl ?_
  refine sj_bipush C (9) 171 rfl dL_due_169 (by decide) ?_
  refine sj_iald C 172 rfl dL_due_171 kd_rq (sp_vp (i := 9) il_rq (by omega) (by omega)) ?_
  rw [show Int32.toNatClampNeg 9 = 9 from rfl]
  rw [hq9]
  refine sj_icmp_lt C 178 175 rfl rfl dL_due_172 (fun c_172 => ?_) (fun c_172 => absurd (nI_lt hv (by omega)) c_172)
  refine sj_iload_n C 179 rfl dL_due_178 rfl rfl ?_
  refine sj_bipush C (6) 181 rfl dL_due_179 (by decide) ?_
  refine sj_icmp_ne C 199 184 rfl rfl dL_due_181 (fun c_181 => ?_) (fun c_181 => absurd c_181 (by decide))
  refine sj_iload_n C 200 rfl dL_due_199 rfl rfl ?_
  refine sj_iconstv C (3) 201 rfl dL_due_200 rfl ?_
  refine sj_icmp_ne C 240 204 rfl rfl dL_due_201 (fun c_201 => absurd c_201 (by decide)) (fun c_201 => ?_)
  refine sj_iload_n C 205 rfl dL_due_204 rfl rfl ?_
  refine sj_iload_n C 206 rfl dL_due_205 rfl rfl ?_
  refine sj_aload C 208 rfl dL_due_206 rfl ?_
  refine sj_aload C 210 rfl dL_due_208 rfl ?_
  refine sj_callSd C 213 rfl dL_due_210 cv_L_116 rfl (show sj_Ctr _ _ _ _ (sj_eq (some (.int (nI j))) S) from by rw [← hfo]; exact ct_L_oathOf _ h hI (by omega) (by omega)) rfl rfl rfl ⟨rfl, rfl⟩ ?_
  refine sj_istore_9 C 215 rfl dL_due_213 rfl rfl ?_
  refine sj_iload C 217 rfl dL_due_215 rfl ?_
  refine sj_if_lt C 229 220 rfl rfl dL_due_217 (fun c_217 => absurd c_217 (nI_pos (by omega))) (fun c_217 => ?_)
  refine sj_iload C 222 rfl dL_due_220 rfl ?_
  refine sj_aload C 224 rfl dL_due_222 rfl ?_
  refine sj_aload C 226 rfl dL_due_224 rfl ?_
  rw [← sp_w_id (S := S) hne]
  refine sj_callSv C 229 rfl dL_due_226 cv_L_134 rfl (ct_L_dropOath _ hK hne (b := j) (c := sj_tn (m 10) - 1) (by rw [hq 10 (by omega), h10, sj_tn_nI (by omega), show sj_tn (m 10) - 1 + 1 = sj_tn (m 10) by omega]) (by omega) (by omega)) rfl rfl rfl ⟨rfl, rfl⟩ ?_
  refine sj_iload C 231 rfl dL_due_229 rfl ?_
  refine sj_if_lt C 238 234 rfl rfl dL_due_231 (fun c_231 => absurd c_231 (nI_pos (by omega))) (fun c_231 => ?_)
  refine sj_iconstv C (1) 235 rfl dL_due_234 rfl ?_
  refine sj_goto C 239 rfl dL_due_235 ?_
  refine sj_iret C hR rfl rfl dL_due_239 ?_
  exact ⟨rfl, _, _, _, _, _, rfl, sp_R_dO hI hR0 hj⟩
set_option maxRecDepth 100000 in
set_option maxHeartbeats 600000 in
theorem ct_L_due_1x (l : Launch) {S : sj_St} {rq ra rn rt rp : Nat} {m : Nat → Int32} (h : sp_B S rq ra rn rt rp m) (hI : sj_inv m) (hne : sp_ne rq ra rn rt rp) {u v : Nat} (mn : Int32) (hx : sj_tn (m 9) ≤ u ∨ sj_tn (m 9) ≤ v) (hu9 : u < 9) (hv9 : v < 9) : sj_Ctr l mL_due [.int (1), .int (nI (u)), .int (nI (v)), .int (mn), .ref rq, .ref ra, .ref rn, .ref rt, .ref rp] S (sj_eq (some (.int (-101))) S) := by
  refine sj_start ([some (.int (1)), some (.int (nI (u))), some (.int (nI (v))), some (.int (mn)), some (.ref rq), some (.ref ra), some (.ref rn), some (.ref rt), some (.ref rp), none, none]) (by decide +kernel) rfl rfl (fun X hX C hR => ?_)
  subst hX
  obtain ⟨-, -, -, -, -, hR0⟩ := id h
  have hK := sp_B_K h
  obtain ⟨⟨kd_rq, il_rq⟩, ⟨kd_ra, il_ra⟩, ⟨kd_rn, il_rn⟩, ⟨kd_rt, il_rt⟩, ⟨kd_rp, il_rp⟩, hq, hs, hp⟩ := id h
  obtain ⟨h9, hn8⟩ := id hI.1
  obtain ⟨h10, hN28⟩ := id hI.2.1
  have hq9 : sj_ia S rq 9 = nI (sj_tn (m 9)) := (hq 9 (by omega)).trans h9
  have hq10 : sj_ia S rq 10 = nI (sj_tn (m 10)) := (hq 10 (by omega)).trans h10
  refine sj_iload_n C 1 rfl dL_due_0 rfl rfl ?_
  refine sj_if_ne C 52 4 rfl rfl dL_due_1 (fun c_1 => ?_) (fun c_1 => absurd c_1 (by decide))
  refine sj_iload_n C 53 rfl dL_due_52 rfl rfl ?_
  refine sj_iconstv C (4) 54 rfl dL_due_53 rfl ?_
  refine sj_icmp_ne C 133 57 rfl rfl dL_due_54 (fun c_54 => ?_) (fun c_54 => absurd c_54 (by decide))
  refine sj_iload_n C 134 rfl dL_due_133 rfl rfl ?_
  refine sj_iconstv C (5) 135 rfl dL_due_134 rfl ?_
  refine sj_icmp_ne C 152 138 rfl rfl dL_due_135 (fun c_135 => ?_) (fun c_135 => absurd c_135 (by decide))
  refine sj_iload_n C 153 rfl dL_due_152 rfl rfl ?_
  refine sj_aload C 155 rfl dL_due_153 rfl ?_
  refine sj_bipush C (9) 157 rfl dL_due_155 (by decide) ?_
  refine sj_iald C 158 rfl dL_due_157 kd_rq (sp_vp (i := 9) il_rq (by omega) (by omega)) ?_
  rw [show Int32.toNatClampNeg 9 = 9 from rfl]
  rw [hq9]
  refine sj_icmp_ge C 175 161 rfl rfl dL_due_158 (fun c_158 => ?_) (fun c_158 => ?_)
  · refine sj_bipush C (-101) 177 rfl dL_due_175 (by decide) ?_
    refine sj_iret C hR rfl rfl dL_due_177 ?_
    exact ⟨rfl, rfl⟩
  · refine sj_iload_n C 162 rfl dL_due_161 rfl rfl ?_
    refine sj_iconstv C (4) 163 rfl dL_due_162 rfl ?_
    refine sj_icmp_ge C 178 166 rfl rfl dL_due_163 (fun c_163 => absurd c_163 (by decide)) (fun c_163 => ?_)
    refine sj_iload_n C 167 rfl dL_due_166 rfl rfl ?_
    refine sj_aload C 169 rfl dL_due_167 rfl ?_
    refine sj_bipush C (9) 171 rfl dL_due_169 (by decide) ?_
    refine sj_iald C 172 rfl dL_due_171 kd_rq (sp_vp (i := 9) il_rq (by omega) (by omega)) ?_
    rw [show Int32.toNatClampNeg 9 = 9 from rfl]
    rw [hq9]
    refine sj_icmp_lt C 178 175 rfl rfl dL_due_172 (fun c_172 => absurd c_172 (nI_nlt (hx.resolve_left (fun h1 => c_158 (nI_le h1 (by omega)))) (by omega))) (fun c_172 => ?_)
    refine sj_bipush C (-101) 177 rfl dL_due_175 (by decide) ?_
    refine sj_iret C hR rfl rfl dL_due_177 ?_
    exact ⟨rfl, rfl⟩
set_option maxRecDepth 100000 in
set_option maxHeartbeats 600000 in
theorem ct_L_due_1r (l : Launch) {S : sj_St} {rq ra rn rt rp : Nat} {m : Nat → Int32} (h : sp_B S rq ra rn rt rp m) (hI : sj_inv m) (hne : sp_ne rq ra rn rt rp) {u v : Nat} (mn : Int32) (huc : sj_uc m) (hu : u < sj_tn (m 9)) (hv : v < sj_tn (m 9)) (hw : ¬ sj_why m u v true = 0) : sj_Ctr l mL_due [.int (1), .int (nI (u)), .int (nI (v)), .int (mn), .ref rq, .ref ra, .ref rn, .ref rt, .ref rp] S (sj_eq (some (.int (-103))) S) := by
  refine sj_start ([some (.int (1)), some (.int (nI (u))), some (.int (nI (v))), some (.int (mn)), some (.ref rq), some (.ref ra), some (.ref rn), some (.ref rt), some (.ref rp), none, none]) (by decide +kernel) rfl rfl (fun X hX C hR => ?_)
  subst hX
  obtain ⟨-, -, -, -, -, hR0⟩ := id h
  have hK := sp_B_K h
  obtain ⟨⟨kd_rq, il_rq⟩, ⟨kd_ra, il_ra⟩, ⟨kd_rn, il_rn⟩, ⟨kd_rt, il_rt⟩, ⟨kd_rp, il_rp⟩, hq, hs, hp⟩ := id h
  obtain ⟨h9, hn8⟩ := id hI.1
  obtain ⟨h10, hN28⟩ := id hI.2.1
  have hq9 : sj_ia S rq 9 = nI (sj_tn (m 9)) := (hq 9 (by omega)).trans h9
  have hq10 : sj_ia S rq 10 = nI (sj_tn (m 10)) := (hq 10 (by omega)).trans h10
  refine sj_iload_n C 1 rfl dL_due_0 rfl rfl ?_
  refine sj_if_ne C 52 4 rfl rfl dL_due_1 (fun c_1 => ?_) (fun c_1 => absurd c_1 (by decide))
  refine sj_iload_n C 53 rfl dL_due_52 rfl rfl ?_
  refine sj_iconstv C (4) 54 rfl dL_due_53 rfl ?_
  refine sj_icmp_ne C 133 57 rfl rfl dL_due_54 (fun c_54 => ?_) (fun c_54 => absurd c_54 (by decide))
  refine sj_iload_n C 134 rfl dL_due_133 rfl rfl ?_
  refine sj_iconstv C (5) 135 rfl dL_due_134 rfl ?_
  refine sj_icmp_ne C 152 138 rfl rfl dL_due_135 (fun c_135 => ?_) (fun c_135 => absurd c_135 (by decide))
  refine sj_iload_n C 153 rfl dL_due_152 rfl rfl ?_
  refine sj_aload C 155 rfl dL_due_153 rfl ?_
  refine sj_bipush C (9) 157 rfl dL_due_155 (by decide) ?_
  refine sj_iald C 158 rfl dL_due_157 kd_rq (sp_vp (i := 9) il_rq (by omega) (by omega)) ?_
  rw [show Int32.toNatClampNeg 9 = 9 from rfl]
  rw [hq9]
  refine sj_icmp_ge C 175 161 rfl rfl dL_due_158 (fun c_158 => absurd c_158 (nI_ge hu (by omega))) (fun c_158 => ?_)
  refine sj_iload_n C 162 rfl dL_due_161 rfl rfl ?_
  refine sj_iconstv C (4) 163 rfl dL_due_162 rfl ?_
  refine sj_icmp_ge C 178 166 rfl rfl dL_due_163 (fun c_163 => absurd c_163 (by decide)) (fun c_163 => ?_)
  refine sj_iload_n C 167 rfl dL_due_166 rfl rfl ?_
  refine sj_aload C 169 rfl dL_due_167 rfl ?_
  refine sj_bipush C (9) 171 rfl dL_due_169 (by decide) ?_
  refine sj_iald C 172 rfl dL_due_171 kd_rq (sp_vp (i := 9) il_rq (by omega) (by omega)) ?_
  rw [show Int32.toNatClampNeg 9 = 9 from rfl]
  rw [hq9]
  refine sj_icmp_lt C 178 175 rfl rfl dL_due_172 (fun c_172 => ?_) (fun c_172 => absurd (nI_lt hv (by omega)) c_172)
  refine sj_iload_n C 179 rfl dL_due_178 rfl rfl ?_
  refine sj_bipush C (6) 181 rfl dL_due_179 (by decide) ?_
  refine sj_icmp_ne C 199 184 rfl rfl dL_due_181 (fun c_181 => ?_) (fun c_181 => absurd c_181 (by decide))
  refine sj_iload_n C 200 rfl dL_due_199 rfl rfl ?_
  refine sj_iconstv C (3) 201 rfl dL_due_200 rfl ?_
  refine sj_icmp_ne C 240 204 rfl rfl dL_due_201 (fun c_201 => ?_) (fun c_201 => absurd c_201 (by decide))
  refine sj_iload_n C 241 rfl dL_due_240 rfl rfl ?_
  refine sj_iload_n C 242 rfl dL_due_241 rfl rfl ?_
  refine sj_iload_n C 243 rfl dL_due_242 rfl rfl ?_
  refine sj_iconstv C (1) 244 rfl dL_due_243 rfl ?_
  refine sj_icmp_ne C 251 247 rfl rfl dL_due_244 (fun c_244 => absurd c_244 (by decide)) (fun c_244 => ?_)
  refine sj_iconstv C (1) 248 rfl dL_due_247 rfl ?_
  refine sj_goto C 252 rfl dL_due_248 ?_
  refine sj_aload C 254 rfl dL_due_252 rfl ?_
  refine sj_aload C 256 rfl dL_due_254 rfl ?_
  refine sj_aload C 258 rfl dL_due_256 rfl ?_
  refine sj_aload C 260 rfl dL_due_258 rfl ?_
  refine sj_aload C 262 rfl dL_due_260 rfl ?_
  refine sj_callSd C 265 rfl dL_due_262 cv_L_156 rfl (ct_L_why _ h hI huc hu hv true) rfl rfl rfl ⟨rfl, rfl⟩ ?_
  refine sj_if_le C 271 268 rfl rfl dL_due_265 (fun c_265 => absurd (sp_why_le.mp c_265) hw) (fun c_265 => ?_)
  refine sj_bipush C (-103) 270 rfl dL_due_268 (by decide) ?_
  refine sj_iret C hR rfl rfl dL_due_270 ?_
  exact ⟨rfl, rfl⟩
set_option maxRecDepth 100000 in
set_option maxHeartbeats 600000 in
theorem ct_L_due_1 (l : Launch) {S : sj_St} {rq ra rn rt rp : Nat} {m : Nat → Int32} (h : sp_B S rq ra rn rt rp m) (hI : sj_inv m) (hne : sp_ne rq ra rn rt rp) {u v : Nat} (mn : Int32) (huc : sj_uc m) (hu : u < sj_tn (m 9)) (hv : v < sj_tn (m 9)) (hw : sj_why m u v true = 0) : sj_Ctr l mL_due [.int (1), .int (nI (u)), .int (nI (v)), .int (mn), .ref rq, .ref ra, .ref rn, .ref rt, .ref rp] S (fun r U => r = some (.int (sj_hds (sj_sw m u v true))) ∧ ∃ Q A N T P, U = sp_w S rq ra rn rt rp Q A N T P ∧ sp_R Q A N T P (sj_sw m u v true)) := by
  refine sj_start ([some (.int (1)), some (.int (nI (u))), some (.int (nI (v))), some (.int (mn)), some (.ref rq), some (.ref ra), some (.ref rn), some (.ref rt), some (.ref rp), none, none]) (by decide +kernel) rfl rfl (fun X hX C hR => ?_)
  subst hX
  obtain ⟨-, -, -, -, -, hR0⟩ := id h
  have hK := sp_B_K h
  obtain ⟨⟨kd_rq, il_rq⟩, ⟨kd_ra, il_ra⟩, ⟨kd_rn, il_rn⟩, ⟨kd_rt, il_rt⟩, ⟨kd_rp, il_rp⟩, hq, hs, hp⟩ := id h
  obtain ⟨h9, hn8⟩ := id hI.1
  obtain ⟨h10, hN28⟩ := id hI.2.1
  have hq9 : sj_ia S rq 9 = nI (sj_tn (m 9)) := (hq 9 (by omega)).trans h9
  have hq10 : sj_ia S rq 10 = nI (sj_tn (m 10)) := (hq 10 (by omega)).trans h10
  refine sj_iload_n C 1 rfl dL_due_0 rfl rfl ?_
  refine sj_if_ne C 52 4 rfl rfl dL_due_1 (fun c_1 => ?_) (fun c_1 => absurd c_1 (by decide))
  refine sj_iload_n C 53 rfl dL_due_52 rfl rfl ?_
  refine sj_iconstv C (4) 54 rfl dL_due_53 rfl ?_
  refine sj_icmp_ne C 133 57 rfl rfl dL_due_54 (fun c_54 => ?_) (fun c_54 => absurd c_54 (by decide))
  refine sj_iload_n C 134 rfl dL_due_133 rfl rfl ?_
  refine sj_iconstv C (5) 135 rfl dL_due_134 rfl ?_
  refine sj_icmp_ne C 152 138 rfl rfl dL_due_135 (fun c_135 => ?_) (fun c_135 => absurd c_135 (by decide))
  refine sj_iload_n C 153 rfl dL_due_152 rfl rfl ?_
  refine sj_aload C 155 rfl dL_due_153 rfl ?_
  refine sj_bipush C (9) 157 rfl dL_due_155 (by decide) ?_
  refine sj_iald C 158 rfl dL_due_157 kd_rq (sp_vp (i := 9) il_rq (by omega) (by omega)) ?_
  rw [show Int32.toNatClampNeg 9 = 9 from rfl]
  rw [hq9]
  refine sj_icmp_ge C 175 161 rfl rfl dL_due_158 (fun c_158 => absurd c_158 (nI_ge hu (by omega))) (fun c_158 => ?_)
  refine sj_iload_n C 162 rfl dL_due_161 rfl rfl ?_
  refine sj_iconstv C (4) 163 rfl dL_due_162 rfl ?_
  refine sj_icmp_ge C 178 166 rfl rfl dL_due_163 (fun c_163 => absurd c_163 (by decide)) (fun c_163 => ?_)
  refine sj_iload_n C 167 rfl dL_due_166 rfl rfl ?_
  refine sj_aload C 169 rfl dL_due_167 rfl ?_
  refine sj_bipush C (9) 171 rfl dL_due_169 (by decide) ?_
  refine sj_iald C 172 rfl dL_due_171 kd_rq (sp_vp (i := 9) il_rq (by omega) (by omega)) ?_
  rw [show Int32.toNatClampNeg 9 = 9 from rfl]
  rw [hq9]
  refine sj_icmp_lt C 178 175 rfl rfl dL_due_172 (fun c_172 => ?_) (fun c_172 => absurd (nI_lt hv (by omega)) c_172)
  refine sj_iload_n C 179 rfl dL_due_178 rfl rfl ?_
  refine sj_bipush C (6) 181 rfl dL_due_179 (by decide) ?_
  refine sj_icmp_ne C 199 184 rfl rfl dL_due_181 (fun c_181 => ?_) (fun c_181 => absurd c_181 (by decide))
  refine sj_iload_n C 200 rfl dL_due_199 rfl rfl ?_
  refine sj_iconstv C (3) 201 rfl dL_due_200 rfl ?_
  refine sj_icmp_ne C 240 204 rfl rfl dL_due_201 (fun c_201 => ?_) (fun c_201 => absurd c_201 (by decide))
  refine sj_iload_n C 241 rfl dL_due_240 rfl rfl ?_
  refine sj_iload_n C 242 rfl dL_due_241 rfl rfl ?_
  refine sj_iload_n C 243 rfl dL_due_242 rfl rfl ?_
  refine sj_iconstv C (1) 244 rfl dL_due_243 rfl ?_
  refine sj_icmp_ne C 251 247 rfl rfl dL_due_244 (fun c_244 => absurd c_244 (by decide)) (fun c_244 => ?_)
  refine sj_iconstv C (1) 248 rfl dL_due_247 rfl ?_
  refine sj_goto C 252 rfl dL_due_248 ?_
  refine sj_aload C 254 rfl dL_due_252 rfl ?_
  refine sj_aload C 256 rfl dL_due_254 rfl ?_
  refine sj_aload C 258 rfl dL_due_256 rfl ?_
  refine sj_aload C 260 rfl dL_due_258 rfl ?_
  refine sj_aload C 262 rfl dL_due_260 rfl ?_
  refine sj_callSd C 265 rfl dL_due_262 cv_L_156 rfl (ct_L_why _ h hI huc hu hv true) rfl rfl rfl ⟨rfl, rfl⟩ ?_
  refine sj_if_le C 271 268 rfl rfl dL_due_265 (fun c_265 => ?_) (fun c_265 => absurd (sp_why_le.mpr hw) c_265)
  rw [← sp_w_id (S := S) hne]
  refine sj_aload C 273 rfl dL_due_271 rfl ?_
  refine sj_aload C 275 rfl dL_due_273 rfl ?_
  refine sj_bipush C (10) 277 rfl dL_due_275 (by decide) ?_
  refine sj_iald C 278 rfl dL_due_277 kd_rq (sp_vp (i := 10) il_rq (by omega) (by omega)) ?_
  rw [show Int32.toNatClampNeg 10 = 10 from rfl]
  rw [sp_w_q hne]
  rw [hq10]
  refine sj_iload_n C 279 rfl dL_due_278 rfl rfl ?_
  refine sj_bipush C (16) 281 rfl dL_due_279 (by decide) ?_
  refine sj_iload_n C 282 rfl dL_due_281 rfl rfl ?_
  refine sj_imul C 283 rfl dL_due_282 ?_
  rw [show 16 * nI (v) = nI (16 * v) from sj_nmul 16 v]
  refine sj_iadd C 284 rfl dL_due_283 ?_
  rw [show nI (u) + nI (16 * v) = nI (u + (16 * v)) from nI_add u (16 * v)]
  refine sj_iload_n C 285 rfl dL_due_284 rfl rfl ?_
  refine sj_iconstv C (1) 286 rfl dL_due_285 rfl ?_
  refine sj_icmp_ne C 295 289 rfl rfl dL_due_286 (fun c_286 => absurd c_286 (by decide)) (fun c_286 => ?_)
  refine sj_sipush C (256) 292 rfl dL_due_289 (by decide) ?_
  refine sj_goto C 296 rfl dL_due_292 ?_
  refine sj_iadd C 297 rfl dL_due_296 ?_
  rw [show nI (u + (16 * v)) + 256 = nI ((u + (16 * v)) + 256) from nI_add (u + (16 * v)) 256]
  refine sj_iast C 298 rfl dL_due_297 kd_rp (sp_vp il_rp (by omega) (by omega)) ?_
  rw [nI_clamp (by omega)]
  rw [sp_w_wp hne]
  refine sj_aload C 300 rfl dL_due_298 rfl ?_
  refine sj_bipush C (10) 302 rfl dL_due_300 (by decide) ?_
  refine sj_dup2 C 303 rfl dL_due_302 rfl rfl ?_
  refine sj_iald C 304 rfl dL_due_303 kd_rq (sp_vp (i := 10) il_rq (by omega) (by omega)) ?_
  rw [show Int32.toNatClampNeg 10 = 10 from rfl]
  rw [sp_w_q hne]
  rw [hq10]
  refine sj_iconstv C (1) 305 rfl dL_due_304 rfl ?_
  refine sj_iadd C 306 rfl dL_due_305 ?_
  rw [show nI (sj_tn (m 10)) + 1 = nI ((sj_tn (m 10)) + 1) from nI_add (sj_tn (m 10)) 1]
  refine sj_iast C 307 rfl dL_due_306 kd_rq (sp_vp (i := 10) il_rq (by omega) (by omega)) ?_
  rw [show Int32.toNatClampNeg 10 = 10 from rfl]
  rw [sp_w_wq hne]
  refine sj_aload C 309 rfl dL_due_307 rfl ?_
  refine sj_bipush C (11) 311 rfl dL_due_309 (by decide) ?_
  refine sj_dup2 C 312 rfl dL_due_311 rfl rfl ?_
  refine sj_iald C 313 rfl dL_due_312 kd_rq (sp_vp (i := 11) il_rq (by omega) (by omega)) ?_
  rw [show Int32.toNatClampNeg 11 = 11 from rfl]
  rw [sp_w_q hne]
  rw [sj_upd_ne _ _ (show (11 : Nat) ≠ 10 by decide), hq 11 (by omega)]
  refine sj_iconstv C (1) 314 rfl dL_due_313 rfl ?_
  refine sj_iadd C 315 rfl dL_due_314 ?_
  refine sj_iast C 316 rfl dL_due_315 kd_rq (sp_vp (i := 11) il_rq (by omega) (by omega)) ?_
  rw [show Int32.toNatClampNeg 11 = 11 from rfl]
  rw [sp_w_wq hne]
  have hR9 : sp_R (upd (upd (sj_ia S rq) (10) (nI ((sj_tn (m 10)) + 1))) (11) ((m 11) + 1)) (sj_ia S ra) (sj_ia S rn) (sj_ia S rt) (upd (sj_ia S rp) (sj_tn (m 10)) (nI ((u + (16 * v)) + 256))) (sj_sw m u v true) := sp_R_sw hI hR0 (by omega) (by omega) true (sj_sw_28 hI hu hv hw) (by rw [← nI_1]; rw [← h10]) rfl (by rw [show 256 * sj_tn (sj_bi true) = 256 from by decide])
  refine sj_aload C 318 rfl dL_due_316 rfl ?_
  refine sj_aload C 320 rfl dL_due_318 rfl ?_
  refine sj_callSd C 323 rfl dL_due_320 cv_L_160 rfl (ct_L_hands _ (sp_B_of hK hne hR9) (sj_inv_sw hI hu hv hw)) rfl rfl rfl ⟨rfl, rfl⟩ ?_
  refine sj_iret C hR rfl rfl dL_due_323 ?_
  exact ⟨rfl, _, _, _, _, _, rfl, hR9⟩
set_option maxRecDepth 100000 in
set_option maxHeartbeats 600000 in
theorem ct_L_due_2x (l : Launch) {S : sj_St} {rq ra rn rt rp : Nat} {m : Nat → Int32} (h : sp_B S rq ra rn rt rp m) (hI : sj_inv m) (hne : sp_ne rq ra rn rt rp) {u v : Nat} (mn : Int32) (hx : sj_tn (m 9) ≤ u ∨ sj_tn (m 9) ≤ v) (hu9 : u < 9) (hv9 : v < 9) : sj_Ctr l mL_due [.int (2), .int (nI (u)), .int (nI (v)), .int (mn), .ref rq, .ref ra, .ref rn, .ref rt, .ref rp] S (sj_eq (some (.int (-101))) S) := by
  refine sj_start ([some (.int (2)), some (.int (nI (u))), some (.int (nI (v))), some (.int (mn)), some (.ref rq), some (.ref ra), some (.ref rn), some (.ref rt), some (.ref rp), none, none]) (by decide +kernel) rfl rfl (fun X hX C hR => ?_)
  subst hX
  obtain ⟨-, -, -, -, -, hR0⟩ := id h
  have hK := sp_B_K h
  obtain ⟨⟨kd_rq, il_rq⟩, ⟨kd_ra, il_ra⟩, ⟨kd_rn, il_rn⟩, ⟨kd_rt, il_rt⟩, ⟨kd_rp, il_rp⟩, hq, hs, hp⟩ := id h
  obtain ⟨h9, hn8⟩ := id hI.1
  obtain ⟨h10, hN28⟩ := id hI.2.1
  have hq9 : sj_ia S rq 9 = nI (sj_tn (m 9)) := (hq 9 (by omega)).trans h9
  have hq10 : sj_ia S rq 10 = nI (sj_tn (m 10)) := (hq 10 (by omega)).trans h10
  refine sj_iload_n C 1 rfl dL_due_0 rfl rfl ?_
  refine sj_if_ne C 52 4 rfl rfl dL_due_1 (fun c_1 => ?_) (fun c_1 => absurd c_1 (by decide))
  refine sj_iload_n C 53 rfl dL_due_52 rfl rfl ?_
  refine sj_iconstv C (4) 54 rfl dL_due_53 rfl ?_
  refine sj_icmp_ne C 133 57 rfl rfl dL_due_54 (fun c_54 => ?_) (fun c_54 => absurd c_54 (by decide))
  refine sj_iload_n C 134 rfl dL_due_133 rfl rfl ?_
  refine sj_iconstv C (5) 135 rfl dL_due_134 rfl ?_
  refine sj_icmp_ne C 152 138 rfl rfl dL_due_135 (fun c_135 => ?_) (fun c_135 => absurd c_135 (by decide))
  refine sj_iload_n C 153 rfl dL_due_152 rfl rfl ?_
  refine sj_aload C 155 rfl dL_due_153 rfl ?_
  refine sj_bipush C (9) 157 rfl dL_due_155 (by decide) ?_
  refine sj_iald C 158 rfl dL_due_157 kd_rq (sp_vp (i := 9) il_rq (by omega) (by omega)) ?_
  rw [show Int32.toNatClampNeg 9 = 9 from rfl]
  rw [hq9]
  refine sj_icmp_ge C 175 161 rfl rfl dL_due_158 (fun c_158 => ?_) (fun c_158 => ?_)
  · refine sj_bipush C (-101) 177 rfl dL_due_175 (by decide) ?_
    refine sj_iret C hR rfl rfl dL_due_177 ?_
    exact ⟨rfl, rfl⟩
  · refine sj_iload_n C 162 rfl dL_due_161 rfl rfl ?_
    refine sj_iconstv C (4) 163 rfl dL_due_162 rfl ?_
    refine sj_icmp_ge C 178 166 rfl rfl dL_due_163 (fun c_163 => absurd c_163 (by decide)) (fun c_163 => ?_)
    refine sj_iload_n C 167 rfl dL_due_166 rfl rfl ?_
    refine sj_aload C 169 rfl dL_due_167 rfl ?_
    refine sj_bipush C (9) 171 rfl dL_due_169 (by decide) ?_
    refine sj_iald C 172 rfl dL_due_171 kd_rq (sp_vp (i := 9) il_rq (by omega) (by omega)) ?_
    rw [show Int32.toNatClampNeg 9 = 9 from rfl]
    rw [hq9]
    refine sj_icmp_lt C 178 175 rfl rfl dL_due_172 (fun c_172 => absurd c_172 (nI_nlt (hx.resolve_left (fun h1 => c_158 (nI_le h1 (by omega)))) (by omega))) (fun c_172 => ?_)
    refine sj_bipush C (-101) 177 rfl dL_due_175 (by decide) ?_
    refine sj_iret C hR rfl rfl dL_due_177 ?_
    exact ⟨rfl, rfl⟩
set_option maxRecDepth 100000 in
set_option maxHeartbeats 600000 in
theorem ct_L_due_2r (l : Launch) {S : sj_St} {rq ra rn rt rp : Nat} {m : Nat → Int32} (h : sp_B S rq ra rn rt rp m) (hI : sj_inv m) (hne : sp_ne rq ra rn rt rp) {u v : Nat} (mn : Int32) (huc : sj_uc m) (hu : u < sj_tn (m 9)) (hv : v < sj_tn (m 9)) (hw : ¬ sj_why m u v false = 0) : sj_Ctr l mL_due [.int (2), .int (nI (u)), .int (nI (v)), .int (mn), .ref rq, .ref ra, .ref rn, .ref rt, .ref rp] S (sj_eq (some (.int (-103))) S) := by
  refine sj_start ([some (.int (2)), some (.int (nI (u))), some (.int (nI (v))), some (.int (mn)), some (.ref rq), some (.ref ra), some (.ref rn), some (.ref rt), some (.ref rp), none, none]) (by decide +kernel) rfl rfl (fun X hX C hR => ?_)
  subst hX
  obtain ⟨-, -, -, -, -, hR0⟩ := id h
  have hK := sp_B_K h
  obtain ⟨⟨kd_rq, il_rq⟩, ⟨kd_ra, il_ra⟩, ⟨kd_rn, il_rn⟩, ⟨kd_rt, il_rt⟩, ⟨kd_rp, il_rp⟩, hq, hs, hp⟩ := id h
  obtain ⟨h9, hn8⟩ := id hI.1
  obtain ⟨h10, hN28⟩ := id hI.2.1
  have hq9 : sj_ia S rq 9 = nI (sj_tn (m 9)) := (hq 9 (by omega)).trans h9
  have hq10 : sj_ia S rq 10 = nI (sj_tn (m 10)) := (hq 10 (by omega)).trans h10
  refine sj_iload_n C 1 rfl dL_due_0 rfl rfl ?_
  refine sj_if_ne C 52 4 rfl rfl dL_due_1 (fun c_1 => ?_) (fun c_1 => absurd c_1 (by decide))
  refine sj_iload_n C 53 rfl dL_due_52 rfl rfl ?_
  refine sj_iconstv C (4) 54 rfl dL_due_53 rfl ?_
  refine sj_icmp_ne C 133 57 rfl rfl dL_due_54 (fun c_54 => ?_) (fun c_54 => absurd c_54 (by decide))
  refine sj_iload_n C 134 rfl dL_due_133 rfl rfl ?_
  refine sj_iconstv C (5) 135 rfl dL_due_134 rfl ?_
  refine sj_icmp_ne C 152 138 rfl rfl dL_due_135 (fun c_135 => ?_) (fun c_135 => absurd c_135 (by decide))
  refine sj_iload_n C 153 rfl dL_due_152 rfl rfl ?_
  refine sj_aload C 155 rfl dL_due_153 rfl ?_
  refine sj_bipush C (9) 157 rfl dL_due_155 (by decide) ?_
  refine sj_iald C 158 rfl dL_due_157 kd_rq (sp_vp (i := 9) il_rq (by omega) (by omega)) ?_
  rw [show Int32.toNatClampNeg 9 = 9 from rfl]
  rw [hq9]
  refine sj_icmp_ge C 175 161 rfl rfl dL_due_158 (fun c_158 => absurd c_158 (nI_ge hu (by omega))) (fun c_158 => ?_)
  refine sj_iload_n C 162 rfl dL_due_161 rfl rfl ?_
  refine sj_iconstv C (4) 163 rfl dL_due_162 rfl ?_
  refine sj_icmp_ge C 178 166 rfl rfl dL_due_163 (fun c_163 => absurd c_163 (by decide)) (fun c_163 => ?_)
  refine sj_iload_n C 167 rfl dL_due_166 rfl rfl ?_
  refine sj_aload C 169 rfl dL_due_167 rfl ?_
  refine sj_bipush C (9) 171 rfl dL_due_169 (by decide) ?_
  refine sj_iald C 172 rfl dL_due_171 kd_rq (sp_vp (i := 9) il_rq (by omega) (by omega)) ?_
  rw [show Int32.toNatClampNeg 9 = 9 from rfl]
  rw [hq9]
  refine sj_icmp_lt C 178 175 rfl rfl dL_due_172 (fun c_172 => ?_) (fun c_172 => absurd (nI_lt hv (by omega)) c_172)
  refine sj_iload_n C 179 rfl dL_due_178 rfl rfl ?_
  refine sj_bipush C (6) 181 rfl dL_due_179 (by decide) ?_
  refine sj_icmp_ne C 199 184 rfl rfl dL_due_181 (fun c_181 => ?_) (fun c_181 => absurd c_181 (by decide))
  refine sj_iload_n C 200 rfl dL_due_199 rfl rfl ?_
  refine sj_iconstv C (3) 201 rfl dL_due_200 rfl ?_
  refine sj_icmp_ne C 240 204 rfl rfl dL_due_201 (fun c_201 => ?_) (fun c_201 => absurd c_201 (by decide))
  refine sj_iload_n C 241 rfl dL_due_240 rfl rfl ?_
  refine sj_iload_n C 242 rfl dL_due_241 rfl rfl ?_
  refine sj_iload_n C 243 rfl dL_due_242 rfl rfl ?_
  refine sj_iconstv C (1) 244 rfl dL_due_243 rfl ?_
  refine sj_icmp_ne C 251 247 rfl rfl dL_due_244 (fun c_244 => ?_) (fun c_244 => absurd c_244 (by decide))
  refine sj_iconstv C (0) 252 rfl dL_due_251 rfl ?_
  refine sj_aload C 254 rfl dL_due_252 rfl ?_
  refine sj_aload C 256 rfl dL_due_254 rfl ?_
  refine sj_aload C 258 rfl dL_due_256 rfl ?_
  refine sj_aload C 260 rfl dL_due_258 rfl ?_
  refine sj_aload C 262 rfl dL_due_260 rfl ?_
  refine sj_callSd C 265 rfl dL_due_262 cv_L_156 rfl (ct_L_why _ h hI huc hu hv false) rfl rfl rfl ⟨rfl, rfl⟩ ?_
  refine sj_if_le C 271 268 rfl rfl dL_due_265 (fun c_265 => absurd (sp_why_le.mp c_265) hw) (fun c_265 => ?_)
  refine sj_bipush C (-103) 270 rfl dL_due_268 (by decide) ?_
  refine sj_iret C hR rfl rfl dL_due_270 ?_
  exact ⟨rfl, rfl⟩
set_option maxRecDepth 100000 in
set_option maxHeartbeats 600000 in
theorem ct_L_due_2 (l : Launch) {S : sj_St} {rq ra rn rt rp : Nat} {m : Nat → Int32} (h : sp_B S rq ra rn rt rp m) (hI : sj_inv m) (hne : sp_ne rq ra rn rt rp) {u v : Nat} (mn : Int32) (huc : sj_uc m) (hu : u < sj_tn (m 9)) (hv : v < sj_tn (m 9)) (hw : sj_why m u v false = 0) : sj_Ctr l mL_due [.int (2), .int (nI (u)), .int (nI (v)), .int (mn), .ref rq, .ref ra, .ref rn, .ref rt, .ref rp] S (fun r U => r = some (.int (sj_hds (sj_sw m u v false))) ∧ ∃ Q A N T P, U = sp_w S rq ra rn rt rp Q A N T P ∧ sp_R Q A N T P (sj_sw m u v false)) := by
  refine sj_start ([some (.int (2)), some (.int (nI (u))), some (.int (nI (v))), some (.int (mn)), some (.ref rq), some (.ref ra), some (.ref rn), some (.ref rt), some (.ref rp), none, none]) (by decide +kernel) rfl rfl (fun X hX C hR => ?_)
  subst hX
  obtain ⟨-, -, -, -, -, hR0⟩ := id h
  have hK := sp_B_K h
  obtain ⟨⟨kd_rq, il_rq⟩, ⟨kd_ra, il_ra⟩, ⟨kd_rn, il_rn⟩, ⟨kd_rt, il_rt⟩, ⟨kd_rp, il_rp⟩, hq, hs, hp⟩ := id h
  obtain ⟨h9, hn8⟩ := id hI.1
  obtain ⟨h10, hN28⟩ := id hI.2.1
  have hq9 : sj_ia S rq 9 = nI (sj_tn (m 9)) := (hq 9 (by omega)).trans h9
  have hq10 : sj_ia S rq 10 = nI (sj_tn (m 10)) := (hq 10 (by omega)).trans h10
  refine sj_iload_n C 1 rfl dL_due_0 rfl rfl ?_
  refine sj_if_ne C 52 4 rfl rfl dL_due_1 (fun c_1 => ?_) (fun c_1 => absurd c_1 (by decide))
  refine sj_iload_n C 53 rfl dL_due_52 rfl rfl ?_
  refine sj_iconstv C (4) 54 rfl dL_due_53 rfl ?_
  refine sj_icmp_ne C 133 57 rfl rfl dL_due_54 (fun c_54 => ?_) (fun c_54 => absurd c_54 (by decide))
  refine sj_iload_n C 134 rfl dL_due_133 rfl rfl ?_
  refine sj_iconstv C (5) 135 rfl dL_due_134 rfl ?_
  refine sj_icmp_ne C 152 138 rfl rfl dL_due_135 (fun c_135 => ?_) (fun c_135 => absurd c_135 (by decide))
  refine sj_iload_n C 153 rfl dL_due_152 rfl rfl ?_
  refine sj_aload C 155 rfl dL_due_153 rfl ?_
  refine sj_bipush C (9) 157 rfl dL_due_155 (by decide) ?_
  refine sj_iald C 158 rfl dL_due_157 kd_rq (sp_vp (i := 9) il_rq (by omega) (by omega)) ?_
  rw [show Int32.toNatClampNeg 9 = 9 from rfl]
  rw [hq9]
  refine sj_icmp_ge C 175 161 rfl rfl dL_due_158 (fun c_158 => absurd c_158 (nI_ge hu (by omega))) (fun c_158 => ?_)
  refine sj_iload_n C 162 rfl dL_due_161 rfl rfl ?_
  refine sj_iconstv C (4) 163 rfl dL_due_162 rfl ?_
  refine sj_icmp_ge C 178 166 rfl rfl dL_due_163 (fun c_163 => absurd c_163 (by decide)) (fun c_163 => ?_)
  refine sj_iload_n C 167 rfl dL_due_166 rfl rfl ?_
  refine sj_aload C 169 rfl dL_due_167 rfl ?_
  refine sj_bipush C (9) 171 rfl dL_due_169 (by decide) ?_
  refine sj_iald C 172 rfl dL_due_171 kd_rq (sp_vp (i := 9) il_rq (by omega) (by omega)) ?_
  rw [show Int32.toNatClampNeg 9 = 9 from rfl]
  rw [hq9]
  refine sj_icmp_lt C 178 175 rfl rfl dL_due_172 (fun c_172 => ?_) (fun c_172 => absurd (nI_lt hv (by omega)) c_172)
  refine sj_iload_n C 179 rfl dL_due_178 rfl rfl ?_
  refine sj_bipush C (6) 181 rfl dL_due_179 (by decide) ?_
  refine sj_icmp_ne C 199 184 rfl rfl dL_due_181 (fun c_181 => ?_) (fun c_181 => absurd c_181 (by decide))
  refine sj_iload_n C 200 rfl dL_due_199 rfl rfl ?_
  refine sj_iconstv C (3) 201 rfl dL_due_200 rfl ?_
  refine sj_icmp_ne C 240 204 rfl rfl dL_due_201 (fun c_201 => ?_) (fun c_201 => absurd c_201 (by decide))
  refine sj_iload_n C 241 rfl dL_due_240 rfl rfl ?_
  refine sj_iload_n C 242 rfl dL_due_241 rfl rfl ?_
  refine sj_iload_n C 243 rfl dL_due_242 rfl rfl ?_
  refine sj_iconstv C (1) 244 rfl dL_due_243 rfl ?_
  refine sj_icmp_ne C 251 247 rfl rfl dL_due_244 (fun c_244 => ?_) (fun c_244 => absurd c_244 (by decide))
  refine sj_iconstv C (0) 252 rfl dL_due_251 rfl ?_
  refine sj_aload C 254 rfl dL_due_252 rfl ?_
  refine sj_aload C 256 rfl dL_due_254 rfl ?_
  refine sj_aload C 258 rfl dL_due_256 rfl ?_
  refine sj_aload C 260 rfl dL_due_258 rfl ?_
  refine sj_aload C 262 rfl dL_due_260 rfl ?_
  refine sj_callSd C 265 rfl dL_due_262 cv_L_156 rfl (ct_L_why _ h hI huc hu hv false) rfl rfl rfl ⟨rfl, rfl⟩ ?_
  refine sj_if_le C 271 268 rfl rfl dL_due_265 (fun c_265 => ?_) (fun c_265 => absurd (sp_why_le.mpr hw) c_265)
  rw [← sp_w_id (S := S) hne]
  refine sj_aload C 273 rfl dL_due_271 rfl ?_
  refine sj_aload C 275 rfl dL_due_273 rfl ?_
  refine sj_bipush C (10) 277 rfl dL_due_275 (by decide) ?_
  refine sj_iald C 278 rfl dL_due_277 kd_rq (sp_vp (i := 10) il_rq (by omega) (by omega)) ?_
  rw [show Int32.toNatClampNeg 10 = 10 from rfl]
  rw [sp_w_q hne]
  rw [hq10]
  refine sj_iload_n C 279 rfl dL_due_278 rfl rfl ?_
  refine sj_bipush C (16) 281 rfl dL_due_279 (by decide) ?_
  refine sj_iload_n C 282 rfl dL_due_281 rfl rfl ?_
  refine sj_imul C 283 rfl dL_due_282 ?_
  rw [show 16 * nI (v) = nI (16 * v) from sj_nmul 16 v]
  refine sj_iadd C 284 rfl dL_due_283 ?_
  rw [show nI (u) + nI (16 * v) = nI (u + (16 * v)) from nI_add u (16 * v)]
  refine sj_iload_n C 285 rfl dL_due_284 rfl rfl ?_
  refine sj_iconstv C (1) 286 rfl dL_due_285 rfl ?_
  refine sj_icmp_ne C 295 289 rfl rfl dL_due_286 (fun c_286 => ?_) (fun c_286 => absurd c_286 (by decide))
  refine sj_iconstv C (0) 296 rfl dL_due_295 rfl ?_
  refine sj_iadd C 297 rfl dL_due_296 ?_
  rw [show nI (u + (16 * v)) + 0 = nI ((u + (16 * v)) + 0) from nI_add (u + (16 * v)) 0]
  refine sj_iast C 298 rfl dL_due_297 kd_rp (sp_vp il_rp (by omega) (by omega)) ?_
  rw [nI_clamp (by omega)]
  rw [sp_w_wp hne]
  refine sj_aload C 300 rfl dL_due_298 rfl ?_
  refine sj_bipush C (10) 302 rfl dL_due_300 (by decide) ?_
  refine sj_dup2 C 303 rfl dL_due_302 rfl rfl ?_
  refine sj_iald C 304 rfl dL_due_303 kd_rq (sp_vp (i := 10) il_rq (by omega) (by omega)) ?_
  rw [show Int32.toNatClampNeg 10 = 10 from rfl]
  rw [sp_w_q hne]
  rw [hq10]
  refine sj_iconstv C (1) 305 rfl dL_due_304 rfl ?_
  refine sj_iadd C 306 rfl dL_due_305 ?_
  rw [show nI (sj_tn (m 10)) + 1 = nI ((sj_tn (m 10)) + 1) from nI_add (sj_tn (m 10)) 1]
  refine sj_iast C 307 rfl dL_due_306 kd_rq (sp_vp (i := 10) il_rq (by omega) (by omega)) ?_
  rw [show Int32.toNatClampNeg 10 = 10 from rfl]
  rw [sp_w_wq hne]
  refine sj_aload C 309 rfl dL_due_307 rfl ?_
  refine sj_bipush C (11) 311 rfl dL_due_309 (by decide) ?_
  refine sj_dup2 C 312 rfl dL_due_311 rfl rfl ?_
  refine sj_iald C 313 rfl dL_due_312 kd_rq (sp_vp (i := 11) il_rq (by omega) (by omega)) ?_
  rw [show Int32.toNatClampNeg 11 = 11 from rfl]
  rw [sp_w_q hne]
  rw [sj_upd_ne _ _ (show (11 : Nat) ≠ 10 by decide), hq 11 (by omega)]
  refine sj_iconstv C (1) 314 rfl dL_due_313 rfl ?_
  refine sj_iadd C 315 rfl dL_due_314 ?_
  refine sj_iast C 316 rfl dL_due_315 kd_rq (sp_vp (i := 11) il_rq (by omega) (by omega)) ?_
  rw [show Int32.toNatClampNeg 11 = 11 from rfl]
  rw [sp_w_wq hne]
  have hR9 : sp_R (upd (upd (sj_ia S rq) (10) (nI ((sj_tn (m 10)) + 1))) (11) ((m 11) + 1)) (sj_ia S ra) (sj_ia S rn) (sj_ia S rt) (upd (sj_ia S rp) (sj_tn (m 10)) (nI ((u + (16 * v)) + 0))) (sj_sw m u v false) := sp_R_sw hI hR0 (by omega) (by omega) false (sj_sw_28 hI hu hv hw) (by rw [← nI_1]; rw [← h10]) rfl (by rw [show 256 * sj_tn (sj_bi false) = 0 from by decide])
  refine sj_aload C 318 rfl dL_due_316 rfl ?_
  refine sj_aload C 320 rfl dL_due_318 rfl ?_
  refine sj_callSd C 323 rfl dL_due_320 cv_L_160 rfl (ct_L_hands _ (sp_B_of hK hne hR9) (sj_inv_sw hI hu hv hw)) rfl rfl rfl ⟨rfl, rfl⟩ ?_
  refine sj_iret C hR rfl rfl dL_due_323 ?_
  exact ⟨rfl, _, _, _, _, _, rfl, hR9⟩
