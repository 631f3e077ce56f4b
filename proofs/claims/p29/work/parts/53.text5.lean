/-! THE CLASS: its text -/
abbrev sq_Q : Type := Nat × Bool
def sq_xl (S : sj_St) (x : Nat) (e : Nat → Nat) (n : Nat) (B : Nat → Int32) : Prop := sj_kd S x = some 5 ∧ (sj_rf S x 0 = some (e 1) ∧ sj_rw S (e 1) (e 2) 60) ∧ (sj_rf S x 4 = some (e 3) ∧ sj_rw S (e 3) (e 4) 40) ∧ (sj_rf S x 6 = some (e 5) ∧ sj_rw S (e 5) (e 6) 60) ∧ (sj_rf S x 7 = some (e 7) ∧ sj_rw S (e 7) (e 8) 60) ∧ (sj_rf S x 8 = some (e 9) ∧ sj_rw S (e 9) (e 10) 60) ∧ (sj_fi S x 1 = nI n ∧ n ≤ 60 ∧ ∀ j, j < n → sj_ia S (e 2) j = B j) ∧ ∀ i j, i < 11 → j < 11 → e i = e j → i = j
theorem sq_xl_ne {S : sj_St} {x : Nat} {e : Nat → Nat} {n : Nat} {B : Nat → Int32} (h : sq_xl S x e n B) {i j : Nat} (hij : i ≠ j) (hi : i < 11 := by omega) (hj : j < 11 := by omega) : e i ≠ e j := fun g => hij (h.2.2.2.2.2.2.2 i j hi hj g)
def sq_xs (S : sj_St) (x : Nat) (e : Nat → Nat) (s : sq_Q) (k q : Nat) (fn fk ff fs : Nat → Int32) : sj_St := sj_sIa (sj_sIa (sj_sIa (sj_sIa (sj_wFi (sj_wFi (sj_wFi (sj_wFi S x 2 (nI s.1)) x 3 (sj_bi s.2)) x 5 (nI k)) x 9 (nI q)) (e 4) fn) (e 6) fk) (e 8) ff) (e 10) fs
section
variable {S : sj_St} {x : Nat} {e : Nat → Nat} {n : Nat} {B : Nat → Int32} {s : sq_Q} {k q : Nat} {fn fk ff fs : Nat → Int32}
theorem sq_x1 : sj_fi (sq_xs S x e s k q fn fk ff fs) x 1 = sj_fi S x 1 := (sj_fi_wFi_k _ _ _ (by omega)).trans ((sj_fi_wFi_k _ _ _ (by omega)).trans ((sj_fi_wFi_k _ _ _ (by omega)).trans (sj_fi_wFi_k _ _ _ (by omega))))
theorem sq_x2 : sj_fi (sq_xs S x e s k q fn fk ff fs) x 2 = nI s.1 := (sj_fi_wFi_k _ _ _ (by omega)).trans ((sj_fi_wFi_k _ _ _ (by omega)).trans ((sj_fi_wFi_k _ _ _ (by omega)).trans (sj_fi_wFi _ _ _ _)))
theorem sq_x3 : sj_fi (sq_xs S x e s k q fn fk ff fs) x 3 = sj_bi s.2 := (sj_fi_wFi_k _ _ _ (by omega)).trans ((sj_fi_wFi_k _ _ _ (by omega)).trans (sj_fi_wFi _ _ _ _))
theorem sq_x5 : sj_fi (sq_xs S x e s k q fn fk ff fs) x 5 = nI k := (sj_fi_wFi_k _ _ _ (by omega)).trans (sj_fi_wFi _ _ _ _)
theorem sq_x9 : sj_fi (sq_xs S x e s k q fn fk ff fs) x 9 = nI q := sj_fi_wFi _ _ _ _
theorem sq_a10 : sj_ia (sq_xs S x e s k q fn fk ff fs) (e 10) = fs := sj_ia_sIa _ _ _
theorem sq_a8 (h : sq_xl S x e n B) : sj_ia (sq_xs S x e s k q fn fk ff fs) (e 8) = ff := (sj_ia_sIa_ne _ _ (sq_xl_ne h (by omega))).trans (sj_ia_sIa _ _ _)
theorem sq_a6 (h : sq_xl S x e n B) : sj_ia (sq_xs S x e s k q fn fk ff fs) (e 6) = fk := (sj_ia_sIa_ne _ _ (sq_xl_ne h (by omega))).trans ((sj_ia_sIa_ne _ _ (sq_xl_ne h (by omega))).trans (sj_ia_sIa _ _ _))
theorem sq_a4 (h : sq_xl S x e n B) : sj_ia (sq_xs S x e s k q fn fk ff fs) (e 4) = fn := (sj_ia_sIa_ne _ _ (sq_xl_ne h (by omega))).trans ((sj_ia_sIa_ne _ _ (sq_xl_ne h (by omega))).trans ((sj_ia_sIa_ne _ _ (sq_xl_ne h (by omega))).trans (sj_ia_sIa _ _ _)))
theorem sq_a2 (h : sq_xl S x e n B) : sj_ia (sq_xs S x e s k q fn fk ff fs) (e 2) = sj_ia S (e 2) := (sj_ia_sIa_ne _ _ (sq_xl_ne h (by omega))).trans ((sj_ia_sIa_ne _ _ (sq_xl_ne h (by omega))).trans ((sj_ia_sIa_ne _ _ (sq_xl_ne h (by omega))).trans (sj_ia_sIa_ne _ _ (sq_xl_ne h (by omega)))))
theorem sq_xl_xs (h : sq_xl S x e n B) : sq_xl (sq_xs S x e s k q fn fk ff fs) x e n B := by
  obtain ⟨h0, h1, h2, h3, h4, h5, ⟨h6, h7, h8⟩, h9⟩ := h
  refine ⟨h0, h1, h2, h3, h4, h5, ⟨sq_x1.trans h6, h7, fun j hj => ?_⟩, h9⟩
  rw [sq_a2 ⟨h0, h1, h2, h3, h4, h5, ⟨h6, h7, h8⟩, h9⟩]
  exact h8 j hj
theorem sq_y2 (p : Nat) : sj_wFi (sq_xs S x e s k q fn fk ff fs) x 2 (nI p) = sq_xs S x e (p, s.2) k q fn fk ff fs := by
  unfold sq_xs
  rw [← sj_sIa_wFi, ← sj_sIa_wFi, ← sj_sIa_wFi, ← sj_sIa_wFi, sj_wFi_comm _ _ (k := 9) (j := 2) (by omega), sj_wFi_comm _ _ (k := 5) (j := 2) (by omega), sj_wFi_comm _ _ (k := 3) (j := 2) (by omega), sj_wFi_wFi]
theorem sq_y3 (b : Bool) : sj_wFi (sq_xs S x e s k q fn fk ff fs) x 3 (sj_bi b) = sq_xs S x e (s.1, b) k q fn fk ff fs := by
  unfold sq_xs
  rw [← sj_sIa_wFi, ← sj_sIa_wFi, ← sj_sIa_wFi, ← sj_sIa_wFi, sj_wFi_comm _ _ (k := 9) (j := 3) (by omega), sj_wFi_comm _ _ (k := 5) (j := 3) (by omega), sj_wFi_wFi]
theorem sq_y5 (k' : Nat) : sj_wFi (sq_xs S x e s k q fn fk ff fs) x 5 (nI k') = sq_xs S x e s k' q fn fk ff fs := by
  unfold sq_xs
  rw [← sj_sIa_wFi, ← sj_sIa_wFi, ← sj_sIa_wFi, ← sj_sIa_wFi, sj_wFi_comm _ _ (k := 9) (j := 5) (by omega), sj_wFi_wFi]
theorem sq_y9 (q' : Nat) : sj_wFi (sq_xs S x e s k q fn fk ff fs) x 9 (nI q') = sq_xs S x e s k q' fn fk ff fs := by
  unfold sq_xs
  rw [← sj_sIa_wFi, ← sj_sIa_wFi, ← sj_sIa_wFi, ← sj_sIa_wFi, sj_wFi_wFi]
theorem sq_z10 (g : Nat → Int32) : sj_sIa (sq_xs S x e s k q fn fk ff fs) (e 10) g = sq_xs S x e s k q fn fk ff g := sj_sIa_sIa _ _ _ _
theorem sq_z8 (h : sq_xl S x e n B) (g : Nat → Int32) : sj_sIa (sq_xs S x e s k q fn fk ff fs) (e 8) g = sq_xs S x e s k q fn fk g fs := by
  unfold sq_xs
  rw [sj_sIa_comm _ (sq_xl_ne h (i := 10) (j := 8) (by omega)), sj_sIa_sIa]
theorem sq_z6 (h : sq_xl S x e n B) (g : Nat → Int32) : sj_sIa (sq_xs S x e s k q fn fk ff fs) (e 6) g = sq_xs S x e s k q fn g ff fs := by
  unfold sq_xs
  rw [sj_sIa_comm _ (sq_xl_ne h (i := 10) (j := 6) (by omega)), sj_sIa_comm _ (sq_xl_ne h (i := 8) (j := 6) (by omega)), sj_sIa_sIa]
theorem sq_z4 (h : sq_xl S x e n B) (g : Nat → Int32) : sj_sIa (sq_xs S x e s k q fn fk ff fs) (e 4) g = sq_xs S x e s k q g fk ff fs := by
  unfold sq_xs
  rw [sj_sIa_comm _ (sq_xl_ne h (i := 10) (j := 4) (by omega)), sj_sIa_comm _ (sq_xl_ne h (i := 8) (j := 4) (by omega)), sj_sIa_comm _ (sq_xl_ne h (i := 6) (j := 4) (by omega)), sj_sIa_sIa]
end
/-- the code that is read; -1 behind an error and at the end -/
def sq_nx (B : Nat → Int32) (n : Nat) (s : sq_Q) : Int32 := if s.2 = true then -1 else if s.1 < n then B s.1 else -1
def sq_dg (c : Int32) : Int32 := if c < 48 then -1 else if 57 < c then -1 else c - 48
def sq_t (B : Nat → Int32) (n : Nat) (c : Int32) (s : sq_Q) : Bool := decide (sq_nx B n s = c)
def sq_S (B : Nat → Int32) (n : Nat) (c : Int32) (s : sq_Q) : sq_Q := if sq_t B n c s then (s.1 + 1, s.2) else s
def sq_N (B : Nat → Int32) (n : Nat) (c : Int32) (s : sq_Q) : sq_Q := if sq_t B n c s then (s.1 + 1, s.2) else (s.1, true)
def sq_d (B : Nat → Int32) (n : Nat) (s : sq_Q) : Int32 := sq_dg (sq_nx B n s)
def sq_V (B : Nat → Int32) (n : Nat) (a z : Int32) (s : sq_Q) : Int32 := if sq_d B n s < a ∨ z < sq_d B n s then 0 else if sq_d B n s = 0 ∨ sq_d B n (s.1 + 1, s.2) = -1 ∨ z < sq_d B n s * 10 + sq_d B n (s.1 + 1, s.2) then sq_d B n s else sq_d B n s * 10 + sq_d B n (s.1 + 1, s.2)
def sq_R (B : Nat → Int32) (n : Nat) (a z : Int32) (s : sq_Q) : sq_Q := if sq_d B n s < a ∨ z < sq_d B n s then (s.1, true) else if sq_d B n s = 0 ∨ sq_d B n (s.1 + 1, s.2) = -1 ∨ z < sq_d B n s * 10 + sq_d B n (s.1 + 1, s.2) then (s.1 + 1, s.2) else (s.1 + 2, s.2)
set_option maxRecDepth 100000 in
set_option maxHeartbeats 150000 in
theorem ct_X5_codeHere (l : Launch) {S : sj_St} {x : Nat} {e : Nat → Nat} {n : Nat} {B : Nat → Int32} (h : sq_xl S x e n B) {s : sq_Q} {k q : Nat} {fn fk ff fs : Nat → Int32} (hs : s.1 ≤ n) : sj_Ctr l mX5_codeHere [.ref x] (sq_xs S x e s k q fn fk ff fs) (sj_eq (some (.int (sq_nx B n s))) (sq_xs S x e s k q fn fk ff fs)) := by
  refine sj_start ([some (.ref x)]) (by decide +kernel) rfl rfl (fun X hX C hR => ?_)
  subst hX
  obtain ⟨h1, hn, hB⟩ := id h.2.2.2.2.2.2.1
  have kd_x : ∀ {s : sq_Q} {k q : Nat} {fn fk ff fs : Nat → Int32}, sj_kd (sq_xs S x e s k q fn fk ff fs) x = some 5 := (sq_xl_xs h).1
  have rf_x_0 : ∀ {s : sq_Q} {k q : Nat} {fn fk ff fs : Nat → Int32}, sj_rf (sq_xs S x e s k q fn fk ff fs) x 0 = some (e 1) := (sq_xl_xs h).2.1.1
  have g1 : ∀ {s : sq_Q} {k q : Nat} {fn fk ff fs : Nat → Int32}, sj_rw (sq_xs S x e s k q fn fk ff fs) (e 1) (e 2) 60 := (sq_xl_xs h).2.1.2
  have kd_r1 : ∀ {s : sq_Q} {k q : Nat} {fn fk ff fs : Nat → Int32}, sj_kd (sq_xs S x e s k q fn fk ff fs) (e 1) = some 2 := g1.1
  have rf_x_4 : ∀ {s : sq_Q} {k q : Nat} {fn fk ff fs : Nat → Int32}, sj_rf (sq_xs S x e s k q fn fk ff fs) x 4 = some (e 3) := (sq_xl_xs h).2.2.1.1
  have g3 : ∀ {s : sq_Q} {k q : Nat} {fn fk ff fs : Nat → Int32}, sj_rw (sq_xs S x e s k q fn fk ff fs) (e 3) (e 4) 40 := (sq_xl_xs h).2.2.1.2
  have kd_r3 : ∀ {s : sq_Q} {k q : Nat} {fn fk ff fs : Nat → Int32}, sj_kd (sq_xs S x e s k q fn fk ff fs) (e 3) = some 2 := g3.1
  have rf_x_6 : ∀ {s : sq_Q} {k q : Nat} {fn fk ff fs : Nat → Int32}, sj_rf (sq_xs S x e s k q fn fk ff fs) x 6 = some (e 5) := (sq_xl_xs h).2.2.2.1.1
  have g5 : ∀ {s : sq_Q} {k q : Nat} {fn fk ff fs : Nat → Int32}, sj_rw (sq_xs S x e s k q fn fk ff fs) (e 5) (e 6) 60 := (sq_xl_xs h).2.2.2.1.2
  have kd_r5 : ∀ {s : sq_Q} {k q : Nat} {fn fk ff fs : Nat → Int32}, sj_kd (sq_xs S x e s k q fn fk ff fs) (e 5) = some 2 := g5.1
  have rf_x_7 : ∀ {s : sq_Q} {k q : Nat} {fn fk ff fs : Nat → Int32}, sj_rf (sq_xs S x e s k q fn fk ff fs) x 7 = some (e 7) := (sq_xl_xs h).2.2.2.2.1.1
  have g7 : ∀ {s : sq_Q} {k q : Nat} {fn fk ff fs : Nat → Int32}, sj_rw (sq_xs S x e s k q fn fk ff fs) (e 7) (e 8) 60 := (sq_xl_xs h).2.2.2.2.1.2
  have kd_r7 : ∀ {s : sq_Q} {k q : Nat} {fn fk ff fs : Nat → Int32}, sj_kd (sq_xs S x e s k q fn fk ff fs) (e 7) = some 2 := g7.1
  have rf_x_8 : ∀ {s : sq_Q} {k q : Nat} {fn fk ff fs : Nat → Int32}, sj_rf (sq_xs S x e s k q fn fk ff fs) x 8 = some (e 9) := (sq_xl_xs h).2.2.2.2.2.1.1
  have g9 : ∀ {s : sq_Q} {k q : Nat} {fn fk ff fs : Nat → Int32}, sj_rw (sq_xs S x e s k q fn fk ff fs) (e 9) (e 10) 60 := (sq_xl_xs h).2.2.2.2.2.1.2
  have kd_r9 : ∀ {s : sq_Q} {k q : Nat} {fn fk ff fs : Nat → Int32}, sj_kd (sq_xs S x e s k q fn fk ff fs) (e 9) = some 2 := g9.1
  refine sj_aload_n C 1 rfl dX5_codeHere_0 rfl rfl ?_
  refine sj_getI C 4 rfl fd_X5_68 dX5_codeHere_1 kd_x ?_
  rw [sq_x3]
  refine sj_if_ne C 18 7 rfl rfl dX5_codeHere_4 (fun c_4 => ?_) (fun c_4 => ?_)
  · refine sj_iconstv C (-1) 19 rfl dX5_codeHere_18 rfl ?_
    refine sj_goto C 33 rfl dX5_codeHere_19 ?_
    refine sj_iret C hR rfl rfl dX5_codeHere_33 ?_
    refine ⟨congrArg (fun z => some (Value.int z)) ?_, rfl⟩
    unfold sq_nx
    rw [if_pos (sj_bin.mp c_4)]
  · refine sj_aload_n C 8 rfl dX5_codeHere_7 rfl rfl ?_
    refine sj_getI C 11 rfl fd_X5_65 dX5_codeHere_8 kd_x ?_
    rw [sq_x2]
    refine sj_aload_n C 12 rfl dX5_codeHere_11 rfl rfl ?_
    refine sj_getI C 15 rfl fd_X5_32 dX5_codeHere_12 kd_x ?_
    rw [sq_x1, h1]
    refine sj_icmp_lt C 22 18 rfl rfl dX5_codeHere_15 (fun c_15 => ?_) (fun c_15 => ?_)
    · have hlt : s.1 < n := (nI_ltI (by omega) (by omega)).mp c_15
      refine sj_aload_n C 23 rfl dX5_codeHere_22 rfl rfl ?_
      refine sj_getr C 26 rfl fd_X5_14 dX5_codeHere_23 kd_x rf_x_0 ?_
      refine sj_aload_n C 27 rfl dX5_codeHere_26 rfl rfl ?_
      refine sj_getI C 30 rfl fd_X5_65 dX5_codeHere_27 kd_x ?_
      rw [sq_x2]
      refine sj_callVd C 33 rfl dX5_codeHere_30 cv_X5_44 rfl (ct_X2_at _ g1 _) rfl rfl rfl ⟨_, _, kd_r1, rfl, rfl, by decide⟩ ⟨rfl, rfl⟩ ?_
      rw [sq_a2 h, sj_at_nI _ (by omega) (by omega), hB _ hlt]
      refine sj_iret C hR rfl rfl dX5_codeHere_33 ?_
      refine ⟨congrArg (fun z => some (Value.int z)) ?_, rfl⟩
      unfold sq_nx
      rw [if_neg (by rw [sj_bi0.mp c_4]; exact Bool.false_ne_true)]
      rw [if_pos hlt]
    · refine sj_iconstv C (-1) 19 rfl dX5_codeHere_18 rfl ?_
      refine sj_goto C 33 rfl dX5_codeHere_19 ?_
      refine sj_iret C hR rfl rfl dX5_codeHere_33 ?_
      refine ⟨congrArg (fun z => some (Value.int z)) ?_, rfl⟩
      unfold sq_nx
      rw [if_neg (by rw [sj_bi0.mp c_4]; exact Bool.false_ne_true)]
      rw [if_neg (fun h8 => c_15 (nI_lt h8 (by omega)))]
set_option maxRecDepth 100000 in
set_option maxHeartbeats 150000 in
theorem ct_X5_digitHere (l : Launch) {S : sj_St} {x : Nat} {e : Nat → Nat} {n : Nat} {B : Nat → Int32} (h : sq_xl S x e n B) {s : sq_Q} {k q : Nat} {fn fk ff fs : Nat → Int32} (hs : s.1 ≤ n) : sj_Ctr l mX5_digitHere [.ref x] (sq_xs S x e s k q fn fk ff fs) (sj_eq (some (.int (sq_d B n s))) (sq_xs S x e s k q fn fk ff fs)) := by
  refine sj_start ([some (.ref x), none]) (by decide +kernel) rfl rfl (fun X hX C hR => ?_)
  subst hX
  obtain ⟨h1, hn, hB⟩ := id h.2.2.2.2.2.2.1
  have kd_x : ∀ {s : sq_Q} {k q : Nat} {fn fk ff fs : Nat → Int32}, sj_kd (sq_xs S x e s k q fn fk ff fs) x = some 5 := (sq_xl_xs h).1
  have rf_x_0 : ∀ {s : sq_Q} {k q : Nat} {fn fk ff fs : Nat → Int32}, sj_rf (sq_xs S x e s k q fn fk ff fs) x 0 = some (e 1) := (sq_xl_xs h).2.1.1
  have g1 : ∀ {s : sq_Q} {k q : Nat} {fn fk ff fs : Nat → Int32}, sj_rw (sq_xs S x e s k q fn fk ff fs) (e 1) (e 2) 60 := (sq_xl_xs h).2.1.2
  have kd_r1 : ∀ {s : sq_Q} {k q : Nat} {fn fk ff fs : Nat → Int32}, sj_kd (sq_xs S x e s k q fn fk ff fs) (e 1) = some 2 := g1.1
  have rf_x_4 : ∀ {s : sq_Q} {k q : Nat} {fn fk ff fs : Nat → Int32}, sj_rf (sq_xs S x e s k q fn fk ff fs) x 4 = some (e 3) := (sq_xl_xs h).2.2.1.1
  have g3 : ∀ {s : sq_Q} {k q : Nat} {fn fk ff fs : Nat → Int32}, sj_rw (sq_xs S x e s k q fn fk ff fs) (e 3) (e 4) 40 := (sq_xl_xs h).2.2.1.2
  have kd_r3 : ∀ {s : sq_Q} {k q : Nat} {fn fk ff fs : Nat → Int32}, sj_kd (sq_xs S x e s k q fn fk ff fs) (e 3) = some 2 := g3.1
  have rf_x_6 : ∀ {s : sq_Q} {k q : Nat} {fn fk ff fs : Nat → Int32}, sj_rf (sq_xs S x e s k q fn fk ff fs) x 6 = some (e 5) := (sq_xl_xs h).2.2.2.1.1
  have g5 : ∀ {s : sq_Q} {k q : Nat} {fn fk ff fs : Nat → Int32}, sj_rw (sq_xs S x e s k q fn fk ff fs) (e 5) (e 6) 60 := (sq_xl_xs h).2.2.2.1.2
  have kd_r5 : ∀ {s : sq_Q} {k q : Nat} {fn fk ff fs : Nat → Int32}, sj_kd (sq_xs S x e s k q fn fk ff fs) (e 5) = some 2 := g5.1
  have rf_x_7 : ∀ {s : sq_Q} {k q : Nat} {fn fk ff fs : Nat → Int32}, sj_rf (sq_xs S x e s k q fn fk ff fs) x 7 = some (e 7) := (sq_xl_xs h).2.2.2.2.1.1
  have g7 : ∀ {s : sq_Q} {k q : Nat} {fn fk ff fs : Nat → Int32}, sj_rw (sq_xs S x e s k q fn fk ff fs) (e 7) (e 8) 60 := (sq_xl_xs h).2.2.2.2.1.2
  have kd_r7 : ∀ {s : sq_Q} {k q : Nat} {fn fk ff fs : Nat → Int32}, sj_kd (sq_xs S x e s k q fn fk ff fs) (e 7) = some 2 := g7.1
  have rf_x_8 : ∀ {s : sq_Q} {k q : Nat} {fn fk ff fs : Nat → Int32}, sj_rf (sq_xs S x e s k q fn fk ff fs) x 8 = some (e 9) := (sq_xl_xs h).2.2.2.2.2.1.1
  have g9 : ∀ {s : sq_Q} {k q : Nat} {fn fk ff fs : Nat → Int32}, sj_rw (sq_xs S x e s k q fn fk ff fs) (e 9) (e 10) 60 := (sq_xl_xs h).2.2.2.2.2.1.2
  have kd_r9 : ∀ {s : sq_Q} {k q : Nat} {fn fk ff fs : Nat → Int32}, sj_kd (sq_xs S x e s k q fn fk ff fs) (e 9) = some 2 := g9.1
  refine sj_aload_n C 1 rfl dX5_digitHere_0 rfl rfl ?_
  refine sj_callVd C 4 rfl dX5_digitHere_1 cv_X5_85 rfl (ct_X5_codeHere _ h hs) rfl rfl rfl ⟨_, _, kd_x, rfl, rfl, by decide⟩ ⟨rfl, rfl⟩ ?_
  refine sj_istore_n_1 C 5 rfl dX5_digitHere_4 rfl rfl ?_
  refine sj_iload_n C 6 rfl dX5_digitHere_5 rfl rfl ?_
  refine sj_bipush C (48) 8 rfl dX5_digitHere_6 (by decide) ?_
  refine sj_icmp_lt C 24 11 rfl rfl dX5_digitHere_8 (fun c_8 => ?_) (fun c_8 => ?_)
  · refine sj_iconstv C (-1) 25 rfl dX5_digitHere_24 rfl ?_
    refine sj_iret C hR rfl rfl dX5_digitHere_25 ?_
    refine ⟨congrArg (fun z => some (Value.int z)) ?_, rfl⟩
    unfold sq_d sq_dg
    rw [if_pos c_8]
  · refine sj_iload_n C 12 rfl dX5_digitHere_11 rfl rfl ?_
    refine sj_bipush C (57) 14 rfl dX5_digitHere_12 (by decide) ?_
    refine sj_icmp_gt C 24 17 rfl rfl dX5_digitHere_14 (fun c_14 => ?_) (fun c_14 => ?_)
    · refine sj_iconstv C (-1) 25 rfl dX5_digitHere_24 rfl ?_
      refine sj_iret C hR rfl rfl dX5_digitHere_25 ?_
      refine ⟨congrArg (fun z => some (Value.int z)) ?_, rfl⟩
      unfold sq_d sq_dg
      rw [if_neg c_8, if_pos c_14]
    · refine sj_iload_n C 18 rfl dX5_digitHere_17 rfl rfl ?_
      refine sj_bipush C (48) 20 rfl dX5_digitHere_18 (by decide) ?_
      refine sj_isub C 21 rfl dX5_digitHere_20 ?_
      refine sj_goto C 25 rfl dX5_digitHere_21 ?_
      refine sj_iret C hR rfl rfl dX5_digitHere_25 ?_
      refine ⟨congrArg (fun z => some (Value.int z)) ?_, rfl⟩
      unfold sq_d sq_dg
      rw [if_neg c_8, if_neg c_14]
set_option maxRecDepth 100000 in
set_option maxHeartbeats 150000 in
theorem ct_X5_skip (l : Launch) {S : sj_St} {x : Nat} {e : Nat → Nat} {n : Nat} {B : Nat → Int32} (h : sq_xl S x e n B) {s : sq_Q} {k q : Nat} {fn fk ff fs : Nat → Int32} (hs : s.1 ≤ n) (c : Int32) : sj_Ctr l mX5_skip [.ref x, .int c] (sq_xs S x e s k q fn fk ff fs) (sj_eq (some (.int (sj_bi (sq_t B n c s)))) (sq_xs S x e (sq_S B n c s) k q fn fk ff fs)) := by
  refine sj_start ([some (.ref x), some (.int c)]) (by decide +kernel) rfl rfl (fun X hX C hR => ?_)
  subst hX
  obtain ⟨h1, hn, hB⟩ := id h.2.2.2.2.2.2.1
  have kd_x : ∀ {s : sq_Q} {k q : Nat} {fn fk ff fs : Nat → Int32}, sj_kd (sq_xs S x e s k q fn fk ff fs) x = some 5 := (sq_xl_xs h).1
  have rf_x_0 : ∀ {s : sq_Q} {k q : Nat} {fn fk ff fs : Nat → Int32}, sj_rf (sq_xs S x e s k q fn fk ff fs) x 0 = some (e 1) := (sq_xl_xs h).2.1.1
  have g1 : ∀ {s : sq_Q} {k q : Nat} {fn fk ff fs : Nat → Int32}, sj_rw (sq_xs S x e s k q fn fk ff fs) (e 1) (e 2) 60 := (sq_xl_xs h).2.1.2
  have kd_r1 : ∀ {s : sq_Q} {k q : Nat} {fn fk ff fs : Nat → Int32}, sj_kd (sq_xs S x e s k q fn fk ff fs) (e 1) = some 2 := g1.1
  have rf_x_4 : ∀ {s : sq_Q} {k q : Nat} {fn fk ff fs : Nat → Int32}, sj_rf (sq_xs S x e s k q fn fk ff fs) x 4 = some (e 3) := (sq_xl_xs h).2.2.1.1
  have g3 : ∀ {s : sq_Q} {k q : Nat} {fn fk ff fs : Nat → Int32}, sj_rw (sq_xs S x e s k q fn fk ff fs) (e 3) (e 4) 40 := (sq_xl_xs h).2.2.1.2
  have kd_r3 : ∀ {s : sq_Q} {k q : Nat} {fn fk ff fs : Nat → Int32}, sj_kd (sq_xs S x e s k q fn fk ff fs) (e 3) = some 2 := g3.1
  have rf_x_6 : ∀ {s : sq_Q} {k q : Nat} {fn fk ff fs : Nat → Int32}, sj_rf (sq_xs S x e s k q fn fk ff fs) x 6 = some (e 5) := (sq_xl_xs h).2.2.2.1.1
  have g5 : ∀ {s : sq_Q} {k q : Nat} {fn fk ff fs : Nat → Int32}, sj_rw (sq_xs S x e s k q fn fk ff fs) (e 5) (e 6) 60 := (sq_xl_xs h).2.2.2.1.2
  have kd_r5 : ∀ {s : sq_Q} {k q : Nat} {fn fk ff fs : Nat → Int32}, sj_kd (sq_xs S x e s k q fn fk ff fs) (e 5) = some 2 := g5.1
  have rf_x_7 : ∀ {s : sq_Q} {k q : Nat} {fn fk ff fs : Nat → Int32}, sj_rf (sq_xs S x e s k q fn fk ff fs) x 7 = some (e 7) := (sq_xl_xs h).2.2.2.2.1.1
  have g7 : ∀ {s : sq_Q} {k q : Nat} {fn fk ff fs : Nat → Int32}, sj_rw (sq_xs S x e s k q fn fk ff fs) (e 7) (e 8) 60 := (sq_xl_xs h).2.2.2.2.1.2
  have kd_r7 : ∀ {s : sq_Q} {k q : Nat} {fn fk ff fs : Nat → Int32}, sj_kd (sq_xs S x e s k q fn fk ff fs) (e 7) = some 2 := g7.1
  have rf_x_8 : ∀ {s : sq_Q} {k q : Nat} {fn fk ff fs : Nat → Int32}, sj_rf (sq_xs S x e s k q fn fk ff fs) x 8 = some (e 9) := (sq_xl_xs h).2.2.2.2.2.1.1
  have g9 : ∀ {s : sq_Q} {k q : Nat} {fn fk ff fs : Nat → Int32}, sj_rw (sq_xs S x e s k q fn fk ff fs) (e 9) (e 10) 60 := (sq_xl_xs h).2.2.2.2.2.1.2
  have kd_r9 : ∀ {s : sq_Q} {k q : Nat} {fn fk ff fs : Nat → Int32}, sj_kd (sq_xs S x e s k q fn fk ff fs) (e 9) = some 2 := g9.1
  refine sj_aload_n C 1 rfl dX5_skip_0 rfl rfl ?_
  refine sj_callVd C 4 rfl dX5_skip_1 cv_X5_85 rfl (ct_X5_codeHere _ h hs) rfl rfl rfl ⟨_, _, kd_x, rfl, rfl, by decide⟩ ⟨rfl, rfl⟩ ?_
  refine sj_iload_n C 5 rfl dX5_skip_4 rfl rfl ?_
  refine sj_icmp_eq C 10 8 rfl rfl dX5_skip_5 (fun c_5 => ?_) (fun c_5 => ?_)
  · refine sj_aload_n C 11 rfl dX5_skip_10 rfl rfl ?_
    refine sj_dup C 12 rfl dX5_skip_11 rfl ?_
    refine sj_getI C 15 rfl fd_X5_65 dX5_skip_12 kd_x ?_
    rw [sq_x2]
    refine sj_iconstv C (1) 16 rfl dX5_skip_15 rfl ?_
    refine sj_iadd C 17 rfl dX5_skip_16 ?_
    rw [nI_1]
    refine sj_putI C 20 rfl fd_X5_65 dX5_skip_17 rfl rfl kd_x ?_
    rw [sq_y2]
    refine sj_iconstv C (1) 21 rfl dX5_skip_20 rfl ?_
    refine sj_zret C hR rfl rfl rfl dX5_skip_21 ?_
    have et : sq_t B n c s = true := decide_eq_true c_5
    unfold sq_S
    rw [et]
    exact ⟨rfl, rfl⟩
  · refine sj_iconstv C (0) 9 rfl dX5_skip_8 rfl ?_
    refine sj_zret C hR rfl rfl rfl dX5_skip_9 ?_
    have et : sq_t B n c s = false := decide_eq_false c_5
    unfold sq_S
    rw [et]
    exact ⟨rfl, rfl⟩
set_option maxRecDepth 100000 in
set_option maxHeartbeats 150000 in
theorem ct_X5_need (l : Launch) {S : sj_St} {x : Nat} {e : Nat → Nat} {n : Nat} {B : Nat → Int32} (h : sq_xl S x e n B) {s : sq_Q} {k q : Nat} {fn fk ff fs : Nat → Int32} (hs : s.1 ≤ n) (c : Int32) : sj_Ctr l mX5_need [.ref x, .int c] (sq_xs S x e s k q fn fk ff fs) (sj_eq none (sq_xs S x e (sq_N B n c s) k q fn fk ff fs)) := by
  refine sj_start ([some (.ref x), some (.int c)]) (by decide +kernel) rfl rfl (fun X hX C hR => ?_)
  subst hX
  obtain ⟨h1, hn, hB⟩ := id h.2.2.2.2.2.2.1
  have kd_x : ∀ {s : sq_Q} {k q : Nat} {fn fk ff fs : Nat → Int32}, sj_kd (sq_xs S x e s k q fn fk ff fs) x = some 5 := (sq_xl_xs h).1
  have rf_x_0 : ∀ {s : sq_Q} {k q : Nat} {fn fk ff fs : Nat → Int32}, sj_rf (sq_xs S x e s k q fn fk ff fs) x 0 = some (e 1) := (sq_xl_xs h).2.1.1
  have g1 : ∀ {s : sq_Q} {k q : Nat} {fn fk ff fs : Nat → Int32}, sj_rw (sq_xs S x e s k q fn fk ff fs) (e 1) (e 2) 60 := (sq_xl_xs h).2.1.2
  have kd_r1 : ∀ {s : sq_Q} {k q : Nat} {fn fk ff fs : Nat → Int32}, sj_kd (sq_xs S x e s k q fn fk ff fs) (e 1) = some 2 := g1.1
  have rf_x_4 : ∀ {s : sq_Q} {k q : Nat} {fn fk ff fs : Nat → Int32}, sj_rf (sq_xs S x e s k q fn fk ff fs) x 4 = some (e 3) := (sq_xl_xs h).2.2.1.1
  have g3 : ∀ {s : sq_Q} {k q : Nat} {fn fk ff fs : Nat → Int32}, sj_rw (sq_xs S x e s k q fn fk ff fs) (e 3) (e 4) 40 := (sq_xl_xs h).2.2.1.2
  have kd_r3 : ∀ {s : sq_Q} {k q : Nat} {fn fk ff fs : Nat → Int32}, sj_kd (sq_xs S x e s k q fn fk ff fs) (e 3) = some 2 := g3.1
  have rf_x_6 : ∀ {s : sq_Q} {k q : Nat} {fn fk ff fs : Nat → Int32}, sj_rf (sq_xs S x e s k q fn fk ff fs) x 6 = some (e 5) := (sq_xl_xs h).2.2.2.1.1
  have g5 : ∀ {s : sq_Q} {k q : Nat} {fn fk ff fs : Nat → Int32}, sj_rw (sq_xs S x e s k q fn fk ff fs) (e 5) (e 6) 60 := (sq_xl_xs h).2.2.2.1.2
  have kd_r5 : ∀ {s : sq_Q} {k q : Nat} {fn fk ff fs : Nat → Int32}, sj_kd (sq_xs S x e s k q fn fk ff fs) (e 5) = some 2 := g5.1
  have rf_x_7 : ∀ {s : sq_Q} {k q : Nat} {fn fk ff fs : Nat → Int32}, sj_rf (sq_xs S x e s k q fn fk ff fs) x 7 = some (e 7) := (sq_xl_xs h).2.2.2.2.1.1
  have g7 : ∀ {s : sq_Q} {k q : Nat} {fn fk ff fs : Nat → Int32}, sj_rw (sq_xs S x e s k q fn fk ff fs) (e 7) (e 8) 60 := (sq_xl_xs h).2.2.2.2.1.2
  have kd_r7 : ∀ {s : sq_Q} {k q : Nat} {fn fk ff fs : Nat → Int32}, sj_kd (sq_xs S x e s k q fn fk ff fs) (e 7) = some 2 := g7.1
  have rf_x_8 : ∀ {s : sq_Q} {k q : Nat} {fn fk ff fs : Nat → Int32}, sj_rf (sq_xs S x e s k q fn fk ff fs) x 8 = some (e 9) := (sq_xl_xs h).2.2.2.2.2.1.1
  have g9 : ∀ {s : sq_Q} {k q : Nat} {fn fk ff fs : Nat → Int32}, sj_rw (sq_xs S x e s k q fn fk ff fs) (e 9) (e 10) 60 := (sq_xl_xs h).2.2.2.2.2.1.2
  have kd_r9 : ∀ {s : sq_Q} {k q : Nat} {fn fk ff fs : Nat → Int32}, sj_kd (sq_xs S x e s k q fn fk ff fs) (e 9) = some 2 := g9.1
  refine sj_aload_n C 1 rfl dX5_need_0 rfl rfl ?_
  refine sj_iload_n C 2 rfl dX5_need_1 rfl rfl ?_
  refine sj_callVd C 5 rfl dX5_need_2 cv_X5_54 rfl (ct_X5_skip _ h hs c) rfl rfl rfl ⟨_, _, kd_x, rfl, rfl, by decide⟩ ⟨rfl, rfl⟩ ?_
  refine sj_if_ne C 13 8 rfl rfl dX5_need_5 (fun c_5 => ?_) (fun c_5 => ?_)
  · refine sj_vret C hR rfl rfl dX5_need_13 ?_
    have et := sj_bin.mp c_5
    unfold sq_N sq_S
    rw [et]
    exact ⟨rfl, rfl⟩
  · have et := sj_bi0.mp c_5
    rw [show sq_S B n c s = s from if_neg (by rw [et]; exact Bool.false_ne_true)]
    refine sj_aload_n C 9 rfl dX5_need_8 rfl rfl ?_
    refine sj_iconstv C (1) 10 rfl dX5_need_9 rfl ?_
    refine sj_putI C 13 rfl fd_X5_68 dX5_need_10 rfl rfl kd_x ?_
    rw [show (1 : Int32) = sj_bi true from rfl, sq_y3]
    refine sj_vret C hR rfl rfl dX5_need_13 ?_
    unfold sq_N
    rw [et]
    exact ⟨rfl, rfl⟩
theorem sq_d_end {B : Nat → Int32} {n : Nat} {s : sq_Q} (h : n ≤ s.1) : sq_d B n s = -1 := by
  unfold sq_d sq_nx
  by_cases hb : s.2 = true
  · rw [if_pos hb]
    rfl
  · rw [if_neg hb, if_neg (Nat.not_lt.mpr h)]
    rfl
set_option maxRecDepth 100000 in
set_option maxHeartbeats 150000 in
theorem ct_X5_readNumber (l : Launch) {S : sj_St} {x : Nat} {e : Nat → Nat} {n : Nat} {B : Nat → Int32} (h : sq_xl S x e n B) {s : sq_Q} {k q : Nat} {fn fk ff fs : Nat → Int32} (hs : s.1 ≤ n) (a z : Int32) (ha : 0 ≤ a) : sj_Ctr l mX5_readNumber [.ref x, .int a, .int z] (sq_xs S x e s k q fn fk ff fs) (sj_eq (some (.int (sq_V B n a z s))) (sq_xs S x e (sq_R B n a z s) k q fn fk ff fs)) := by
  refine sj_start ([some (.ref x), some (.int a), some (.int z), none, none]) (by decide +kernel) rfl rfl (fun X hX C hR => ?_)
  subst hX
  obtain ⟨h1, hn, hB⟩ := id h.2.2.2.2.2.2.1
  have kd_x : ∀ {s : sq_Q} {k q : Nat} {fn fk ff fs : Nat → Int32}, sj_kd (sq_xs S x e s k q fn fk ff fs) x = some 5 := (sq_xl_xs h).1
  have rf_x_0 : ∀ {s : sq_Q} {k q : Nat} {fn fk ff fs : Nat → Int32}, sj_rf (sq_xs S x e s k q fn fk ff fs) x 0 = some (e 1) := (sq_xl_xs h).2.1.1
  have g1 : ∀ {s : sq_Q} {k q : Nat} {fn fk ff fs : Nat → Int32}, sj_rw (sq_xs S x e s k q fn fk ff fs) (e 1) (e 2) 60 := (sq_xl_xs h).2.1.2
  have kd_r1 : ∀ {s : sq_Q} {k q : Nat} {fn fk ff fs : Nat → Int32}, sj_kd (sq_xs S x e s k q fn fk ff fs) (e 1) = some 2 := g1.1
  have rf_x_4 : ∀ {s : sq_Q} {k q : Nat} {fn fk ff fs : Nat → Int32}, sj_rf (sq_xs S x e s k q fn fk ff fs) x 4 = some (e 3) := (sq_xl_xs h).2.2.1.1
  have g3 : ∀ {s : sq_Q} {k q : Nat} {fn fk ff fs : Nat → Int32}, sj_rw (sq_xs S x e s k q fn fk ff fs) (e 3) (e 4) 40 := (sq_xl_xs h).2.2.1.2
  have kd_r3 : ∀ {s : sq_Q} {k q : Nat} {fn fk ff fs : Nat → Int32}, sj_kd (sq_xs S x e s k q fn fk ff fs) (e 3) = some 2 := g3.1
  have rf_x_6 : ∀ {s : sq_Q} {k q : Nat} {fn fk ff fs : Nat → Int32}, sj_rf (sq_xs S x e s k q fn fk ff fs) x 6 = some (e 5) := (sq_xl_xs h).2.2.2.1.1
  have g5 : ∀ {s : sq_Q} {k q : Nat} {fn fk ff fs : Nat → Int32}, sj_rw (sq_xs S x e s k q fn fk ff fs) (e 5) (e 6) 60 := (sq_xl_xs h).2.2.2.1.2
  have kd_r5 : ∀ {s : sq_Q} {k q : Nat} {fn fk ff fs : Nat → Int32}, sj_kd (sq_xs S x e s k q fn fk ff fs) (e 5) = some 2 := g5.1
  have rf_x_7 : ∀ {s : sq_Q} {k q : Nat} {fn fk ff fs : Nat → Int32}, sj_rf (sq_xs S x e s k q fn fk ff fs) x 7 = some (e 7) := (sq_xl_xs h).2.2.2.2.1.1
  have g7 : ∀ {s : sq_Q} {k q : Nat} {fn fk ff fs : Nat → Int32}, sj_rw (sq_xs S x e s k q fn fk ff fs) (e 7) (e 8) 60 := (sq_xl_xs h).2.2.2.2.1.2
  have kd_r7 : ∀ {s : sq_Q} {k q : Nat} {fn fk ff fs : Nat → Int32}, sj_kd (sq_xs S x e s k q fn fk ff fs) (e 7) = some 2 := g7.1
  have rf_x_8 : ∀ {s : sq_Q} {k q : Nat} {fn fk ff fs : Nat → Int32}, sj_rf (sq_xs S x e s k q fn fk ff fs) x 8 = some (e 9) := (sq_xl_xs h).2.2.2.2.2.1.1
  have g9 : ∀ {s : sq_Q} {k q : Nat} {fn fk ff fs : Nat → Int32}, sj_rw (sq_xs S x e s k q fn fk ff fs) (e 9) (e 10) 60 := (sq_xl_xs h).2.2.2.2.2.1.2
  have kd_r9 : ∀ {s : sq_Q} {k q : Nat} {fn fk ff fs : Nat → Int32}, sj_kd (sq_xs S x e s k q fn fk ff fs) (e 9) = some 2 := g9.1
  refine sj_aload_n C 1 rfl dX5_readNumber_0 rfl rfl ?_
  refine sj_callVd C 4 rfl dX5_readNumber_1 cv_X5_89 rfl (ct_X5_digitHere _ h hs) rfl rfl rfl ⟨_, _, kd_x, rfl, rfl, by decide⟩ ⟨rfl, rfl⟩ ?_
  refine sj_istore_n_3 C 5 rfl dX5_readNumber_4 rfl rfl ?_
  refine sj_iload_n C 6 rfl dX5_readNumber_5 rfl rfl ?_
  refine sj_iload_n C 7 rfl dX5_readNumber_6 rfl rfl ?_
  refine sj_icmp_lt C 15 10 rfl rfl dX5_readNumber_7 (fun c_7 => ?_) (fun c_7 => ?_)
  · refine sj_aload_n C 16 rfl dX5_readNumber_15 rfl rfl ?_
    refine sj_iconstv C (1) 17 rfl dX5_readNumber_16 rfl ?_
    refine sj_putI C 20 rfl fd_X5_68 dX5_readNumber_17 rfl rfl kd_x ?_
    rw [show (1 : Int32) = sj_bi true from rfl, sq_y3]
    refine sj_iconstv C (0) 21 rfl dX5_readNumber_20 rfl ?_
    refine sj_iret C hR rfl rfl dX5_readNumber_21 ?_
    have hb : sq_d B n s < a ∨ z < sq_d B n s := Or.inl c_7
    unfold sq_V sq_R
    rw [if_pos hb, if_pos hb]
    exact ⟨rfl, rfl⟩
  · refine sj_iload_n C 11 rfl dX5_readNumber_10 rfl rfl ?_
    refine sj_iload_n C 12 rfl dX5_readNumber_11 rfl rfl ?_
    refine sj_icmp_le C 22 15 rfl rfl dX5_readNumber_12 (fun c_12 => ?_) (fun c_12 => ?_)
    · have hlt : s.1 < n := Nat.not_le.mp fun h8 => c_7 (by rw [show sq_d B n s = -1 from sq_d_end h8]; exact Int32.lt_of_lt_of_le (by decide) ha)
      refine sj_aload_n C 23 rfl dX5_readNumber_22 rfl rfl ?_
      refine sj_dup C 24 rfl dX5_readNumber_23 rfl ?_
      refine sj_getI C 27 rfl fd_X5_65 dX5_readNumber_24 kd_x ?_
      rw [sq_x2]
      refine sj_iconstv C (1) 28 rfl dX5_readNumber_27 rfl ?_
      refine sj_iadd C 29 rfl dX5_readNumber_28 ?_
      rw [nI_1]
      refine sj_putI C 32 rfl fd_X5_65 dX5_readNumber_29 rfl rfl kd_x ?_
      rw [sq_y2]
      refine sj_aload_n C 33 rfl dX5_readNumber_32 rfl rfl ?_
      refine sj_callVd C 36 rfl dX5_readNumber_33 cv_X5_89 rfl (ct_X5_digitHere _ h (s := (s.1 + 1, s.2)) (show s.1 + 1 ≤ n from hlt)) rfl rfl rfl ⟨_, _, kd_x, rfl, rfl, by decide⟩ ⟨rfl, rfl⟩ ?_
      refine sj_istore_4 C 38 rfl dX5_readNumber_36 rfl rfl ?_
      refine sj_iload_n C 39 rfl dX5_readNumber_38 rfl rfl ?_
      refine sj_if_eq C 59 42 rfl rfl dX5_readNumber_39 (fun c_39 => ?_) (fun c_39 => ?_)
      · refine sj_iload_n C 60 rfl dX5_readNumber_59 rfl rfl ?_
        refine sj_iret C hR rfl rfl dX5_readNumber_60 ?_
        have hb : ¬ (sq_d B n s < a ∨ z < sq_d B n s) := fun e9 => e9.elim c_7 (fun e8 => sj_nlt.mpr c_12 e8)
        have hc : (sq_d B n s = 0 ∨ sq_d B n (s.1 + 1, s.2) = -1 ∨ z < sq_d B n s * 10 + sq_d B n (s.1 + 1, s.2)) := Or.inl c_39
        unfold sq_V sq_R
        rw [if_neg hb, if_neg hb, if_pos hc, if_pos hc]
        exact ⟨rfl, rfl⟩
      · refine sj_iload C 44 rfl dX5_readNumber_42 rfl ?_
        refine sj_iconstv C (-1) 45 rfl dX5_readNumber_44 rfl ?_
        refine sj_icmp_eq C 59 48 rfl rfl dX5_readNumber_45 (fun c_45 => ?_) (fun c_45 => ?_)
        · refine sj_iload_n C 60 rfl dX5_readNumber_59 rfl rfl ?_
          refine sj_iret C hR rfl rfl dX5_readNumber_60 ?_
          have hb : ¬ (sq_d B n s < a ∨ z < sq_d B n s) := fun e9 => e9.elim c_7 (fun e8 => sj_nlt.mpr c_12 e8)
          have hc : (sq_d B n s = 0 ∨ sq_d B n (s.1 + 1, s.2) = -1 ∨ z < sq_d B n s * 10 + sq_d B n (s.1 + 1, s.2)) := Or.inr (Or.inl c_45)
          unfold sq_V sq_R
          rw [if_neg hb, if_neg hb, if_pos hc, if_pos hc]
          exact ⟨rfl, rfl⟩
        · refine sj_iload_n C 49 rfl dX5_readNumber_48 rfl rfl ?_
          refine sj_bipush C (10) 51 rfl dX5_readNumber_49 (by decide) ?_
          refine sj_imul C 52 rfl dX5_readNumber_51 ?_
          refine sj_iload C 54 rfl dX5_readNumber_52 rfl ?_
          refine sj_iadd C 55 rfl dX5_readNumber_54 ?_
          refine sj_iload_n C 56 rfl dX5_readNumber_55 rfl rfl ?_
          refine sj_icmp_le C 61 59 rfl rfl dX5_readNumber_56 (fun c_56 => ?_) (fun c_56 => ?_)
          · refine sj_aload_n C 62 rfl dX5_readNumber_61 rfl rfl ?_
            refine sj_dup C 63 rfl dX5_readNumber_62 rfl ?_
            refine sj_getI C 66 rfl fd_X5_65 dX5_readNumber_63 kd_x ?_
            rw [sq_x2]
            refine sj_iconstv C (1) 67 rfl dX5_readNumber_66 rfl ?_
            refine sj_iadd C 68 rfl dX5_readNumber_67 ?_
            rw [show nI (s.1 + 1, s.2).1 + 1 = nI (s.1 + 2) from nI_1 (s.1 + 1)]
            refine sj_putI C 71 rfl fd_X5_65 dX5_readNumber_68 rfl rfl kd_x ?_
            rw [sq_y2]
            refine sj_iload_n C 72 rfl dX5_readNumber_71 rfl rfl ?_
            refine sj_bipush C (10) 74 rfl dX5_readNumber_72 (by decide) ?_
            refine sj_imul C 75 rfl dX5_readNumber_74 ?_
            refine sj_iload C 77 rfl dX5_readNumber_75 rfl ?_
            refine sj_iadd C 78 rfl dX5_readNumber_77 ?_
            refine sj_iret C hR rfl rfl dX5_readNumber_78 ?_
            have hb : ¬ (sq_d B n s < a ∨ z < sq_d B n s) := fun e9 => e9.elim c_7 (fun e8 => sj_nlt.mpr c_12 e8)
            have hc : ¬ (sq_d B n s = 0 ∨ sq_d B n (s.1 + 1, s.2) = -1 ∨ z < sq_d B n s * 10 + sq_d B n (s.1 + 1, s.2)) := fun e9 => e9.elim c_39 (fun e8 => e8.elim c_45 (fun e7 => sj_nlt.mpr c_56 e7))
            unfold sq_V sq_R
            rw [if_neg hb, if_neg hb, if_neg hc, if_neg hc]
            exact ⟨rfl, rfl⟩
          · refine sj_iload_n C 60 rfl dX5_readNumber_59 rfl rfl ?_
            refine sj_iret C hR rfl rfl dX5_readNumber_60 ?_
            have hb : ¬ (sq_d B n s < a ∨ z < sq_d B n s) := fun e9 => e9.elim c_7 (fun e8 => sj_nlt.mpr c_12 e8)
            have hc : (sq_d B n s = 0 ∨ sq_d B n (s.1 + 1, s.2) = -1 ∨ z < sq_d B n s * 10 + sq_d B n (s.1 + 1, s.2)) := Or.inr (Or.inr (sj_nle.mp c_56))
            unfold sq_V sq_R
            rw [if_neg hb, if_neg hb, if_pos hc, if_pos hc]
            exact ⟨rfl, rfl⟩
    · refine sj_aload_n C 16 rfl dX5_readNumber_15 rfl rfl ?_
      refine sj_iconstv C (1) 17 rfl dX5_readNumber_16 rfl ?_
      refine sj_putI C 20 rfl fd_X5_68 dX5_readNumber_17 rfl rfl kd_x ?_
      rw [show (1 : Int32) = sj_bi true from rfl, sq_y3]
      refine sj_iconstv C (0) 21 rfl dX5_readNumber_20 rfl ?_
      refine sj_iret C hR rfl rfl dX5_readNumber_21 ?_
      have hb : sq_d B n s < a ∨ z < sq_d B n s := Or.inr (sj_nle.mp c_12)
      unfold sq_V sq_R
      rw [if_pos hb, if_pos hb]
      exact ⟨rfl, rfl⟩
