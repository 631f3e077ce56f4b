/-! THE LAW: a sheet is typed -/
theorem sp_numlen1 (T : List Nat) (v : Nat) (h : T.length + (sp_num v).length ≤ 60) : T.length < 60 := by
  have h1 : 1 ≤ (sp_num v).length := by
    by_cases h9 : 9 < v
    · rw [sp_num_y h9]
      exact Nat.le_succ 1
    · rw [sp_num_n h9]
      exact Nat.le_refl 1
  omega
theorem sp_numlen2 {T : List Nat} {v : Nat} (c : Nat) (h9 : 9 < v) (h : T.length + (sp_num v).length ≤ 60) : (T ++ [c]).length < 60 := by
  rw [sp_num_y h9] at h
  rw [List.length_append]
  exact h
set_option maxRecDepth 100000 in
set_option maxHeartbeats 200000 in
theorem ct_L_number (l : Launch) {S0 S : sj_St} {g : Nat → Nat} {m : Nat → Int32} {hs : Bool} {ms : Nat → Int32} {p q : Nat} {Q : Nat → Nat → Int32} {rt N : Nat} {T : List Nat} {TR : Nat → Int32} (hrt : ¬ sq_Cl g rt) (hI : sj_inv m) (hY : sp_Y S0 S g m hs ms p q Q rt N T TR) {v : Nat} (hv : v ≤ 99) (hT : T.length + (sp_num v).length ≤ 60) : sj_Ctr l nL_number [.ref (g 141), .int (nI (v))] S (fun r V => r = none ∧ sp_Y S0 V g m hs ms p q Q rt N (T ++ sp_num v) TR) := by
  refine sj_start ([some (.ref (g 141)), some (.int (nI (v)))]) (by decide +kernel) rfl rfl (fun X hX C hR => ?_)
  subst hX
  refine sj_iload_n C 1 rfl dL_number_0 rfl rfl ?_
  refine sj_bipush C (9) 3 rfl dL_number_1 (by decide) ?_
  refine sj_icmp_le C 18 6 rfl rfl dL_number_3 (fun c_3 => ?_) (fun c_3 => ?_)
  · refine sj_aload_n C 19 rfl dL_number_18 rfl rfl ?_
    refine sj_bipush C (48) 21 rfl dL_number_19 (by decide) ?_
    refine sj_iload_n C 22 rfl dL_number_21 rfl rfl ?_
    refine sj_bipush C (10) 24 rfl dL_number_22 (by decide) ?_
    refine sj_irem C 25 rfl dL_number_24 (by decide) ?_
    rw [show nI v - nI v / 10 * 10 = nI (v % 10) from pk_rem (d := 10) (by omega) (by omega) (by omega)]
    refine sj_iadd C 26 rfl dL_number_25 ?_
    rw [show 48 + nI (v % 10) = nI (48 + (v % 10)) from nI_add 48 (v % 10)]
    obtain ⟨r1, hM1⟩ := sp_app _ hrt hI hY (c := 48 + (v % 10)) ⟨by omega, by omega⟩ (sp_numlen1 _ _ hT)
    refine sj_callSW C (sj_hN C) 29 rfl dL_number_26 cw_L_77 (sj_fitO rfl rfl (show 0 + 1 ≤ 2 by omega) (show 0 + 6 ≤ 12 by omega)) hM1 rfl rfl rfl (fun v1 U1 hp1 => ?_)
    obtain ⟨rfl, hY1⟩ := hp1
    refine sj_pop C 30 rfl dL_number_29 rfl ?_
    refine sj_vret C hR rfl rfl dL_number_30 ?_
    refine ⟨rfl, ?_⟩
    rw [sp_num_n (fun h9 => nI_ge (a := 9) h9 (by omega) c_3)]
    exact hY1
  · have h9 : 9 < v := Nat.not_le.mp (fun h8 => c_3 (nI_le (b := 9) h8 (by omega)))
    refine sj_aload_n C 7 rfl dL_number_6 rfl rfl ?_
    refine sj_bipush C (48) 9 rfl dL_number_7 (by decide) ?_
    refine sj_iload_n C 10 rfl dL_number_9 rfl rfl ?_
    refine sj_bipush C (10) 12 rfl dL_number_10 (by decide) ?_
    refine sj_idiv C 13 rfl dL_number_12 (by decide) ?_
    rw [show nI v / 10 = nI (v / 10) from sj_ndiv (b := 10) (by omega) (by omega)]
    refine sj_iadd C 14 rfl dL_number_13 ?_
    rw [show 48 + nI (v / 10) = nI (48 + (v / 10)) from nI_add 48 (v / 10)]
    obtain ⟨r2, hM2⟩ := sp_app _ hrt hI hY (c := 48 + (v / 10)) ⟨by omega, by omega⟩ (sp_numlen1 _ _ hT)
    refine sj_callSW C (sj_hN C) 17 rfl dL_number_14 cw_L_77 (sj_fitO rfl rfl (show 0 + 1 ≤ 2 by omega) (show 0 + 6 ≤ 12 by omega)) hM2 rfl rfl rfl (fun v2 U2 hp2 => ?_)
    obtain ⟨rfl, hY2⟩ := hp2
    refine sj_pop C 18 rfl dL_number_17 rfl ?_
    refine sj_aload_n C 19 rfl dL_number_18 rfl rfl ?_
    refine sj_bipush C (48) 21 rfl dL_number_19 (by decide) ?_
    refine sj_iload_n C 22 rfl dL_number_21 rfl rfl ?_
    refine sj_bipush C (10) 24 rfl dL_number_22 (by decide) ?_
    refine sj_irem C 25 rfl dL_number_24 (by decide) ?_
    rw [show nI v - nI v / 10 * 10 = nI (v % 10) from pk_rem (d := 10) (by omega) (by omega) (by omega)]
    refine sj_iadd C 26 rfl dL_number_25 ?_
    rw [show 48 + nI (v % 10) = nI (48 + (v % 10)) from nI_add 48 (v % 10)]
    obtain ⟨r3, hM3⟩ := sp_app _ hrt hI hY2 (c := 48 + (v % 10)) ⟨by omega, by omega⟩ (sp_numlen2 _ h9 hT)
    refine sj_callSW C (sj_hN C) 29 rfl dL_number_26 cw_L_77 (sj_fitO rfl rfl (show 0 + 1 + 1 ≤ 2 by omega) (show 0 + 6 + 6 ≤ 12 by omega)) hM3 rfl rfl rfl (fun v3 U3 hp3 => ?_)
    obtain ⟨rfl, hY3⟩ := hp3
    refine sj_pop C 30 rfl dL_number_29 rfl ?_
    refine sj_vret C hR rfl rfl dL_number_30 ?_
    refine ⟨rfl, ?_⟩
    rw [sp_num_y h9]
    rw [List.append_assoc] at hY3
    exact hY3
theorem sp_clr0 (l : Launch) {S : sj_St} {g : Nat → Nat} {m : Nat → Int32} {hs : Bool} {ms : Nat → Int32} {p q : Nat} {Q : Nat → Nat → Int32} {n : Nat} {B : Nat → Int32} {rt N : Nat} (hrt : ¬ sq_Cl g rt) (hI : sj_inv m) (hW : sq_W S g m hs ms p q Q n B) (hk : sj_kd S rt = some 8 ∧ sj_il S rt = N) : ∃ r, sj_Ctr l mX6_clearBuffer [.ref (g 141)] S (fun v V => v = some (.int r) ∧ sp_Y S V g m hs ms p q Q rt N [] (sj_ia S rt)) :=
  ⟨nI n, sp_Ctr_up (ct_X6_clearBuffer l hW hI) (fun v V hp => by
    have hf := sq_xp_fr hp.2.1 rt 8 hk.1
    exact ⟨hp.1, sq_xp_up (sq_xp_fr hp.2.1) (fun a c _ ha => Or.inl ha), ⟨0, B, hp.2.2, rfl, fun j hj => absurd hj (Nat.not_lt_zero j)⟩, ⟨hf.1, (hf.2 hrt).2.1.trans hk.2⟩, (hf.2 hrt).2.2.2.1⟩)⟩
theorem sp_its (a b : Nat) : nI a - 30 + nI b - 4 = nI (a + b + 11) - 45 := by
  rw [← nI_add, ← nI_add]
  generalize nI a = x
  generalize nI b = y
  show x - 30 + y - 4 = x + y + 11 - 45
  grind
theorem sp_its45 (a : Nat) : nI a - 45 + 45 = nI a := Int32.sub_add_cancel _ _
theorem sp_neg0 {a : Nat} (h : 1 ≤ a) (h2 : a < 46) : ¬ (0 : Int32) ≤ -(nI a) := by
  have hall : ∀ q, q < 46 → 1 ≤ q → ¬ (0 : Int32) ≤ -(nI q) := by decide +kernel
  exact hall a h2 h
theorem sp_le0 {x : Nat} (h : x ≤ 90) : 0 ≤ nI x - 45 ↔ ¬ x < 45 := by
  by_cases h1 : x < 45
  · refine ⟨fun h2 => absurd h2 ?_, fun h2 => absurd h1 h2⟩
    rw [← sp_abn h1]
    have h3 : sp_ab x = 45 - x := if_pos h1
    obtain h4 : 1 ≤ sp_ab x ∧ sp_ab x ≤ 45 := by omega
    exact fun h5 => absurd (h5 : (0 : Int32) ≤ -(nI (sp_ab x))) (sp_neg0 h4.1 (by omega))
  · refine ⟨fun _ => h1, fun _ => ?_⟩
    rw [← sp_abp h1]
    have h3 : sp_ab x = x - 45 := if_neg h1
    exact nI_pos' (by omega)
theorem sp_abe {x : Nat} (h : x ≤ 90) : (if 0 ≤ nI x - 45 then nI x - 45 else -(nI x - 45)) = nI (sp_ab x) := by
  by_cases h1 : x < 45
  · rw [if_neg (fun h2 => (sp_le0 h).mp h2 h1), ← sp_abn h1, Int32.neg_neg]
  · rw [if_pos ((sp_le0 h).mpr h1), sp_abp h1]
theorem sp_hbe (v : Int32) : (if nI (sp_lw (v >>> (9 &&& 31)) 3) = 0 then (51 : Int32) else 8) = nI (sp_hb v) := by
  have h3 := sp_lw_lt (v >>> (9 &&& 31)) (n := 3) (by omega) (by omega)
  unfold sp_hb
  by_cases h : sp_lw (v >>> (9 &&& 31)) 3 = 0
  · rw [if_pos h, if_pos (by rw [h]; rfl)]
    rfl
  · rw [if_neg h, if_neg (nI_ne0 (by omega) (by omega))]
    rfl
theorem sp_she {a b : Nat} (h : a < 3) : (if nI a = 0 then nI b else (0 : Int32)) = nI (if a = 0 then b else 0) := by
  by_cases h1 : a = 0
  · rw [if_pos h1, if_pos (by rw [h1]; rfl)]
  · rw [if_neg h1, if_neg (nI_ne0 (by omega) (by omega))]
    rfl
theorem sp_hae {a : Nat} (h : a < 3) : (if nI a ≤ 0 then (0 : Int32) else 1) = nI (if 0 < a then 1 else 0) := by
  by_cases h1 : 0 < a
  · rw [if_pos h1, if_neg (nI_nle h1 (by omega))]
    rfl
  · rw [if_neg h1, if_pos (by rw [show a = 0 by omega]; decide)]
    rfl
theorem sp_lpe {a : Nat} (h : a ≤ 1) : (if nI a = 0 then (0 : Int32) else 8192) = nI (8192 * a) := by
  by_cases h1 : a = 0
  · rw [h1]
    rfl
  · rw [show a = 1 by omega]
    rfl
theorem sp_hb1 (v : Int32) : 0 < sp_hb v := by
  unfold sp_hb
  by_cases h : sp_lw (v >>> (9 &&& 31)) 3 = 0
  · rw [if_pos h]
    omega
  · rw [if_neg h]
    omega
theorem sp_hb2 (v : Int32) : sp_hb v < 1000 := by
  unfold sp_hb
  by_cases h : sp_lw (v >>> (9 &&& 31)) 3 = 0
  · rw [if_pos h]
    omega
  · rw [if_neg h]
    omega
theorem sp_hb0 (v : Int32) : ¬ nI (sp_hb v) = 0 := nI_ne0 (sp_hb1 v) (by have := sp_hb2 v; omega)
set_option maxRecDepth 100000 in
set_option maxHeartbeats 400000 in
theorem ct_L_types (l : Launch) {S : sj_St} {g : Nat → Nat} {m : Nat → Int32} {hs : Bool} {ms : Nat → Int32} {p q : Nat} {Q : Nat → Nat → Int32} {n : Nat} {B : Nat → Int32} {rt N : Nat} (hrt : ¬ sq_Cl g rt) (hrl : sp_La g rt) (hI : sj_inv m) (hW : sq_W S g m hs ms p q Q n B) (hk : sj_kd S rt = some 8 ∧ sj_il S rt = N) (v : Int32) {sh : Nat} (hN : 8 * sh + 8 ≤ N) (hN2 : N < 1000) : sj_Ctr l nL_types [.ref (g 141), .int v, .int (nI sh), .ref rt] S (fun r V => r = some (.int (nI (1 + sp_lw v 5))) ∧ ∃ TR, sp_Y S V g m hs ms p q Q rt N (sp_txt (fun e => sp_sx v (sp_x v e)) (1 + sp_lw v 5)) TR ∧ (∀ e, e < (1 + sp_lw v 5) → TR (8 * sh + e) = sp_pk (sp_sx v (sp_x v e))) ∧ ∀ i, (i < 8 * sh ∨ 8 * sh + 8 ≤ i) → TR i = sj_ia S rt i) := by
  refine sj_start ([some (.ref (g 141)), some (.int (v)), some (.int (nI (sh))), some (.ref rt), none, none, none, none, none, none, none, none, none]) (by decide +kernel) rfl rfl (fun X hX C hR => ?_)
  subst hX
  have hv5 := sp_lw_lt v (n := 5) (by omega) (by omega)
  have cut_30 : ∀ (U : sj_St) (TR : Nat → Int32) (cl sl : Nat), sp_Y S U g m hs ms p q Q rt N (sp_txt (fun e => sp_sx v (sp_x v e)) 0) TR → (∀ e, e < 0 → TR (8 * sh + e) = sp_pk (sp_sx v (sp_x v e))) → (∀ i, (i < 8 * sh ∨ 8 * sh + 8 ≤ i) → TR i = sj_ia S rt i) → cl ≤ 5 + 14 * 0 → sl ≤ 30 + 84 * 0 → sj_G X U cl sl [some (.ref (g 141)), some (.int (v)), some (.int (nI (sh))), some (.ref rt), some (.int (nI (1 + (sp_lw v 5)))), some (.int (nI (sp_lw (v >>> (3 &&& 31)) 61) - 30)), some (.int (nI (0))), none, none, none, none, none, none] 30 [] := by
    refine sj_down (fun k => ∀ (U : sj_St) (TR : Nat → Int32) (cl sl : Nat), sp_Y S U g m hs ms p q Q rt N (sp_txt (fun e => sp_sx v (sp_x v e)) k) TR → (∀ e, e < k → TR (8 * sh + e) = sp_pk (sp_sx v (sp_x v e))) → (∀ i, (i < 8 * sh ∨ 8 * sh + 8 ≤ i) → TR i = sj_ia S rt i) → cl ≤ 5 + 14 * k → sl ≤ 30 + 84 * k → sj_G X U cl sl [some (.ref (g 141)), some (.int (v)), some (.int (nI (sh))), some (.ref rt), some (.int (nI (1 + (sp_lw v 5)))), some (.int (nI (sp_lw (v >>> (3 &&& 31)) 61) - 30)), some (.int (nI k)), none, none, none, none, none, none] 30 []) (1 + sp_lw v 5) (fun k hk ih_30 => ?_)
    intro U TR cl sl hY hP hO hcl hsl
    obtain ⟨x0, x1, x2, x3, x4, hx⟩ : ∃ x0 x1 x2 x3 x4, sp_sx v (sp_x v k) = (x0, x1, x2, x3, x4) := ⟨_, _, _, _, _, rfl⟩
    have hxb := sp_sx_b v (sp_x v k)
    rw [hx] at hxb
    have b0 : x0 ≤ 90 := hxb.1.2
    have b1 : 1 ≤ x1 ∧ x1 ≤ 60 := hxb.2.1
    have b2 : x2 ≤ 1 := hxb.2.2.1
    have b3 : 1 ≤ x3 ∧ x3 ≤ 9 := hxb.2.2.2.1
    have b4 : x4 ≤ 9 := hxb.2.2.2.2
    have hx0 : sp_lw (v >>> (3 &&& 31)) 61 + sp_lw (sp_x v k) 9 + 11 = x0 := congrArg (fun z => z.1) hx
    have hx1 : 10 + sp_lw (sp_x v k >>> (3 &&& 31)) (sp_hb v) = x1 := congrArg (fun z => z.2.1) hx
    have hx2 : (if 0 < sp_lw (sp_x v k >>> (17 &&& 31)) 3 then 1 else 0) = x2 := congrArg (fun z => z.2.2.1) hx
    have hx3 : 1 + sp_lw (sp_x v k >>> (7 &&& 31)) 9 = x3 := congrArg (fun z => z.2.2.2.1) hx
    have hx4 : (if sp_lw (sp_x v k >>> (11 &&& 31)) 3 = 0 then sp_lw (sp_x v k >>> (13 &&& 31)) 10 else 0) = x4 := congrArg (fun z => z.2.2.2.2) hx
    have l0 : (sp_txt (fun e => sp_sx v (sp_x v e)) k).length ≤ 12 * k := sp_txt_len (fun e => sp_sx_b v (sp_x v e)) k
    have hab : sp_ab x0 ≤ 45 := by
      unfold sp_ab
      by_cases h9 : x0 < 45
      · rw [if_pos h9]; omega
      · rw [if_neg h9]; omega
    have l1 := sp_opt_len (0 < k) [44]
    have l2 := sp_opt_len (x0 < 45) [45]
    have l3 := sp_num_len (sp_ab x0)
    have l4 := sp_num_len x1
    have l5 := sp_opt_len (0 < x2) [111]
    have l6 := sp_num_1 b3.2
    have l7 := sp_num_1 b4
    rw [List.length_singleton] at l1 l2 l5
    have cut_254 : k < (1 + sp_lw v 5) → ∀ (U : sj_St) (cl sl : Nat), sp_Y S U g m hs ms p q Q rt N (((((((((sp_txt (fun e => sp_sx v (sp_x v e)) k ++ sp_opt (0 < k) [44]) ++ sp_opt (x0 < 45) [45]) ++ sp_num (sp_ab x0)) ++ [58]) ++ sp_num x1) ++ sp_opt (0 < x2) [111]) ++ [112]) ++ sp_num x3) ++ sp_opt (0 < x4) (126 :: sp_num x4)) TR → cl ≤ 5 + 14 * k + 14 → sl ≤ 30 + 84 * k + 84 → sj_G X U cl sl [some (.ref (g 141)), some (.int (v)), some (.int (nI (sh))), some (.ref rt), some (.int (nI (1 + (sp_lw v 5)))), some (.int (nI (sp_lw (v >>> (3 &&& 31)) 61) - 30)), some (.int (nI (k))), some (.int (sp_x v k)), some (.int (nI x0 - 45)), some (.int (nI (x1))), some (.int (nI (x3))), some (.int (nI (x4))), some (.int (nI (x2)))] 254 [] := by
      intro hlt U cl sl hY hcl hsl
      refine sj_aload_n C 255 rfl dL_types_254 rfl rfl ?_
      refine sj_bipush C (8) 257 rfl dL_types_255 (by decide) ?_
      refine sj_iload_n C 258 rfl dL_types_257 rfl rfl ?_
      refine sj_imul C 259 rfl dL_types_258 ?_
      rw [show 8 * nI (sh) = nI (8 * sh) from sj_nmul 8 sh]
      refine sj_iload C 261 rfl dL_types_259 rfl ?_
      refine sj_iadd C 262 rfl dL_types_261 ?_
      rw [show nI (8 * sh) + nI (k) = nI ((8 * sh) + k) from nI_add (8 * sh) k]
      refine sj_iload C 264 rfl dL_types_262 rfl ?_
      refine sj_bipush C (45) 266 rfl dL_types_264 (by decide) ?_
      refine sj_iadd C 267 rfl dL_types_266 ?_
      rw [show (nI x0 - 45) + 45 = nI x0 from sp_its45 _]
      refine sj_iload C 269 rfl dL_types_267 rfl ?_
      refine sj_bipush C (7) 271 rfl dL_types_269 (by decide) ?_
      refine sj_ishl C 272 rfl dL_types_271 ?_
      refine sj_ior C 273 rfl dL_types_272 ?_
      refine sj_iload C 275 rfl dL_types_273 rfl ?_
      have cut_285 : ∀ j285 : Int32, (j285 = if nI (x2) = 0 then 0 else 8192) → sj_G X U cl sl [some (.ref (g 141)), some (.int (v)), some (.int (nI (sh))), some (.ref rt), some (.int (nI (1 + (sp_lw v 5)))), some (.int (nI (sp_lw (v >>> (3 &&& 31)) 61) - 30)), some (.int (nI (k))), some (.int (sp_x v k)), some (.int (nI x0 - 45)), some (.int (nI (x1))), some (.int (nI (x3))), some (.int (nI (x4))), some (.int (nI (x2)))] 285 [.int (j285), .int (nI (x0) ||| (nI (x1) <<< (7 &&& 31))), .int (nI ((8 * sh) + k)), .ref rt] := by
        intro j285 h285
        obtain rfl : j285 = nI (8192 * x2) := h285.trans (sp_lpe (by omega))
        refine sj_ior C 286 rfl dL_types_285 ?_
        refine sj_iload C 288 rfl dL_types_286 rfl ?_
        refine sj_bipush C (14) 290 rfl dL_types_288 (by decide) ?_
        refine sj_ishl C 291 rfl dL_types_290 ?_
        refine sj_ior C 292 rfl dL_types_291 ?_
        refine sj_iload C 294 rfl dL_types_292 rfl ?_
        refine sj_bipush C (18) 296 rfl dL_types_294 (by decide) ?_
        refine sj_ishl C 297 rfl dL_types_296 ?_
        refine sj_ior C 298 rfl dL_types_297 ?_
        rw [show (((nI (x0) ||| (nI (x1) <<< (7 &&& 31))) ||| nI (8192 * x2)) ||| (nI (x3) <<< (14 &&& 31))) ||| (nI (x4) <<< (18 &&& 31)) = sp_pk (x0, x1, x2, x3, x4) from sp_pack hxb]
        have kd_rt := hY.2.2.1.1
        have il_rt := hY.2.2.1.2
        refine sj_iast C 299 rfl dL_types_298 kd_rt (sp_vp il_rt (by omega) (by omega)) ?_
        rw [nI_clamp (by omega)]
        refine sj_iinc_6 C 302 rfl dL_types_299 rfl rfl ?_
        rw [show nI (k) + Int32.ofInt 1 = nI (k + 1) from nI_add _ _]
        refine sj_goto C 30 rfl dL_types_302 ?_
        refine sj_for [some (.ref (g 141)), some (.int (v)), some (.int (nI (sh))), some (.ref rt), some (.int (nI (1 + (sp_lw v 5)))), some (.int (nI (sp_lw (v >>> (3 &&& 31)) 61) - 30)), some (.int (nI (k + 1))), none, none, none, none, none, none] (show _ ∧ _ ∧ _ ∧ _ ∧ _ ∧ _ ∧ _ ∧ True from ⟨rfl, rfl, rfl, rfl, rfl, rfl, rfl, trivial⟩) ?_
        refine ih_30 hlt _ (upd TR (8 * sh + k) (sp_pk (x0, x1, x2, x3, x4))) (cl) (sl) ?_ (fun e he => ?_) (fun i hi => ?_) (by omega) (by omega)
        · have hs1 := sp_sto hrl hY (8 * sh + k) (sp_pk (x0, x1, x2, x3, x4))
          have hT1 : sp_txt (fun e => sp_sx v (sp_x v e)) (k + 1) = ((((((((sp_txt (fun e => sp_sx v (sp_x v e)) k ++ sp_opt (0 < k) [44]) ++ sp_opt (x0 < 45) [45]) ++ sp_num (sp_ab x0)) ++ [58]) ++ sp_num x1) ++ sp_opt (0 < x2) [111]) ++ [112]) ++ sp_num x3) ++ sp_opt (0 < x4) (126 :: sp_num x4) := by
            rw [sp_txt_s]
            show sp_txt (fun e => sp_sx v (sp_x v e)) k ++ (sp_opt (0 < k) [44] ++ sp_stk (sp_sx v (sp_x v k))) = _
            rw [hx]
            show sp_txt (fun e => sp_sx v (sp_x v e)) k ++ (sp_opt (0 < k) [44] ++ (sp_opt (x0 < 45) [45] ++ (sp_num (sp_ab x0) ++ (58 :: (sp_num x1 ++ (sp_opt (0 < x2) [111] ++ (112 :: (sp_num x3 ++ sp_opt (0 < x4) (126 :: sp_num x4))))))))) = _
            simp only [List.append_assoc, List.cons_append, List.nil_append]
          rw [hT1]
          exact hs1
        · by_cases h9 : e = k
          · rw [h9, sj_upd_self, ← hx]
          · rw [sj_upd_ne _ _ (by omega)]
            exact hP e (by omega)
        · rw [sj_upd_ne _ _ (by omega)]
          exact hO i hi
      refine sj_if_eq C 284 278 rfl rfl dL_types_275 (fun c_275 => ?_) (fun c_275 => ?_)
      · refine sj_iconstv C (0) 285 rfl dL_types_284 rfl ?_
        exact cut_285 _  ((if_pos c_275).symm)
      · refine sj_sipush C (8192) 281 rfl dL_types_278 (by decide) ?_
        refine sj_goto C 285 rfl dL_types_281 ?_
        exact cut_285 _  ((if_neg c_275).symm)
    have cut_223 : k < (1 + sp_lw v 5) → ∀ (U : sj_St) (cl sl : Nat), sp_Y S U g m hs ms p q Q rt N ((((((sp_txt (fun e => sp_sx v (sp_x v e)) k ++ sp_opt (0 < k) [44]) ++ sp_opt (x0 < 45) [45]) ++ sp_num (sp_ab x0)) ++ [58]) ++ sp_num x1) ++ sp_opt (0 < x2) [111]) TR → cl ≤ 5 + 14 * k + 8 → sl ≤ 30 + 84 * k + 48 → sj_G X U cl sl [some (.ref (g 141)), some (.int (v)), some (.int (nI (sh))), some (.ref rt), some (.int (nI (1 + (sp_lw v 5)))), some (.int (nI (sp_lw (v >>> (3 &&& 31)) 61) - 30)), some (.int (nI (k))), some (.int (sp_x v k)), some (.int (nI x0 - 45)), some (.int (nI (x1))), some (.int (nI (x3))), some (.int (nI (x4))), some (.int (nI (x2)))] 223 [] := by
      intro hlt U cl sl hY hcl hsl
      refine sj_aload_n C 224 rfl dL_types_223 rfl rfl ?_
      refine sj_bipush C (112) 226 rfl dL_types_224 (by decide) ?_
      obtain ⟨r1, hM1⟩ := sp_app _ hrt hI hY (c := 112) ⟨by omega, by omega⟩ (by first | omega | (simp only [List.length_append, List.length_cons, List.length_nil]; omega))
      refine sj_callSW C (sj_hN C) 229 rfl dL_types_226 cw_L_77 (sj_fitO rfl rfl (show cl + 1 ≤ 80 by omega) (show sl + 6 ≤ 480 by omega)) hM1 rfl rfl rfl (fun v1 U1 hp1 => ?_)
      obtain ⟨rfl, hY1⟩ := hp1
      refine sj_pop C 230 rfl dL_types_229 rfl ?_
      refine sj_aload_n C 231 rfl dL_types_230 rfl rfl ?_
      refine sj_iload C 233 rfl dL_types_231 rfl ?_
      refine sj_callS C 236 rfl dL_types_233 cn_L_89 (sj_fitO rfl rfl (show cl + 1 + 2 ≤ 80 by omega) (show sl + 6 + 12 ≤ 480 by omega)) (ct_L_number _ hrt hI hY1 (v := x3) (by omega) (by simp only [List.length_append, List.length_cons, List.length_nil]; omega)) rfl rfl rfl (fun v2 U2 hp2 => ?_)
      obtain ⟨rfl, hY2⟩ := hp2
      refine sj_iload C 238 rfl dL_types_236 rfl ?_
      refine sj_if_le C 254 241 rfl rfl dL_types_238 (fun c_238 => ?_) (fun c_238 => ?_)
      · have hb254 : ¬ 0 < x4 := fun h9 => nI_nle h9 (by omega) c_238
        refine cut_254 hlt _ (cl + 1 + 2) (sl + 6 + 12) ?_ (by omega) (by omega)
        rw [show sp_opt (0 < x4) (126 :: sp_num x4) = [] from if_neg hb254, List.append_nil]
        exact hY2
      · refine sj_aload_n C 242 rfl dL_types_241 rfl rfl ?_
        refine sj_bipush C (126) 244 rfl dL_types_242 (by decide) ?_
        obtain ⟨r3, hM3⟩ := sp_app _ hrt hI hY2 (c := 126) ⟨by omega, by omega⟩ (by first | omega | (simp only [List.length_append, List.length_cons, List.length_nil]; omega))
        refine sj_callSW C (sj_hN C) 247 rfl dL_types_244 cw_L_77 (sj_fitO rfl rfl (show cl + 1 + 2 + 1 ≤ 80 by omega) (show sl + 6 + 12 + 6 ≤ 480 by omega)) hM3 rfl rfl rfl (fun v3 U3 hp3 => ?_)
        obtain ⟨rfl, hY3⟩ := hp3
        refine sj_pop C 248 rfl dL_types_247 rfl ?_
        refine sj_aload_n C 249 rfl dL_types_248 rfl rfl ?_
        refine sj_iload C 251 rfl dL_types_249 rfl ?_
        refine sj_callS C 254 rfl dL_types_251 cn_L_89 (sj_fitO rfl rfl (show cl + 1 + 2 + 1 + 2 ≤ 80 by omega) (show sl + 6 + 12 + 6 + 12 ≤ 480 by omega)) (ct_L_number _ hrt hI hY3 (v := x4) (by omega) (by simp only [List.length_append, List.length_cons, List.length_nil]; omega)) rfl rfl rfl (fun v4 U4 hp4 => ?_)
        obtain ⟨rfl, hY4⟩ := hp4
        have hb254 : 0 < x4 := Nat.pos_of_ne_zero (fun h9 => c_238 (by rw [h9]; decide))
        refine cut_254 hlt _ (cl + 1 + 2 + 1 + 2) (sl + 6 + 12 + 6 + 12) ?_ (by omega) (by omega)
        rw [show sp_opt (0 < x4) (126 :: sp_num x4) = (126 :: sp_num x4) from if_pos hb254]
        rw [show (126 :: sp_num x4) = [126] ++ sp_num x4 from rfl, ← List.append_assoc]
        exact hY4
    have cut_181 : k < (1 + sp_lw v 5) → ∀ (U : sj_St) (cl sl : Nat), sp_Y S U g m hs ms p q Q rt N ((sp_txt (fun e => sp_sx v (sp_x v e)) k ++ sp_opt (0 < k) [44]) ++ sp_opt (x0 < 45) [45]) TR → cl ≤ 5 + 14 * k + 2 → sl ≤ 30 + 84 * k + 12 → sj_G X U cl sl [some (.ref (g 141)), some (.int (v)), some (.int (nI (sh))), some (.ref rt), some (.int (nI (1 + (sp_lw v 5)))), some (.int (nI (sp_lw (v >>> (3 &&& 31)) 61) - 30)), some (.int (nI (k))), some (.int (sp_x v k)), some (.int (nI x0 - 45)), some (.int (nI (x1))), some (.int (nI (x3))), some (.int (nI (x4))), some (.int (nI (x2)))] 181 [] := by
      intro hlt U cl sl hY hcl hsl
      refine sj_aload_n C 182 rfl dL_types_181 rfl rfl ?_
      refine sj_iload C 184 rfl dL_types_182 rfl ?_
      have cut_195 : ∀ j195 : Int32, (j195 = if 0 ≤ (nI x0 - 45) then nI x0 - 45 else -(nI x0 - 45)) → sj_G X U cl sl [some (.ref (g 141)), some (.int (v)), some (.int (nI (sh))), some (.ref rt), some (.int (nI (1 + (sp_lw v 5)))), some (.int (nI (sp_lw (v >>> (3 &&& 31)) 61) - 30)), some (.int (nI (k))), some (.int (sp_x v k)), some (.int (nI x0 - 45)), some (.int (nI (x1))), some (.int (nI (x3))), some (.int (nI (x4))), some (.int (nI (x2)))] 195 [.int (j195), .ref (g 141)] := by
        intro j195 h195
        obtain rfl : j195 = nI (sp_ab x0) := h195.trans (sp_abe (by omega))
        refine sj_callS C 198 rfl dL_types_195 cn_L_89 (sj_fitO rfl rfl (show cl + 2 ≤ 80 by omega) (show sl + 12 ≤ 480 by omega)) (ct_L_number _ hrt hI hY (v := sp_ab x0) (by omega) (by simp only [List.length_append, List.length_cons, List.length_nil]; omega)) rfl rfl rfl (fun v5 U5 hp5 => ?_)
        obtain ⟨rfl, hY5⟩ := hp5
        refine sj_aload_n C 199 rfl dL_types_198 rfl rfl ?_
        refine sj_bipush C (58) 201 rfl dL_types_199 (by decide) ?_
        obtain ⟨r6, hM6⟩ := sp_app _ hrt hI hY5 (c := 58) ⟨by omega, by omega⟩ (by first | omega | (simp only [List.length_append, List.length_cons, List.length_nil]; omega))
        refine sj_callSW C (sj_hN C) 204 rfl dL_types_201 cw_L_77 (sj_fitO rfl rfl (show cl + 2 + 1 ≤ 80 by omega) (show sl + 12 + 6 ≤ 480 by omega)) hM6 rfl rfl rfl (fun v6 U6 hp6 => ?_)
        obtain ⟨rfl, hY6⟩ := hp6
        refine sj_pop C 205 rfl dL_types_204 rfl ?_
        refine sj_aload_n C 206 rfl dL_types_205 rfl rfl ?_
        refine sj_iload C 208 rfl dL_types_206 rfl ?_
        refine sj_callS C 211 rfl dL_types_208 cn_L_89 (sj_fitO rfl rfl (show cl + 2 + 1 + 2 ≤ 80 by omega) (show sl + 12 + 6 + 12 ≤ 480 by omega)) (ct_L_number _ hrt hI hY6 (v := x1) (by omega) (by simp only [List.length_append, List.length_cons, List.length_nil]; omega)) rfl rfl rfl (fun v7 U7 hp7 => ?_)
        obtain ⟨rfl, hY7⟩ := hp7
        refine sj_iload C 213 rfl dL_types_211 rfl ?_
        refine sj_if_eq C 223 216 rfl rfl dL_types_213 (fun c_213 => ?_) (fun c_213 => ?_)
        · have hb223 : ¬ 0 < x2 := fun h9 => nI_ne0 h9 (by omega) c_213
          refine cut_223 hlt _ (cl + 2 + 1 + 2) (sl + 12 + 6 + 12) ?_ (by omega) (by omega)
          rw [show sp_opt (0 < x2) [111] = [] from if_neg hb223, List.append_nil]
          exact hY7
        · refine sj_aload_n C 217 rfl dL_types_216 rfl rfl ?_
          refine sj_bipush C (111) 219 rfl dL_types_217 (by decide) ?_
          obtain ⟨r8, hM8⟩ := sp_app _ hrt hI hY7 (c := 111) ⟨by omega, by omega⟩ (by first | omega | (simp only [List.length_append, List.length_cons, List.length_nil]; omega))
          refine sj_callSW C (sj_hN C) 222 rfl dL_types_219 cw_L_77 (sj_fitO rfl rfl (show cl + 2 + 1 + 2 + 1 ≤ 80 by omega) (show sl + 12 + 6 + 12 + 6 ≤ 480 by omega)) hM8 rfl rfl rfl (fun v8 U8 hp8 => ?_)
          obtain ⟨rfl, hY8⟩ := hp8
          refine sj_pop C 223 rfl dL_types_222 rfl ?_
          have hb223 : 0 < x2 := Nat.pos_of_ne_zero (fun h9 => c_213 (by rw [h9]; rfl))
          refine cut_223 hlt _ (cl + 2 + 1 + 2 + 1) (sl + 12 + 6 + 12 + 6) ?_ (by omega) (by omega)
          rw [show sp_opt (0 < x2) [111] = [111] from if_pos hb223]
          exact hY8
      refine sj_if_ge C 193 187 rfl rfl dL_types_184 (fun c_184 => ?_) (fun c_184 => ?_)
      · refine sj_iload C 195 rfl dL_types_193 rfl ?_
        exact cut_195 _  ((if_pos c_184).symm)
      · refine sj_iload C 189 rfl dL_types_187 rfl ?_
        refine sj_ineg C 190 rfl dL_types_189 ?_
        refine sj_goto C 195 rfl dL_types_190 ?_
        exact cut_195 _  ((if_neg c_184).symm)
    have cut_169 : k < (1 + sp_lw v 5) → ∀ (U : sj_St) (cl sl : Nat), sp_Y S U g m hs ms p q Q rt N (sp_txt (fun e => sp_sx v (sp_x v e)) k ++ sp_opt (0 < k) [44]) TR → cl ≤ 5 + 14 * k + 1 → sl ≤ 30 + 84 * k + 6 → sj_G X U cl sl [some (.ref (g 141)), some (.int (v)), some (.int (nI (sh))), some (.ref rt), some (.int (nI (1 + (sp_lw v 5)))), some (.int (nI (sp_lw (v >>> (3 &&& 31)) 61) - 30)), some (.int (nI (k))), some (.int (sp_x v k)), some (.int (nI x0 - 45)), some (.int (nI (x1))), some (.int (nI (x3))), some (.int (nI (x4))), some (.int (nI (x2)))] 169 [] := by
      intro hlt U cl sl hY hcl hsl
      refine sj_iload C 171 rfl dL_types_169 rfl ?_
      refine sj_if_ge C 181 174 rfl rfl dL_types_171 (fun c_171 => ?_) (fun c_171 => ?_)
      · have hb181 : ¬ x0 < 45 := (sp_le0 (by omega)).mp c_171
        refine cut_181 hlt _ (cl) (sl) ?_ (by omega) (by omega)
        rw [show sp_opt (x0 < 45) [45] = [] from if_neg hb181, List.append_nil]
        exact hY
      · refine sj_aload_n C 175 rfl dL_types_174 rfl rfl ?_
        refine sj_bipush C (45) 177 rfl dL_types_175 (by decide) ?_
        obtain ⟨r9, hM9⟩ := sp_app _ hrt hI hY (c := 45) ⟨by omega, by omega⟩ (by first | omega | (simp only [List.length_append, List.length_cons, List.length_nil]; omega))
        refine sj_callSW C (sj_hN C) 180 rfl dL_types_177 cw_L_77 (sj_fitO rfl rfl (show cl + 1 ≤ 80 by omega) (show sl + 6 ≤ 480 by omega)) hM9 rfl rfl rfl (fun v9 U9 hp9 => ?_)
        obtain ⟨rfl, hY9⟩ := hp9
        refine sj_pop C 181 rfl dL_types_180 rfl ?_
        have hb181 : x0 < 45 := Decidable.not_not.mp (fun h9 => c_171 ((sp_le0 (by omega)).mpr h9))
        refine cut_181 hlt _ (cl + 1) (sl + 6) ?_ (by omega) (by omega)
        rw [show sp_opt (x0 < 45) [45] = [45] from if_pos hb181]
        exact hY9
    refine sj_iload C 32 rfl dL_types_30 rfl ?_
    refine sj_iload C 34 rfl dL_types_32 rfl ?_
    refine sj_icmp_ge C 305 37 rfl rfl dL_types_34 (fun c_34 => ?_) (fun c_34 => ?_)
    · have hkK : k = (1 + sp_lw v 5) := by
        have h99 : ¬ k < (1 + sp_lw v 5) := fun h9 => nI_ge h9 (by omega) c_34
        omega
      refine sj_iload C 307 rfl dL_types_305 rfl ?_
      refine sj_iret C hR rfl (sp_fit2 (show cl ≤ 80 by omega) (show sl ≤ 480 by omega)) dL_types_307 ?_
      exact ⟨rfl, TR, hkK ▸ hY, fun e he => hP e (by omega), hO⟩
    · have hlt : k < (1 + sp_lw v 5) := Nat.not_le.mp (fun h9 => c_34 (nI_le h9 (by omega)))
      refine sj_iload_n C 38 rfl dL_types_37 rfl rfl ?_
      refine sj_iconstv C (2) 39 rfl dL_types_38 rfl ?_
      refine sj_iload C 41 rfl dL_types_39 rfl ?_
      refine sj_imul C 42 rfl dL_types_41 ?_
      rw [show 2 * nI (k) = nI (2 * k) from sj_nmul 2 k]
      refine sj_iconstv C (3) 43 rfl dL_types_42 rfl ?_
      refine sj_iadd C 44 rfl dL_types_43 ?_
      rw [show nI (2 * k) + 3 = nI ((2 * k) + 3) from nI_add (2 * k) 3]
      refine sj_imul C 45 rfl dL_types_44 ?_
      refine sj_iconstv C (5) 46 rfl dL_types_45 rfl ?_
      refine sj_ishr C 47 rfl dL_types_46 ?_
      refine sj_ldc C (16777215) 49 rfl (wr_6 _ (List.mem_of_getElem? (i := 2) (by decide +kernel))) dL_types_47 ?_
      refine sj_iand C 50 rfl dL_types_49 ?_
      rw [show ((v * nI ((2 * k) + 3)) >>> (5 &&& 31)) &&& 16777215 = sp_x v k from rfl]
      refine sj_istore_7 C 52 rfl dL_types_50 rfl rfl ?_
      refine sj_iload C 54 rfl dL_types_52 rfl ?_
      refine sj_iload C 56 rfl dL_types_54 rfl ?_
      refine sj_bipush C (9) 58 rfl dL_types_56 (by decide) ?_
      refine sj_callSd C 61 rfl dL_types_58 cv_L_85 (sj_fitO rfl rfl (show cl + 0 ≤ 80 by omega) (show sl + 0 ≤ 480 by omega)) (ct_L_low _ _ (sp_x v k) _ (by decide)) rfl rfl rfl ⟨rfl, rfl⟩ ?_
      rw [show sp_low (sp_x v k) 9 = nI (sp_lw (sp_x v k) 9) from sp_lw_e _ (n := 9) (by omega) (by omega)]
      refine sj_iadd C 62 rfl dL_types_61 ?_
      refine sj_iconstv C (4) 63 rfl dL_types_62 rfl ?_
      refine sj_isub C 64 rfl dL_types_63 ?_
      rw [show ((nI (sp_lw (v >>> (3 &&& 31)) 61) - 30) + nI (sp_lw (sp_x v k) 9)) - 4 = nI x0 - 45 from (sp_its _ _).trans (by rw [hx0])]
      refine sj_istore_8 C 66 rfl dL_types_64 rfl rfl ?_
      refine sj_bipush C (10) 68 rfl dL_types_66 (by decide) ?_
      refine sj_iload C 70 rfl dL_types_68 rfl ?_
      refine sj_iconstv C (3) 71 rfl dL_types_70 rfl ?_
      refine sj_ishr C 72 rfl dL_types_71 ?_
      refine sj_iload_n C 73 rfl dL_types_72 rfl rfl ?_
      refine sj_bipush C (9) 75 rfl dL_types_73 (by decide) ?_
      refine sj_ishr C 76 rfl dL_types_75 ?_
      refine sj_iconstv C (3) 77 rfl dL_types_76 rfl ?_
      refine sj_callSd C 80 rfl dL_types_77 cv_L_85 (sj_fitO rfl rfl (show cl + 0 ≤ 80 by omega) (show sl + 0 ≤ 480 by omega)) (ct_L_low _ _ (v >>> (9 &&& 31)) _ (by decide)) rfl rfl rfl ⟨rfl, rfl⟩ ?_
      rw [show sp_low (v >>> (9 &&& 31)) 3 = nI (sp_lw (v >>> (9 &&& 31)) 3) from sp_lw_e _ (n := 3) (by omega) (by omega)]
      have cut_90 : ∀ j90 : Int32, (j90 = if nI (sp_lw (v >>> (9 &&& 31)) 3) = 0 then 51 else 8) → sj_G X U cl sl [some (.ref (g 141)), some (.int (v)), some (.int (nI (sh))), some (.ref rt), some (.int (nI (1 + (sp_lw v 5)))), some (.int (nI (sp_lw (v >>> (3 &&& 31)) 61) - 30)), some (.int (nI (k))), some (.int (sp_x v k)), some (.int (nI x0 - 45)), none, none, none, none] 90 [.int (j90), .int ((sp_x v k) >>> (3 &&& 31)), .int (10)] := by
        intro j90 h90
        obtain rfl : j90 = nI (sp_hb v) := h90.trans (sp_hbe v)
        refine sj_callSd C 93 rfl dL_types_90 cv_L_85 (sj_fitO rfl rfl (show cl + 0 ≤ 80 by omega) (show sl + 0 ≤ 480 by omega)) (ct_L_low _ _ ((sp_x v k) >>> (3 &&& 31)) _ (sp_hb0 v)) rfl rfl rfl ⟨rfl, rfl⟩ ?_
        rw [show sp_low ((sp_x v k) >>> (3 &&& 31)) (nI (sp_hb v)) = nI (sp_lw ((sp_x v k) >>> (3 &&& 31)) (sp_hb v)) from sp_lw_e _ (sp_hb1 v) (sp_hb2 v)]
        refine sj_iadd C 94 rfl dL_types_93 ?_
        rw [show (10 : Int32) + nI (sp_lw ((sp_x v k) >>> (3 &&& 31)) (sp_hb v)) = nI (10 + (sp_lw ((sp_x v k) >>> (3 &&& 31)) (sp_hb v))) from nI_add 10 (sp_lw ((sp_x v k) >>> (3 &&& 31)) (sp_hb v))]
        rw [show nI (10 + (sp_lw ((sp_x v k) >>> (3 &&& 31)) (sp_hb v))) = nI x1 from congrArg nI hx1]
        refine sj_istore_9 C 96 rfl dL_types_94 rfl rfl ?_
        refine sj_iconstv C (1) 97 rfl dL_types_96 rfl ?_
        refine sj_iload C 99 rfl dL_types_97 rfl ?_
        refine sj_bipush C (7) 101 rfl dL_types_99 (by decide) ?_
        refine sj_ishr C 102 rfl dL_types_101 ?_
        refine sj_bipush C (9) 104 rfl dL_types_102 (by decide) ?_
        refine sj_callSd C 107 rfl dL_types_104 cv_L_85 (sj_fitO rfl rfl (show cl + 0 ≤ 80 by omega) (show sl + 0 ≤ 480 by omega)) (ct_L_low _ _ ((sp_x v k) >>> (7 &&& 31)) _ (by decide)) rfl rfl rfl ⟨rfl, rfl⟩ ?_
        rw [show sp_low ((sp_x v k) >>> (7 &&& 31)) 9 = nI (sp_lw ((sp_x v k) >>> (7 &&& 31)) 9) from sp_lw_e _ (n := 9) (by omega) (by omega)]
        refine sj_iadd C 108 rfl dL_types_107 ?_
        rw [show (1 : Int32) + nI (sp_lw ((sp_x v k) >>> (7 &&& 31)) 9) = nI (1 + (sp_lw ((sp_x v k) >>> (7 &&& 31)) 9)) from nI_add 1 (sp_lw ((sp_x v k) >>> (7 &&& 31)) 9)]
        rw [show nI (1 + (sp_lw ((sp_x v k) >>> (7 &&& 31)) 9)) = nI x3 from congrArg nI hx3]
        refine sj_istore_10 C 110 rfl dL_types_108 rfl rfl ?_
        refine sj_iload C 112 rfl dL_types_110 rfl ?_
        refine sj_bipush C (11) 114 rfl dL_types_112 (by decide) ?_
        refine sj_ishr C 115 rfl dL_types_114 ?_
        refine sj_iconstv C (3) 116 rfl dL_types_115 rfl ?_
        refine sj_callSd C 119 rfl dL_types_116 cv_L_85 (sj_fitO rfl rfl (show cl + 0 ≤ 80 by omega) (show sl + 0 ≤ 480 by omega)) (ct_L_low _ _ ((sp_x v k) >>> (11 &&& 31)) _ (by decide)) rfl rfl rfl ⟨rfl, rfl⟩ ?_
        rw [show sp_low ((sp_x v k) >>> (11 &&& 31)) 3 = nI (sp_lw ((sp_x v k) >>> (11 &&& 31)) 3) from sp_lw_e _ (n := 3) (by omega) (by omega)]
        have cut_136 : ∀ j136 : Int32, (j136 = if nI (sp_lw ((sp_x v k) >>> (11 &&& 31)) 3) = 0 then nI (sp_lw ((sp_x v k) >>> (13 &&& 31)) 10) else 0) → sj_G X U cl sl [some (.ref (g 141)), some (.int (v)), some (.int (nI (sh))), some (.ref rt), some (.int (nI (1 + (sp_lw v 5)))), some (.int (nI (sp_lw (v >>> (3 &&& 31)) 61) - 30)), some (.int (nI (k))), some (.int (sp_x v k)), some (.int (nI x0 - 45)), some (.int (nI (x1))), some (.int (nI (x3))), none, none] 136 [.int (j136)] := by
          intro j136 h136
          obtain rfl : j136 = nI (x4) := h136.trans ((sp_she (sp_lw_lt _ (by omega) (by omega))).trans (congrArg nI hx4))
          refine sj_istore_11 C 138 rfl dL_types_136 rfl rfl ?_
          refine sj_iload C 140 rfl dL_types_138 rfl ?_
          refine sj_bipush C (17) 142 rfl dL_types_140 (by decide) ?_
          refine sj_ishr C 143 rfl dL_types_142 ?_
          refine sj_iconstv C (3) 144 rfl dL_types_143 rfl ?_
          refine sj_callSd C 147 rfl dL_types_144 cv_L_85 (sj_fitO rfl rfl (show cl + 0 ≤ 80 by omega) (show sl + 0 ≤ 480 by omega)) (ct_L_low _ _ ((sp_x v k) >>> (17 &&& 31)) _ (by decide)) rfl rfl rfl ⟨rfl, rfl⟩ ?_
          rw [show sp_low ((sp_x v k) >>> (17 &&& 31)) 3 = nI (sp_lw ((sp_x v k) >>> (17 &&& 31)) 3) from sp_lw_e _ (n := 3) (by omega) (by omega)]
          have cut_155 : ∀ j155 : Int32, (j155 = if nI (sp_lw ((sp_x v k) >>> (17 &&& 31)) 3) ≤ 0 then 0 else 1) → sj_G X U cl sl [some (.ref (g 141)), some (.int (v)), some (.int (nI (sh))), some (.ref rt), some (.int (nI (1 + (sp_lw v 5)))), some (.int (nI (sp_lw (v >>> (3 &&& 31)) 61) - 30)), some (.int (nI (k))), some (.int (sp_x v k)), some (.int (nI x0 - 45)), some (.int (nI (x1))), some (.int (nI (x3))), some (.int (nI (x4))), none] 155 [.int (j155)] := by
            intro j155 h155
            obtain rfl : j155 = nI (x2) := h155.trans ((sp_hae (sp_lw_lt _ (by omega) (by omega))).trans (congrArg nI hx2))
            refine sj_istore_12 C 157 rfl dL_types_155 rfl rfl ?_
            refine sj_iload C 159 rfl dL_types_157 rfl ?_
            refine sj_if_le C 169 162 rfl rfl dL_types_159 (fun c_159 => ?_) (fun c_159 => ?_)
            · have hb169 : ¬ 0 < k := fun h9 => nI_nle h9 (by omega) c_159
              refine cut_169 hlt _ (cl) (sl) ?_ (by omega) (by omega)
              rw [show sp_opt (0 < k) [44] = [] from if_neg hb169, List.append_nil]
              exact hY
            · refine sj_aload_n C 163 rfl dL_types_162 rfl rfl ?_
              refine sj_bipush C (44) 165 rfl dL_types_163 (by decide) ?_
              obtain ⟨r10, hM10⟩ := sp_app _ hrt hI hY (c := 44) ⟨by omega, by omega⟩ (by first | omega | (simp only [List.length_append, List.length_cons, List.length_nil]; omega))
              refine sj_callSW C (sj_hN C) 168 rfl dL_types_165 cw_L_77 (sj_fitO rfl rfl (show cl + 1 ≤ 80 by omega) (show sl + 6 ≤ 480 by omega)) hM10 rfl rfl rfl (fun v10 U10 hp10 => ?_)
              obtain ⟨rfl, hY10⟩ := hp10
              refine sj_pop C 169 rfl dL_types_168 rfl ?_
              have hb169 : 0 < k := Nat.pos_of_ne_zero (fun h9 => c_159 (by rw [h9]; decide))
              refine cut_169 hlt _ (cl + 1) (sl + 6) ?_ (by omega) (by omega)
              rw [show sp_opt (0 < k) [44] = [44] from if_pos hb169]
              exact hY10
          refine sj_if_le C 154 150 rfl rfl dL_types_147 (fun c_147 => ?_) (fun c_147 => ?_)
          · refine sj_iconstv C (0) 155 rfl dL_types_154 rfl ?_
            exact cut_155 _  ((if_pos c_147).symm)
          · refine sj_iconstv C (1) 151 rfl dL_types_150 rfl ?_
            refine sj_goto C 155 rfl dL_types_151 ?_
            exact cut_155 _  ((if_neg c_147).symm)
        refine sj_if_ne C 135 122 rfl rfl dL_types_119 (fun c_119 => ?_) (fun c_119 => ?_)
        · refine sj_iconstv C (0) 136 rfl dL_types_135 rfl ?_
          exact cut_136 _  ((if_neg c_119).symm)
        · refine sj_iload C 124 rfl dL_types_122 rfl ?_
          refine sj_bipush C (13) 126 rfl dL_types_124 (by decide) ?_
          refine sj_ishr C 127 rfl dL_types_126 ?_
          refine sj_bipush C (10) 129 rfl dL_types_127 (by decide) ?_
          refine sj_callSd C 132 rfl dL_types_129 cv_L_85 (sj_fitO rfl rfl (show cl + 0 ≤ 80 by omega) (show sl + 0 ≤ 480 by omega)) (ct_L_low _ _ ((sp_x v k) >>> (13 &&& 31)) _ (by decide)) rfl rfl rfl ⟨rfl, rfl⟩ ?_
          rw [show sp_low ((sp_x v k) >>> (13 &&& 31)) 10 = nI (sp_lw ((sp_x v k) >>> (13 &&& 31)) 10) from sp_lw_e _ (n := 10) (by omega) (by omega)]
          refine sj_goto C 136 rfl dL_types_132 ?_
          exact cut_136 _  ((if_pos c_119).symm)
      refine sj_if_ne C 88 83 rfl rfl dL_types_80 (fun c_80 => ?_) (fun c_80 => ?_)
      · refine sj_bipush C (8) 90 rfl dL_types_88 (by decide) ?_
        exact cut_90 _  ((if_neg c_80).symm)
      · refine sj_bipush C (51) 85 rfl dL_types_83 (by decide) ?_
        refine sj_goto C 90 rfl dL_types_85 ?_
        exact cut_90 _  ((if_pos c_80).symm)
  refine sj_aload_n C 1 rfl dL_types_0 rfl rfl ?_
  obtain ⟨r0, hM0⟩ := sp_clr0 _ hrt hI hW hk
  refine sj_callVp C 4 rfl dL_types_1 cv_L_82 rfl hM0 rfl rfl rfl ⟨6, _, hW.1.1.1, rfl, rfl, by decide⟩ ⟨rfl, rfl⟩ (fun v0 U0 hp0 => ?_)
  obtain ⟨rfl, hY0⟩ := hp0
  refine sj_pop C 5 rfl dL_types_4 rfl ?_
  refine sj_iconstv C (1) 6 rfl dL_types_5 rfl ?_
  refine sj_iload_n C 7 rfl dL_types_6 rfl rfl ?_
  refine sj_iconstv C (5) 8 rfl dL_types_7 rfl ?_
  refine sj_callSd C 11 rfl dL_types_8 cv_L_85 rfl (ct_L_low _ _ (v) _ (by decide)) rfl rfl rfl ⟨rfl, rfl⟩ ?_
  rw [show sp_low v 5 = nI (sp_lw v 5) from sp_lw_e _ (n := 5) (by omega) (by omega)]
  refine sj_iadd C 12 rfl dL_types_11 ?_
  rw [show (1 : Int32) + nI (sp_lw v 5) = nI (1 + (sp_lw v 5)) from nI_add 1 (sp_lw v 5)]
  refine sj_istore_4 C 14 rfl dL_types_12 rfl rfl ?_
  refine sj_iload_n C 15 rfl dL_types_14 rfl rfl ?_
  refine sj_iconstv C (3) 16 rfl dL_types_15 rfl ?_
  refine sj_ishr C 17 rfl dL_types_16 ?_
  refine sj_bipush C (61) 19 rfl dL_types_17 (by decide) ?_
  refine sj_callSd C 22 rfl dL_types_19 cv_L_85 rfl (ct_L_low _ _ (v >>> (3 &&& 31)) _ (by decide)) rfl rfl rfl ⟨rfl, rfl⟩ ?_
  rw [show sp_low (v >>> (3 &&& 31)) 61 = nI (sp_lw (v >>> (3 &&& 31)) 61) from sp_lw_e _ (n := 61) (by omega) (by omega)]
  refine sj_bipush C (30) 24 rfl dL_types_22 (by decide) ?_
  refine sj_isub C 25 rfl dL_types_24 ?_
  refine sj_istore_5 C 27 rfl dL_types_25 rfl rfl ?_
  refine sj_iconstv C (0) 28 rfl dL_types_27 rfl ?_
  refine sj_istore_6 C 30 rfl dL_types_28 rfl rfl ?_
  exact cut_30 _ _ _ _ hY0 (fun e he => absurd he (Nat.not_lt_zero e)) (fun i _ => rfl) (by omega) (by omega)
