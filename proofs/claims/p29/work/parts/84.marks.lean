/-! THE LAW: marks, tolerances, what trembles, oaths found -/
theorem sp_nsne {n : Nat} (h1 : 1 ≤ n) (h8 : n ≤ 8) : ¬ nI n = 0 := nI_ne0 (by omega) (by omega)
theorem sp_ns1ne {n : Nat} (h1 : 1 ≤ n) (h8 : n ≤ 8) (h : ¬ n = 1) : ¬ nI n - 1 = 0 := by
  rw [show nI n - 1 = nI (n - 1) from sj_nsub (b := 1) h1]
  exact nI_ne0 (by omega) (by omega)
theorem sp_hn0 {m : Nat → Int32} (hI : sj_inv m) {i : Nat} (hi : i < sj_tn (m 9)) {x : Int32} (e : x = sj_sum (fun e => sj_os m i e 1) (sj_ns m i)) : ¬ x / nI (sj_ns m i) = 0 := by
  rw [e]
  exact (sj_inv_shs hI i hi).2.2.2.2
theorem sp_by_k {m : Nat → Int32} {i k : Nat} (hi : i < 8) (hk : k < 8) {j : Int32} (h : j = if nI (8 * i + k) = nI (8 * i) then 0 else sj_os m i k 3 - sj_os m i (k - 1) 3) : j = sp_by m i k := by
  rw [h]
  unfold sp_by
  by_cases h0 : k = 0
  · rw [if_pos h0, if_pos (by rw [h0]; rfl)]
  · rw [if_neg h0, if_neg (fun e => h0 (by have := (nI_eq (by omega) (by omega)).mp e; omega))]
set_option maxRecDepth 100000 in
theorem sp_dv : ∀ t, t < 721 → ∀ b, b < 8 → nI t / nI (b + 1) - 45 = sj_dv (nI t - nI (45 * (b + 1))) (nI (b + 1)) := by decide +kernel
theorem sp_mk0 {m : Nat → Int32} (hI : sj_inv m) {i : Nat} (hi : i < sj_tn (m 9)) : (sj_sum (fun e => sj_os m i e 0) (sj_ns m i) + nI (45 * sj_ns m i)) / nI (sj_ns m i) - 45 = sj_mk m i 0 := by
  obtain ⟨-, ⟨-, n1, n8⟩, hk⟩ := hI.2.2.2.1 i hi
  obtain ⟨t, ht, e⟩ := sj_sl_sum (fun e => sj_os m i e 0) (sj_ns m i) n8 (fun k hk9 => (hk k hk9).1)
  show _ = sj_dv (sj_sum (fun e => sj_os m i e 0) (sj_ns m i)) (nI (sj_ns m i))
  rw [e, Int32.sub_add_cancel]
  obtain ⟨b, hb⟩ : ∃ b, sj_ns m i = b + 1 := ⟨sj_ns m i - 1, by omega⟩
  rw [hb]
  exact sp_dv t (by omega) b (by omega)
theorem sp_mn_mn {m : Nat → Int32} {i : Nat} : ∀ k, (∀ j, j ≤ k → sj_os m i j 0 ≤ 45) → sp_mn m i (k + 1) = sj_mn (fun e => sj_os m i e 0) k
  | 0, h => by
    unfold sp_mn
    rw [show sp_mn m i 0 = 99 from rfl, if_neg (fun h9 => absurd (Int32.le_trans h9 (h 0 (Nat.le_refl 0))) (by decide))]
    rfl
  | k + 1, h => by
    have ih := sp_mn_mn (m := m) (i := i) k (fun j hj => h j (by omega))
    unfold sp_mn
    rw [ih]
    show _ = if sj_os m i (k + 1) 0 < sj_mn (fun e => sj_os m i e 0) k then sj_os m i (k + 1) 0 else sj_mn (fun e => sj_os m i e 0) k
    by_cases h1 : sj_mn (fun e => sj_os m i e 0) k ≤ sj_os m i (k + 1) 0
    · rw [if_pos h1, if_neg (Int32.not_lt.mpr h1)]
    · rw [if_neg h1, if_pos (Int32.not_le.mp h1)]
theorem sp_mx_mx {m : Nat → Int32} {i : Nat} : ∀ k, (∀ j, j ≤ k → -45 ≤ sj_os m i j 0) → sp_mx m i (k + 1) = sj_mx (fun e => sj_os m i e 0) k
  | 0, h => by
    unfold sp_mx
    rw [show sp_mx m i 0 = -99 from rfl, if_neg (fun h9 => absurd (Int32.le_trans (h 0 (Nat.le_refl 0)) h9) (by decide))]
    rfl
  | k + 1, h => by
    have ih := sp_mx_mx (m := m) (i := i) k (fun j hj => h j (by omega))
    unfold sp_mx
    rw [ih]
    show _ = if sj_mx (fun e => sj_os m i e 0) k < sj_os m i (k + 1) 0 then sj_os m i (k + 1) 0 else sj_mx (fun e => sj_os m i e 0) k
    by_cases h1 : sj_os m i (k + 1) 0 ≤ sj_mx (fun e => sj_os m i e 0) k
    · rw [if_pos h1, if_neg (Int32.not_lt.mpr h1)]
    · rw [if_neg h1, if_pos (Int32.not_le.mp h1)]
theorem sp_mk1 {m : Nat → Int32} (hI : sj_inv m) {i : Nat} (hi : i < sj_tn (m 9)) : sp_mx m i (sj_ns m i) - sp_mn m i (sj_ns m i) = sj_mk m i 1 := by
  obtain ⟨-, ⟨-, n1, n8⟩, hk⟩ := hI.2.2.2.1 i hi
  show _ = sj_mx (fun e => sj_os m i e 0) (sj_ns m i - 1) - sj_mn (fun e => sj_os m i e 0) (sj_ns m i - 1)
  rw [← sp_mx_mx _ (fun j hj => (hk j (by omega)).1.1), ← sp_mn_mn _ (fun j hj => (hk j (by omega)).1.2), show sj_ns m i - 1 + 1 = sj_ns m i by omega]
theorem sp_mk2a {m : Nat → Int32} {i : Nat} (h : sj_sum (fun e => sj_os m i e 2) (sj_ns m i) = 0) : (0 : Int32) = sj_mk m i 2 := (if_pos h).symm
theorem sp_mk2b {m : Nat → Int32} {i : Nat} (h : ¬ sj_sum (fun e => sj_os m i e 2) (sj_ns m i) = 0) : sj_sum (fun e => sj_os m i e 2 * sj_os m i e 1) (sj_ns m i) / sj_sum (fun e => sj_os m i e 2) (sj_ns m i) * 10 / (sj_sum (fun e => sj_os m i e 1) (sj_ns m i) / nI (sj_ns m i)) = sj_mk m i 2 := (if_neg h).symm
theorem sp_mk5a {m : Nat → Int32} {i : Nat} (h : sj_ns m i = 1) : (0 : Int32) = sj_mk m i 5 := (if_pos h).symm
theorem sp_ur_sum {m : Nat → Int32} {i : Nat} : ∀ k, sp_ur m i (k + 1) = sj_sum (fun e => sj_sz (sj_os m i (e + 1) 3 - sj_os m i e 3)) k
  | 0 => rfl
  | k + 1 => by
    have ih := sp_ur_sum (m := m) (i := i) k
    show sp_ur m i (k + 1) + (if 0 ≤ sp_by m i (k + 1) then sp_by m i (k + 1) else -sp_by m i (k + 1)) = sj_sum (fun e => sj_sz (sj_os m i (e + 1) 3 - sj_os m i e 3)) k + sj_sz (sj_os m i (k + 1) 3 - sj_os m i k 3)
    rw [ih, show sp_by m i (k + 1) = sj_os m i (k + 1) 3 - sj_os m i k 3 from if_neg (Nat.succ_ne_zero k)]
    unfold sj_sz
    by_cases h : 0 ≤ sj_os m i (k + 1) 3 - sj_os m i k 3
    · rw [if_pos h, if_neg (Int32.not_lt.mpr h)]
    · rw [if_neg h, if_pos (Int32.not_le.mp h)]
theorem sp_mk5b {m : Nat → Int32} {i : Nat} (h1 : 1 ≤ sj_ns m i) (h8 : sj_ns m i ≤ 8) (h : ¬ sj_ns m i = 1) : sp_ur m i (sj_ns m i) * 10 / (nI (sj_ns m i) - 1) = sj_mk m i 5 := by
  refine Eq.trans ?_ (if_neg h).symm
  obtain ⟨k, hk⟩ : ∃ k, sj_ns m i = k + 1 := ⟨sj_ns m i - 1, by omega⟩
  rw [hk, sp_ur_sum, Nat.add_sub_cancel]
set_option maxRecDepth 100000 in
set_option maxHeartbeats 1000000 in
theorem ct_L_markOf (l : Launch) {S : sj_St} {rq ra rn rt rp : Nat} {m : Nat → Int32} (h : sp_B S rq ra rn rt rp m) (hI : sj_inv m) {i j : Nat} (hi : i < sj_tn (m 9)) (hj : j < 6) : sj_Ctr l mL_markOf [.int (nI (i)), .int (nI (j)), .ref rn, .ref rt] S (sj_eq (some (.int (sj_mk m i j))) S) := by
  refine sj_start ([some (.int (nI (i))), some (.int (nI (j))), some (.ref rn), some (.ref rt), none, none, none, none, none, none, none, none, none, none, none]) (by decide +kernel) rfl rfl (fun X hX C hR => ?_)
  subst hX
  obtain ⟨⟨kd_rq, il_rq⟩, ⟨kd_ra, il_ra⟩, ⟨kd_rn, il_rn⟩, ⟨kd_rt, il_rt⟩, ⟨kd_rp, il_rp⟩, hq, hs, hp⟩ := id h
  obtain ⟨h9, hn8⟩ := id hI.1
  obtain ⟨h10, hN28⟩ := id hI.2.1
  obtain ⟨hai, hni, hti⟩ := hs i hi
  obtain ⟨ens, n1, n8⟩ := sp_ns hI hi
  rw [ens] at hni
  have cut_32 : ∀ x4 x5 x6 x7 x8 x9 x10 x11 : Int32, (x4 = sj_sum (fun e => sj_os m i e 0) 0) → (x5 = sp_mn m i 0) → (x6 = sp_mx m i 0) → (x7 = sj_sum (fun e => sj_os m i e 1) 0) → (x8 = sj_sum (fun e => sj_os m i e 2) 0) → (x9 = sj_sum (fun e => sj_os m i e 2 * sj_os m i e 1) 0) → (x10 = sj_sum (fun e => sj_os m i e 3) 0) → (x11 = sp_ur m i 0) → sj_G X S 0 0 [some (.int (nI (i))), some (.int (nI (j))), some (.ref rn), some (.ref rt), some (.int (x4)), some (.int (x5)), some (.int (x6)), some (.int (x7)), some (.int (x8)), some (.int (x9)), some (.int (x10)), some (.int (x11)), some (.int (nI (8 * i + 0))), none, none] 32 [] := by
    refine sj_down (fun k => ∀ x4 x5 x6 x7 x8 x9 x10 x11 : Int32, (x4 = sj_sum (fun e => sj_os m i e 0) k) → (x5 = sp_mn m i k) → (x6 = sp_mx m i k) → (x7 = sj_sum (fun e => sj_os m i e 1) k) → (x8 = sj_sum (fun e => sj_os m i e 2) k) → (x9 = sj_sum (fun e => sj_os m i e 2 * sj_os m i e 1) k) → (x10 = sj_sum (fun e => sj_os m i e 3) k) → (x11 = sp_ur m i k) → sj_G X S 0 0 [some (.int (nI (i))), some (.int (nI (j))), some (.ref rn), some (.ref rt), some (.int (x4)), some (.int (x5)), some (.int (x6)), some (.int (x7)), some (.int (x8)), some (.int (x9)), some (.int (x10)), some (.int (x11)), some (.int (nI (8 * i + k))), none, none] 32 []) (sj_ns m i) (fun k hk ih_32 => ?_)
    intro x4 x5 x6 x7 x8 x9 x10 x11 e_x4 e_x5 e_x6 e_x7 e_x8 e_x9 e_x10 e_x11
    refine sj_iload C 34 rfl dL_markOf_32 rfl ?_
    refine sj_bipush C (8) 36 rfl dL_markOf_34 (by decide) ?_
    refine sj_iload_n C 37 rfl dL_markOf_36 rfl rfl ?_
    refine sj_imul C 38 rfl dL_markOf_37 ?_
    rw [show 8 * nI (i) = nI (8 * i) from sj_nmul 8 i]
    refine sj_aload_n C 39 rfl dL_markOf_38 rfl rfl ?_
    refine sj_iload_n C 40 rfl dL_markOf_39 rfl rfl ?_
    refine sj_iald C 41 rfl dL_markOf_40 kd_rn (sp_vp il_rn (by omega) (by omega)) ?_
    rw [nI_clamp (by omega)]
    rw [hni]
    refine sj_iadd C 42 rfl dL_markOf_41 ?_
    rw [show nI (8 * i) + nI (sj_ns m i) = nI ((8 * i) + (sj_ns m i)) from nI_add (8 * i) (sj_ns m i)]
    refine sj_icmp_ge C 205 45 rfl rfl dL_markOf_42 (fun c_42 => ?_) (fun c_42 => ?_)
    · have hkn : k = sj_ns m i := by
        have h99 : ¬ k < sj_ns m i := fun h9 => nI_ge (show 8 * i + k < 8 * i + sj_ns m i by omega) (by omega) c_42
        omega
      subst hkn
      refine sj_iload C 207 rfl dL_markOf_205 rfl ?_
      refine sj_bipush C (45) 209 rfl dL_markOf_207 (by decide) ?_
      refine sj_aload_n C 210 rfl dL_markOf_209 rfl rfl ?_
      refine sj_iload_n C 211 rfl dL_markOf_210 rfl rfl ?_
      refine sj_iald C 212 rfl dL_markOf_211 kd_rn (sp_vp il_rn (by omega) (by omega)) ?_
      rw [nI_clamp (by omega)]
      rw [hni]
      refine sj_imul C 213 rfl dL_markOf_212 ?_
      rw [show 45 * nI (sj_ns m i) = nI (45 * (sj_ns m i)) from sj_nmul 45 (sj_ns m i)]
      refine sj_iadd C 214 rfl dL_markOf_213 ?_
      refine sj_aload_n C 215 rfl dL_markOf_214 rfl rfl ?_
      refine sj_iload_n C 216 rfl dL_markOf_215 rfl rfl ?_
      refine sj_iald C 217 rfl dL_markOf_216 kd_rn (sp_vp il_rn (by omega) (by omega)) ?_
      rw [nI_clamp (by omega)]
      rw [hni]
      refine sj_idiv C 218 rfl dL_markOf_217 (sp_nsne n1 n8) ?_
      refine sj_bipush C (45) 220 rfl dL_markOf_218 (by decide) ?_
      refine sj_isub C 221 rfl dL_markOf_220 ?_
      refine sj_istore_12 C 223 rfl dL_markOf_221 rfl rfl ?_
      refine sj_iload_n C 224 rfl dL_markOf_223 rfl rfl ?_
      refine sj_if_ne C 232 227 rfl rfl dL_markOf_224 (fun c_224 => ?_) (fun c_224 => ?_)
      · refine sj_iload_n C 233 rfl dL_markOf_232 rfl rfl ?_
        refine sj_iconstv C (1) 234 rfl dL_markOf_233 rfl ?_
        refine sj_icmp_ne C 245 237 rfl rfl dL_markOf_234 (fun c_234 => ?_) (fun c_234 => ?_)
        · refine sj_iload_n C 246 rfl dL_markOf_245 rfl rfl ?_
          refine sj_iconstv C (2) 247 rfl dL_markOf_246 rfl ?_
          refine sj_icmp_ne C 277 250 rfl rfl dL_markOf_247 (fun c_247 => ?_) (fun c_247 => ?_)
          · refine sj_iload_n C 278 rfl dL_markOf_277 rfl rfl ?_
            refine sj_iconstv C (3) 279 rfl dL_markOf_278 rfl ?_
            refine sj_icmp_ne C 294 282 rfl rfl dL_markOf_279 (fun c_279 => ?_) (fun c_279 => ?_)
            · refine sj_iload_n C 295 rfl dL_markOf_294 rfl rfl ?_
              refine sj_iconstv C (4) 296 rfl dL_markOf_295 rfl ?_
              refine sj_icmp_ne C 311 299 rfl rfl dL_markOf_296 (fun c_296 => ?_) (fun c_296 => ?_)
              · refine sj_aload_n C 312 rfl dL_markOf_311 rfl rfl ?_
                refine sj_iload_n C 313 rfl dL_markOf_312 rfl rfl ?_
                refine sj_iald C 314 rfl dL_markOf_313 kd_rn (sp_vp il_rn (by omega) (by omega)) ?_
                rw [nI_clamp (by omega)]
                rw [hni]
                refine sj_iconstv C (1) 315 rfl dL_markOf_314 rfl ?_
                refine sj_icmp_ne C 322 318 rfl rfl dL_markOf_315 (fun c_315 => ?_) (fun c_315 => ?_)
                · refine sj_iload C 324 rfl dL_markOf_322 rfl ?_
                  refine sj_bipush C (10) 326 rfl dL_markOf_324 (by decide) ?_
                  refine sj_imul C 327 rfl dL_markOf_326 ?_
                  refine sj_aload_n C 328 rfl dL_markOf_327 rfl rfl ?_
                  refine sj_iload_n C 329 rfl dL_markOf_328 rfl rfl ?_
                  refine sj_iald C 330 rfl dL_markOf_329 kd_rn (sp_vp il_rn (by omega) (by omega)) ?_
                  rw [nI_clamp (by omega)]
                  rw [hni]
                  refine sj_iconstv C (1) 331 rfl dL_markOf_330 rfl ?_
                  refine sj_isub C 332 rfl dL_markOf_331 ?_
                  refine sj_idiv C 333 rfl dL_markOf_332 (sp_ns1ne n1 n8 (fun h99 => c_315 (by rw [h99]; rfl))) ?_
                  refine sj_iret C hR rfl rfl dL_markOf_333 ?_
                  refine ⟨congrArg (fun z => some (Value.int z)) ?_, rfl⟩
                  have g0 : ¬ j = 0 := fun e => c_224 (by rw [e]; rfl)
                  have g1 : ¬ j = 1 := fun e => c_234 (by rw [e]; rfl)
                  have g2 : ¬ j = 2 := fun e => c_247 (by rw [e]; rfl)
                  have g3 : ¬ j = 3 := fun e => c_279 (by rw [e]; rfl)
                  have g4 : ¬ j = 4 := fun e => c_296 (by rw [e]; rfl)
                  have hjj : j = 5 := by omega
                  subst hjj
                  rw [e_x11]
                  exact sp_mk5b n1 n8 (fun h99 => c_315 (by rw [h99]; rfl))
                · refine sj_iconstv C (0) 319 rfl dL_markOf_318 rfl ?_
                  refine sj_goto C 333 rfl dL_markOf_319 ?_
                  refine sj_iret C hR rfl rfl dL_markOf_333 ?_
                  refine ⟨congrArg (fun z => some (Value.int z)) ?_, rfl⟩
                  have g0 : ¬ j = 0 := fun e => c_224 (by rw [e]; rfl)
                  have g1 : ¬ j = 1 := fun e => c_234 (by rw [e]; rfl)
                  have g2 : ¬ j = 2 := fun e => c_247 (by rw [e]; rfl)
                  have g3 : ¬ j = 3 := fun e => c_279 (by rw [e]; rfl)
                  have g4 : ¬ j = 4 := fun e => c_296 (by rw [e]; rfl)
                  have hjj : j = 5 := by omega
                  subst hjj
                  exact sp_mk5a ((nI_eq (b := 1) (by omega) (by omega)).mp c_315)
              · refine sj_bipush C (10) 301 rfl dL_markOf_299 (by decide) ?_
                refine sj_iload C 303 rfl dL_markOf_301 rfl ?_
                refine sj_imul C 304 rfl dL_markOf_303 ?_
                refine sj_aload_n C 305 rfl dL_markOf_304 rfl rfl ?_
                refine sj_iload_n C 306 rfl dL_markOf_305 rfl rfl ?_
                refine sj_iald C 307 rfl dL_markOf_306 kd_rn (sp_vp il_rn (by omega) (by omega)) ?_
                rw [nI_clamp (by omega)]
                rw [hni]
                refine sj_idiv C 308 rfl dL_markOf_307 (sp_nsne n1 n8) ?_
                refine sj_goto C 333 rfl dL_markOf_308 ?_
                refine sj_iret C hR rfl rfl dL_markOf_333 ?_
                refine ⟨congrArg (fun z => some (Value.int z)) ?_, rfl⟩
                have hjj : j = 4 := (nI_eq (b := 4) (by omega) (by omega)).mp c_296
                subst hjj
                rw [e_x10]
                rfl
            · refine sj_bipush C (100) 284 rfl dL_markOf_282 (by decide) ?_
              refine sj_iload C 286 rfl dL_markOf_284 rfl ?_
              refine sj_imul C 287 rfl dL_markOf_286 ?_
              refine sj_aload_n C 288 rfl dL_markOf_287 rfl rfl ?_
              refine sj_iload_n C 289 rfl dL_markOf_288 rfl rfl ?_
              refine sj_iald C 290 rfl dL_markOf_289 kd_rn (sp_vp il_rn (by omega) (by omega)) ?_
              rw [nI_clamp (by omega)]
              rw [hni]
              refine sj_idiv C 291 rfl dL_markOf_290 (sp_nsne n1 n8) ?_
              refine sj_goto C 333 rfl dL_markOf_291 ?_
              refine sj_iret C hR rfl rfl dL_markOf_333 ?_
              refine ⟨congrArg (fun z => some (Value.int z)) ?_, rfl⟩
              have hjj : j = 3 := (nI_eq (b := 3) (by omega) (by omega)).mp c_279
              subst hjj
              rw [e_x8]
              rfl
          · refine sj_iload C 252 rfl dL_markOf_250 rfl ?_
            refine sj_if_ne C 259 255 rfl rfl dL_markOf_252 (fun c_252 => ?_) (fun c_252 => ?_)
            · refine sj_iload C 261 rfl dL_markOf_259 rfl ?_
              refine sj_iload C 263 rfl dL_markOf_261 rfl ?_
              refine sj_idiv C 264 rfl dL_markOf_263 c_252 ?_
              refine sj_bipush C (10) 266 rfl dL_markOf_264 (by decide) ?_
              refine sj_imul C 267 rfl dL_markOf_266 ?_
              refine sj_iload C 269 rfl dL_markOf_267 rfl ?_
              refine sj_aload_n C 270 rfl dL_markOf_269 rfl rfl ?_
              refine sj_iload_n C 271 rfl dL_markOf_270 rfl rfl ?_
              refine sj_iald C 272 rfl dL_markOf_271 kd_rn (sp_vp il_rn (by omega) (by omega)) ?_
              rw [nI_clamp (by omega)]
              rw [hni]
              refine sj_idiv C 273 rfl dL_markOf_272 (sp_nsne n1 n8) ?_
              refine sj_idiv C 274 rfl dL_markOf_273 (sp_hn0 hI hi e_x7) ?_
              refine sj_goto C 333 rfl dL_markOf_274 ?_
              refine sj_iret C hR rfl rfl dL_markOf_333 ?_
              refine ⟨congrArg (fun z => some (Value.int z)) ?_, rfl⟩
              have hjj : j = 2 := (nI_eq (b := 2) (by omega) (by omega)).mp c_247
              subst hjj
              rw [e_x9, e_x8, e_x7]
              exact sp_mk2b (fun h99 => c_252 (e_x8.trans h99))
            · refine sj_iconstv C (0) 256 rfl dL_markOf_255 rfl ?_
              refine sj_goto C 333 rfl dL_markOf_256 ?_
              refine sj_iret C hR rfl rfl dL_markOf_333 ?_
              refine ⟨congrArg (fun z => some (Value.int z)) ?_, rfl⟩
              have hjj : j = 2 := (nI_eq (b := 2) (by omega) (by omega)).mp c_247
              subst hjj
              exact sp_mk2a (e_x8.symm.trans c_252)
        · refine sj_iload C 239 rfl dL_markOf_237 rfl ?_
          refine sj_iload C 241 rfl dL_markOf_239 rfl ?_
          refine sj_isub C 242 rfl dL_markOf_241 ?_
          refine sj_goto C 333 rfl dL_markOf_242 ?_
          refine sj_iret C hR rfl rfl dL_markOf_333 ?_
          refine ⟨congrArg (fun z => some (Value.int z)) ?_, rfl⟩
          have hjj : j = 1 := (nI_eq (b := 1) (by omega) (by omega)).mp c_234
          subst hjj
          rw [e_x5, e_x6]
          exact sp_mk1 hI hi
      · refine sj_iload C 229 rfl dL_markOf_227 rfl ?_
        refine sj_goto C 333 rfl dL_markOf_229 ?_
        refine sj_iret C hR rfl rfl dL_markOf_333 ?_
        refine ⟨congrArg (fun z => some (Value.int z)) ?_, rfl⟩
        have hjj : j = 0 := (nI_eq (b := 0) (by omega) (by omega)).mp c_224
        subst hjj
        rw [e_x4]
        exact sp_mk0 hI hi
    · have hlt : k < sj_ns m i := Nat.not_le.mp fun h9 => c_42 (nI_le (show 8 * i + sj_ns m i ≤ 8 * i + k by omega) (by omega))
      refine sj_aload_n C 46 rfl dL_markOf_45 rfl rfl ?_
      refine sj_iload C 48 rfl dL_markOf_46 rfl ?_
      refine sj_iald C 49 rfl dL_markOf_48 kd_rt (sp_vp il_rt (by omega) (by omega)) ?_
      rw [nI_clamp (by omega)]
      refine sj_callSd C 52 rfl dL_markOf_49 cv_L_93 rfl (ct_L_slant _ _ (hti k hlt)) rfl rfl rfl ⟨rfl, rfl⟩ ?_
      refine sj_istore_13 C 54 rfl dL_markOf_52 rfl rfl ?_
      refine sj_iload C 56 rfl dL_markOf_54 rfl ?_
      refine sj_iload C 58 rfl dL_markOf_56 rfl ?_
      refine sj_iadd C 59 rfl dL_markOf_58 ?_
      refine sj_istore_4 C 61 rfl dL_markOf_59 rfl rfl ?_
      refine sj_iload C 63 rfl dL_markOf_61 rfl ?_
      refine sj_iload C 65 rfl dL_markOf_63 rfl ?_
      have cut_75 : ∀ j75 : Int32, (j75 = if x5 ≤ (sj_os m i k 0) then x5 else sj_os m i k 0) → sj_G X S 0 0 [some (.int (nI (i))), some (.int (nI (j))), some (.ref rn), some (.ref rt), some (.int (x4 + (sj_os m i k 0))), some (.int (x5)), some (.int (x6)), some (.int (x7)), some (.int (x8)), some (.int (x9)), some (.int (x10)), some (.int (x11)), some (.int (nI (8 * i + k))), some (.int (sj_os m i k 0)), none] 75 [.int (j75)] := by
        intro j75 h75
        refine sj_istore_5 C 77 rfl dL_markOf_75 rfl rfl ?_
        refine sj_iload C 79 rfl dL_markOf_77 rfl ?_
        refine sj_iload C 81 rfl dL_markOf_79 rfl ?_
        have cut_91 : ∀ j91 : Int32, (j91 = if (sj_os m i k 0) ≤ x6 then x6 else sj_os m i k 0) → sj_G X S 0 0 [some (.int (nI (i))), some (.int (nI (j))), some (.ref rn), some (.ref rt), some (.int (x4 + (sj_os m i k 0))), some (.int (j75)), some (.int (x6)), some (.int (x7)), some (.int (x8)), some (.int (x9)), some (.int (x10)), some (.int (x11)), some (.int (nI (8 * i + k))), some (.int (sj_os m i k 0)), none] 91 [.int (j91)] := by
          intro j91 h91
          refine sj_istore_6 C 93 rfl dL_markOf_91 rfl rfl ?_
          refine sj_iload C 95 rfl dL_markOf_93 rfl ?_
          refine sj_aload_n C 96 rfl dL_markOf_95 rfl rfl ?_
          refine sj_iload C 98 rfl dL_markOf_96 rfl ?_
          refine sj_iald C 99 rfl dL_markOf_98 kd_rt (sp_vp il_rt (by omega) (by omega)) ?_
          rw [nI_clamp (by omega)]
          refine sj_callSd C 102 rfl dL_markOf_99 cv_L_96 rfl (ct_L_height _ _ (hti k hlt)) rfl rfl rfl ⟨rfl, rfl⟩ ?_
          refine sj_iadd C 103 rfl dL_markOf_102 ?_
          refine sj_istore_7 C 105 rfl dL_markOf_103 rfl rfl ?_
          refine sj_iload C 107 rfl dL_markOf_105 rfl ?_
          refine sj_aload_n C 108 rfl dL_markOf_107 rfl rfl ?_
          refine sj_iload C 110 rfl dL_markOf_108 rfl ?_
          refine sj_iald C 111 rfl dL_markOf_110 kd_rt (sp_vp il_rt (by omega) (by omega)) ?_
          rw [nI_clamp (by omega)]
          refine sj_callSd C 114 rfl dL_markOf_111 cv_L_99 rfl (ct_L_loop _ _ (hti k hlt)) rfl rfl rfl ⟨rfl, rfl⟩ ?_
          refine sj_iadd C 115 rfl dL_markOf_114 ?_
          refine sj_istore_8 C 117 rfl dL_markOf_115 rfl rfl ?_
          refine sj_iload C 119 rfl dL_markOf_117 rfl ?_
          refine sj_aload_n C 120 rfl dL_markOf_119 rfl rfl ?_
          refine sj_iload C 122 rfl dL_markOf_120 rfl ?_
          refine sj_iald C 123 rfl dL_markOf_122 kd_rt (sp_vp il_rt (by omega) (by omega)) ?_
          rw [nI_clamp (by omega)]
          refine sj_callSd C 126 rfl dL_markOf_123 cv_L_99 rfl (ct_L_loop _ _ (hti k hlt)) rfl rfl rfl ⟨rfl, rfl⟩ ?_
          refine sj_aload_n C 127 rfl dL_markOf_126 rfl rfl ?_
          refine sj_iload C 129 rfl dL_markOf_127 rfl ?_
          refine sj_iald C 130 rfl dL_markOf_129 kd_rt (sp_vp il_rt (by omega) (by omega)) ?_
          rw [nI_clamp (by omega)]
          refine sj_callSd C 133 rfl dL_markOf_130 cv_L_96 rfl (ct_L_height _ _ (hti k hlt)) rfl rfl rfl ⟨rfl, rfl⟩ ?_
          refine sj_imul C 134 rfl dL_markOf_133 ?_
          refine sj_iadd C 135 rfl dL_markOf_134 ?_
          refine sj_istore_9 C 137 rfl dL_markOf_135 rfl rfl ?_
          refine sj_iload C 139 rfl dL_markOf_137 rfl ?_
          refine sj_aload_n C 140 rfl dL_markOf_139 rfl rfl ?_
          refine sj_iload C 142 rfl dL_markOf_140 rfl ?_
          refine sj_iald C 143 rfl dL_markOf_142 kd_rt (sp_vp il_rt (by omega) (by omega)) ?_
          rw [nI_clamp (by omega)]
          refine sj_callSd C 146 rfl dL_markOf_143 cv_L_102 rfl (ct_L_pressure _ _ (hti k hlt)) rfl rfl rfl ⟨rfl, rfl⟩ ?_
          refine sj_iadd C 147 rfl dL_markOf_146 ?_
          refine sj_istore_10 C 149 rfl dL_markOf_147 rfl rfl ?_
          refine sj_iload C 151 rfl dL_markOf_149 rfl ?_
          refine sj_bipush C (8) 153 rfl dL_markOf_151 (by decide) ?_
          refine sj_iload_n C 154 rfl dL_markOf_153 rfl rfl ?_
          refine sj_imul C 155 rfl dL_markOf_154 ?_
          rw [show 8 * nI (i) = nI (8 * i) from sj_nmul 8 i]
          have cut_179 : ∀ j179 : Int32, (j179 = if nI (8 * i + k) = nI (8 * i) then 0 else (sj_os m i k 3) - (sj_os m i (k - 1) 3)) → sj_G X S 0 0 [some (.int (nI (i))), some (.int (nI (j))), some (.ref rn), some (.ref rt), some (.int (x4 + (sj_os m i k 0))), some (.int (j75)), some (.int (j91)), some (.int (x7 + (sj_os m i k 1))), some (.int (x8 + (sj_os m i k 2))), some (.int (x9 + ((sj_os m i k 2) * (sj_os m i k 1)))), some (.int (x10 + (sj_os m i k 3))), some (.int (x11)), some (.int (nI (8 * i + k))), some (.int (sj_os m i k 0)), none] 179 [.int (j179)] := by
            intro j179 h179
            refine sj_istore_14 C 181 rfl dL_markOf_179 rfl rfl ?_
            refine sj_iload C 183 rfl dL_markOf_181 rfl ?_
            refine sj_iload C 185 rfl dL_markOf_183 rfl ?_
            have cut_196 : ∀ j196 : Int32, (j196 = if 0 ≤ j179 then j179 else -(j179)) → sj_G X S 0 0 [some (.int (nI (i))), some (.int (nI (j))), some (.ref rn), some (.ref rt), some (.int (x4 + (sj_os m i k 0))), some (.int (j75)), some (.int (j91)), some (.int (x7 + (sj_os m i k 1))), some (.int (x8 + (sj_os m i k 2))), some (.int (x9 + ((sj_os m i k 2) * (sj_os m i k 1)))), some (.int (x10 + (sj_os m i k 3))), some (.int (x11)), some (.int (nI (8 * i + k))), some (.int (sj_os m i k 0)), some (.int (j179))] 196 [.int (j196), .int (x11)] := by
              intro j196 h196
              refine sj_iadd C 197 rfl dL_markOf_196 ?_
              refine sj_istore_11 C 199 rfl dL_markOf_197 rfl rfl ?_
              refine sj_iinc_12 C 202 rfl dL_markOf_199 rfl rfl ?_
              rw [show nI (8 * i + k) + Int32.ofInt 1 = nI ((8 * i + k) + 1) from nI_add _ _]
              refine sj_goto C 32 rfl dL_markOf_202 ?_
              refine sj_for [some (.int (nI (i))), some (.int (nI (j))), some (.ref rn), some (.ref rt), some (.int (x4 + (sj_os m i k 0))), some (.int (j75)), some (.int (j91)), some (.int (x7 + (sj_os m i k 1))), some (.int (x8 + (sj_os m i k 2))), some (.int (x9 + ((sj_os m i k 2) * (sj_os m i k 1)))), some (.int (x10 + (sj_os m i k 3))), some (.int (x11 + j196)), some (.int (nI ((8 * i + k) + 1))), none, none] (show _ ∧ _ ∧ _ ∧ _ ∧ _ ∧ _ ∧ _ ∧ _ ∧ _ ∧ _ ∧ _ ∧ _ ∧ _ ∧ True from ⟨rfl, rfl, rfl, rfl, rfl, rfl, rfl, rfl, rfl, rfl, rfl, rfl, rfl, trivial⟩) ?_
              exact ih_32 (hlt) _ _ _ _ _ _ _ _ (by rw [e_x4]; rfl) (by rw [h75, e_x5]; rfl) (by rw [h91, e_x6]; rfl) (by rw [e_x7]; rfl) (by rw [e_x8]; rfl) (by rw [e_x9]; rfl) (by rw [e_x10]; rfl) (by rw [e_x11, h196, sp_by_k (m := m) (by omega) (by omega) h179]; rfl)
            refine sj_if_ge C 194 188 rfl rfl dL_markOf_185 (fun c_185 => ?_) (fun c_185 => ?_)
            · refine sj_iload C 196 rfl dL_markOf_194 rfl ?_
              exact cut_196 _  ((if_pos c_185).symm)
            · refine sj_iload C 190 rfl dL_markOf_188 rfl ?_
              refine sj_ineg C 191 rfl dL_markOf_190 ?_
              refine sj_goto C 196 rfl dL_markOf_191 ?_
              exact cut_196 _  ((if_neg c_185).symm)
          refine sj_icmp_ne C 162 158 rfl rfl dL_markOf_155 (fun c_155 => ?_) (fun c_155 => ?_)
          · have hk0 : ¬ k = 0 := fun h99 => c_155 (by rw [h99]; rfl)
            have hprev := hti (k - 1) (by omega)
            rw [show 8 * i + (k - 1) = 8 * i + k - 1 by omega] at hprev
            refine sj_aload_n C 163 rfl dL_markOf_162 rfl rfl ?_
            refine sj_iload C 165 rfl dL_markOf_163 rfl ?_
            refine sj_iald C 166 rfl dL_markOf_165 kd_rt (sp_vp il_rt (by omega) (by omega)) ?_
            rw [nI_clamp (by omega)]
            refine sj_callSd C 169 rfl dL_markOf_166 cv_L_102 rfl (ct_L_pressure _ _ (hti k hlt)) rfl rfl rfl ⟨rfl, rfl⟩ ?_
            refine sj_aload_n C 170 rfl dL_markOf_169 rfl rfl ?_
            refine sj_iload C 172 rfl dL_markOf_170 rfl ?_
            refine sj_iconstv C (1) 173 rfl dL_markOf_172 rfl ?_
            refine sj_isub C 174 rfl dL_markOf_173 ?_
            rw [show nI (8 * i + k) - 1 = nI ((8 * i + k) - 1) from sj_nsub (a := (8 * i + k)) (b := 1) (by omega)]
            refine sj_iald C 175 rfl dL_markOf_174 kd_rt (sp_vp il_rt (by omega) (by omega)) ?_
            rw [nI_clamp (by omega)]
            refine sj_callSd C 178 rfl dL_markOf_175 cv_L_102 rfl (ct_L_pressure _ _ hprev) rfl rfl rfl ⟨rfl, rfl⟩ ?_
            refine sj_isub C 179 rfl dL_markOf_178 ?_
            exact cut_179 _  ((if_neg c_155).symm)
          · refine sj_iconstv C (0) 159 rfl dL_markOf_158 rfl ?_
            refine sj_goto C 179 rfl dL_markOf_159 ?_
            exact cut_179 _  ((if_pos c_155).symm)
        refine sj_icmp_le C 89 84 rfl rfl dL_markOf_81 (fun c_81 => ?_) (fun c_81 => ?_)
        · refine sj_iload C 91 rfl dL_markOf_89 rfl ?_
          exact cut_91 _  ((if_pos c_81).symm)
        · refine sj_iload C 86 rfl dL_markOf_84 rfl ?_
          refine sj_goto C 91 rfl dL_markOf_86 ?_
          exact cut_91 _  ((if_neg c_81).symm)
      refine sj_icmp_ge C 73 68 rfl rfl dL_markOf_65 (fun c_65 => ?_) (fun c_65 => ?_)
      · refine sj_iload C 75 rfl dL_markOf_73 rfl ?_
        exact cut_75 _  ((if_pos c_65).symm)
      · refine sj_iload C 70 rfl dL_markOf_68 rfl ?_
        refine sj_goto C 75 rfl dL_markOf_70 ?_
        exact cut_75 _  ((if_neg c_65).symm)
  refine sj_iconstv C (0) 1 rfl dL_markOf_0 rfl ?_
  refine sj_istore_4 C 3 rfl dL_markOf_1 rfl rfl ?_
  refine sj_bipush C (99) 5 rfl dL_markOf_3 (by decide) ?_
  refine sj_istore_5 C 7 rfl dL_markOf_5 rfl rfl ?_
  refine sj_bipush C (-99) 9 rfl dL_markOf_7 (by decide) ?_
  refine sj_istore_6 C 11 rfl dL_markOf_9 rfl rfl ?_
  refine sj_iconstv C (0) 12 rfl dL_markOf_11 rfl ?_
  refine sj_istore_7 C 14 rfl dL_markOf_12 rfl rfl ?_
  refine sj_iconstv C (0) 15 rfl dL_markOf_14 rfl ?_
  refine sj_istore_8 C 17 rfl dL_markOf_15 rfl rfl ?_
  refine sj_iconstv C (0) 18 rfl dL_markOf_17 rfl ?_
  refine sj_istore_9 C 20 rfl dL_markOf_18 rfl rfl ?_
  refine sj_iconstv C (0) 21 rfl dL_markOf_20 rfl ?_
  refine sj_istore_10 C 23 rfl dL_markOf_21 rfl rfl ?_
  refine sj_iconstv C (0) 24 rfl dL_markOf_23 rfl ?_
  refine sj_istore_11 C 26 rfl dL_markOf_24 rfl rfl ?_
  refine sj_bipush C (8) 28 rfl dL_markOf_26 (by decide) ?_
  refine sj_iload_n C 29 rfl dL_markOf_28 rfl rfl ?_
  refine sj_imul C 30 rfl dL_markOf_29 ?_
  rw [show 8 * nI (i) = nI (8 * i) from sj_nmul 8 i]
  refine sj_istore_12 C 32 rfl dL_markOf_30 rfl rfl ?_
  exact cut_32 _ _ _ _ _ _ _ _ (rfl) (rfl) (rfl) (rfl) (rfl) (rfl) (rfl) (rfl)
