/-! THE LAW'S BODY: its cases -/
set_option maxRecDepth 100000 in
set_option maxHeartbeats 200000 in
theorem lw_c0 {X : sj_X} {nm : String} (C : sj_C X (mL_law nm)) (hN : sj_HN X) (hl : X.2.1.stackTraces = false) {S : sj_St} {g : Nat → Nat} {m : Nat → Int32} {hs : Bool} {ms : Nat → Int32} {p q : Nat} {Q : Nat → Nat → Int32} {n : Nat} {B : Nat → Int32} {o : Nat} (hZ : sq_Z S g m hs ms p q Q n B) (ho : sj_ou S o) (hgo : ∀ i, i < 160 → g i ≠ o) {b Lx : Nat} {xs : Nat → Int32} (hT : sj_Scr X b Lx xs) {i : Nat} (hi : i + 4 ≤ Lx) (hLx : Lx < 2 ^ 31) {cl sl : Nat} (hc : cl ≤ 600000) (hs9 : sl ≤ 7290000) (K : ∀ (U : sj_St) (cl2 sl2 : Nat) (o5 o6 o7 o8 : Option Value), sq_ZZ U g o → cl2 ≤ cl + 10 → sl2 ≤ sl + 200 → sj_G X U cl2 sl2 [some (.ref b), some (.ref (g 141)), some (.ref (g 142)), some (.ref o), some (.int (nI i)), o5, o6, o7, o8] 1654 []) (o5 o6 o7 o8 : Option Value) : sj_G X S cl sl [some (.ref b), some (.ref (g 141)), some (.ref (g 142)), some (.ref o), some (.int (nI i)), o5, o6, o7, o8] 156 [] := by
  have hJ := st_lay X.2.1 hl hZ ho hgo (xs (i + 1))
  obtain ⟨t, A, hL, h7⟩ := hJ
  refine sj_aload_n C 157 rfl dL_law_156 rfl rfl ?_
  refine sj_aload_n C 158 rfl dL_law_157 rfl rfl ?_
  refine sj_iload C 160 rfl dL_law_158 rfl ?_
  refine sj_iconstv C (1) 161 rfl dL_law_160 rfl ?_
  refine sj_iadd C 162 rfl dL_law_161 ?_
  rw [show nI i + 1 = nI (i + 1) from nI_add i 1]
  refine sj_xld C 163 rfl dL_law_162 hT (show i + 1 < Lx by omega) hLx ?_
  refine sj_aload_n C 164 rfl dL_law_163 rfl rfl ?_
  refine sj_callSW C hN 167 rfl dL_law_164 cw_L_87 (sq_fit4 rfl rfl (by show cl + 5 ≤ 601024; omega) (by show sl + 125 ≤ 7293034; omega)) hL rfl rfl rfl (fun v9 U hp => ?_)
  obtain ⟨rfl, hA⟩ := hp
  obtain ⟨k7, h7⟩ := h7 U hA
  refine sj_istore_5 C 169 rfl dL_law_167 rfl rfl ?_
  refine sj_aload_n C 170 rfl dL_law_169 rfl rfl ?_
  refine sj_aload_n C 171 rfl dL_law_170 rfl rfl ?_
  refine sj_iload C 173 rfl dL_law_171 rfl ?_
  refine sj_iconstv C (1) 174 rfl dL_law_173 rfl ?_
  refine sj_iadd C 175 rfl dL_law_174 ?_
  rw [show nI i + 1 = nI (i + 1) from nI_add i 1]
  refine sj_xld C 176 rfl dL_law_175 hT (show i + 1 < Lx by omega) hLx ?_
  refine sj_callV C 179 rfl dL_law_176 cv_L_92 (sq_fit4 rfl rfl (by show cl + 5 + 0 ≤ 601024; omega) (by show sl + 125 + 0 ≤ 7293034; omega)) h7 rfl rfl rfl ⟨_, _, k7, rfl, rfl, by decide⟩ (fun v8 T hp => ?_)
  obtain ⟨r, rfl, e0, ela, hZZ⟩ := hp
  obtain ⟨⟨m9, hs8, ms9, p9, q9, Q9, n9, B9, hZ9⟩, ho9⟩ := id hZZ
  refine sj_istore_6 C 181 rfl dL_law_179 rfl rfl ?_
  refine sj_aload_n C 182 rfl dL_law_181 rfl rfl ?_
  refine sj_callVd C 185 rfl dL_law_182 cv_L_93 (sq_fit4 rfl rfl (by show cl + 5 + 0 + 0 ≤ 601024; omega) (by show sl + 125 + 0 + 0 ≤ 7293034; omega)) (ct_X7_thrown _ hZ9.2.1.1) rfl rfl rfl ⟨_, _, hZ9.2.1.1.1.1, rfl, rfl, by decide⟩ ⟨rfl, rfl⟩ ?_
  rw [e0]
  refine sj_iload C 187 rfl dL_law_185 rfl ?_
  refine sj_icmp_eq C 192 190 rfl rfl dL_law_187 (fun _ => ?_) (fun c_187 => absurd rfl c_187)
  refine sj_iload C 194 rfl dL_law_192 rfl ?_
  refine sj_if_ne C 209 197 rfl rfl dL_law_194 (fun _ => ?_) (fun c_194 => ?_)
  · refine sj_goto C 1654 rfl dL_law_209 ?_
    exact K T _ _ _ _ _ _ hZZ (by show cl + 5 + 0 + 0 ≤ cl + 10; omega) (by show sl + 125 + 0 + 0 ≤ sl + 200; omega)
  · refine sj_aload_n C 198 rfl dL_law_197 rfl rfl ?_
    refine sj_iconstv C (0) 199 rfl dL_law_198 rfl ?_
    refine sj_lald C 200 rfl dL_law_199 ho9.1 (sj_ou_in ho9) ?_
    rw [show Int32.toNatClampNeg 0 = 0 from rfl, ela c_194]
    refine sj_iload C 202 rfl dL_law_200 rfl ?_
    refine sj_i2l C 203 rfl dL_law_202 ?_
    refine sj_lcmp C 204 rfl dL_law_203 ?_
    rw [sq_lcmp]
    refine sj_if_eq C 209 207 rfl rfl dL_law_204 (fun _ => ?_) (fun c_204 => absurd rfl c_204)
    refine sj_goto C 1654 rfl dL_law_209 ?_
    exact K T _ _ _ _ _ _ hZZ (by show cl + 5 + 0 + 0 ≤ cl + 10; omega) (by show sl + 125 + 0 + 0 ≤ sl + 200; omega)
set_option maxRecDepth 100000 in
set_option maxHeartbeats 200000 in
theorem lw_c1 {X : sj_X} {nm : String} (C : sj_C X (mL_law nm)) (hN : sj_HN X) (hl : X.2.1.stackTraces = false) {S : sj_St} {g : Nat → Nat} {m : Nat → Int32} {hs : Bool} {ms : Nat → Int32} {p q : Nat} {Q : Nat → Nat → Int32} {n : Nat} {B : Nat → Int32} {o : Nat} (hZ : sq_Z S g m hs ms p q Q n B) (ho : sj_ou S o) (hgo : ∀ i, i < 160 → g i ≠ o) {b Lx : Nat} {xs : Nat → Int32} (hT : sj_Scr X b Lx xs) {i : Nat} (hi : i + 4 ≤ Lx) (hLx : Lx < 2 ^ 31) {cl sl : Nat} (hc : cl ≤ 600000) (hs9 : sl ≤ 7290000) (K : ∀ (U : sj_St) (cl2 sl2 : Nat) (o5 o6 o7 o8 : Option Value), sq_ZZ U g o → cl2 ≤ cl + 10 → sl2 ≤ sl + 200 → sj_G X U cl2 sl2 [some (.ref b), some (.ref (g 141)), some (.ref (g 142)), some (.ref o), some (.int (nI i)), o5, o6, o7, o8] 1654 []) (o5 o6 o7 o8 : Option Value) : sj_G X S cl sl [some (.ref b), some (.ref (g 141)), some (.ref (g 142)), some (.ref o), some (.int (nI i)), o5, o6, o7, o8] 212 [] := by
  have hJ := st_drop X.2.1 hl hZ ho hgo (xs (i + 1))
  obtain ⟨t, A, hL, h7⟩ := hJ
  refine sj_aload_n C 213 rfl dL_law_212 rfl rfl ?_
  refine sj_aload_n C 214 rfl dL_law_213 rfl rfl ?_
  refine sj_iload C 216 rfl dL_law_214 rfl ?_
  refine sj_iconstv C (1) 217 rfl dL_law_216 rfl ?_
  refine sj_iadd C 218 rfl dL_law_217 ?_
  rw [show nI i + 1 = nI (i + 1) from nI_add i 1]
  refine sj_xld C 219 rfl dL_law_218 hT (show i + 1 < Lx by omega) hLx ?_
  refine sj_aload_n C 220 rfl dL_law_219 rfl rfl ?_
  refine sj_callSW C hN 223 rfl dL_law_220 cw_L_96 (sq_fit4 rfl rfl (by show cl + 1 ≤ 601024; omega) (by show sl + 6 ≤ 7293034; omega)) hL rfl rfl rfl (fun v9 U hp => ?_)
  obtain ⟨rfl, hA⟩ := hp
  obtain ⟨k7, h7⟩ := h7 U hA
  refine sj_istore_5 C 225 rfl dL_law_223 rfl rfl ?_
  refine sj_aload_n C 226 rfl dL_law_225 rfl rfl ?_
  refine sj_aload_n C 227 rfl dL_law_226 rfl rfl ?_
  refine sj_iload C 229 rfl dL_law_227 rfl ?_
  refine sj_iconstv C (1) 230 rfl dL_law_229 rfl ?_
  refine sj_iadd C 231 rfl dL_law_230 ?_
  rw [show nI i + 1 = nI (i + 1) from nI_add i 1]
  refine sj_xld C 232 rfl dL_law_231 hT (show i + 1 < Lx by omega) hLx ?_
  refine sj_callV C 235 rfl dL_law_232 cv_L_98 (sq_fit4 rfl rfl (by show cl + 1 + 0 ≤ 601024; omega) (by show sl + 6 + 0 ≤ 7293034; omega)) h7 rfl rfl rfl ⟨_, _, k7, rfl, rfl, by decide⟩ (fun v8 T hp => ?_)
  obtain ⟨r, rfl, e0, ela, hZZ⟩ := hp
  obtain ⟨⟨m9, hs8, ms9, p9, q9, Q9, n9, B9, hZ9⟩, ho9⟩ := id hZZ
  refine sj_istore_6 C 237 rfl dL_law_235 rfl rfl ?_
  refine sj_aload_n C 238 rfl dL_law_237 rfl rfl ?_
  refine sj_callVd C 241 rfl dL_law_238 cv_L_93 (sq_fit4 rfl rfl (by show cl + 1 + 0 + 0 ≤ 601024; omega) (by show sl + 6 + 0 + 0 ≤ 7293034; omega)) (ct_X7_thrown _ hZ9.2.1.1) rfl rfl rfl ⟨_, _, hZ9.2.1.1.1.1, rfl, rfl, by decide⟩ ⟨rfl, rfl⟩ ?_
  rw [e0]
  refine sj_iload C 243 rfl dL_law_241 rfl ?_
  refine sj_icmp_eq C 248 246 rfl rfl dL_law_243 (fun _ => ?_) (fun c_243 => absurd rfl c_243)
  refine sj_iload C 250 rfl dL_law_248 rfl ?_
  refine sj_if_ne C 265 253 rfl rfl dL_law_250 (fun _ => ?_) (fun c_250 => ?_)
  · refine sj_goto C 1654 rfl dL_law_265 ?_
    exact K T _ _ _ _ _ _ hZZ (by show cl + 1 + 0 + 0 ≤ cl + 10; omega) (by show sl + 6 + 0 + 0 ≤ sl + 200; omega)
  · refine sj_aload_n C 254 rfl dL_law_253 rfl rfl ?_
    refine sj_iconstv C (0) 255 rfl dL_law_254 rfl ?_
    refine sj_lald C 256 rfl dL_law_255 ho9.1 (sj_ou_in ho9) ?_
    rw [show Int32.toNatClampNeg 0 = 0 from rfl, ela c_250]
    refine sj_iload C 258 rfl dL_law_256 rfl ?_
    refine sj_i2l C 259 rfl dL_law_258 ?_
    refine sj_lcmp C 260 rfl dL_law_259 ?_
    rw [sq_lcmp]
    refine sj_if_eq C 265 263 rfl rfl dL_law_260 (fun _ => ?_) (fun c_260 => absurd rfl c_260)
    refine sj_goto C 1654 rfl dL_law_265 ?_
    exact K T _ _ _ _ _ _ hZZ (by show cl + 1 + 0 + 0 ≤ cl + 10; omega) (by show sl + 6 + 0 + 0 ≤ sl + 200; omega)
set_option maxRecDepth 100000 in
set_option maxHeartbeats 200000 in
theorem lw_c2 {X : sj_X} {nm : String} (C : sj_C X (mL_law nm)) (hN : sj_HN X) (hl : X.2.1.stackTraces = false) {S : sj_St} {g : Nat → Nat} {m : Nat → Int32} {hs : Bool} {ms : Nat → Int32} {p q : Nat} {Q : Nat → Nat → Int32} {n : Nat} {B : Nat → Int32} {o : Nat} (hZ : sq_Z S g m hs ms p q Q n B) (ho : sj_ou S o) (hgo : ∀ i, i < 160 → g i ≠ o) {b Lx : Nat} {xs : Nat → Int32} (hT : sj_Scr X b Lx xs) {i : Nat} (hi : i + 4 ≤ Lx) (hLx : Lx < 2 ^ 31) {cl sl : Nat} (hc : cl ≤ 600000) (hs9 : sl ≤ 7290000) (K : ∀ (U : sj_St) (cl2 sl2 : Nat) (o5 o6 o7 o8 : Option Value), sq_ZZ U g o → cl2 ≤ cl + 10 → sl2 ≤ sl + 200 → sj_G X U cl2 sl2 [some (.ref b), some (.ref (g 141)), some (.ref (g 142)), some (.ref o), some (.int (nI i)), o5, o6, o7, o8] 1654 []) (o5 o6 o7 o8 : Option Value) : sj_G X S cl sl [some (.ref b), some (.ref (g 141)), some (.ref (g 142)), some (.ref o), some (.int (nI i)), o5, o6, o7, o8] 268 [] := by
  have hJ := st_pass X.2.1 hl hZ ho hgo (xs (i + 1))
  obtain ⟨t, A, hL, h7⟩ := hJ
  refine sj_aload_n C 269 rfl dL_law_268 rfl rfl ?_
  refine sj_aload_n C 270 rfl dL_law_269 rfl rfl ?_
  refine sj_iload C 272 rfl dL_law_270 rfl ?_
  refine sj_iconstv C (1) 273 rfl dL_law_272 rfl ?_
  refine sj_iadd C 274 rfl dL_law_273 ?_
  rw [show nI i + 1 = nI (i + 1) from nI_add i 1]
  refine sj_xld C 275 rfl dL_law_274 hT (show i + 1 < Lx by omega) hLx ?_
  refine sj_aload_n C 276 rfl dL_law_275 rfl rfl ?_
  refine sj_callSW C hN 279 rfl dL_law_276 cw_L_99 (sq_fit4 rfl rfl (by show cl + 1 ≤ 601024; omega) (by show sl + 6 ≤ 7293034; omega)) hL rfl rfl rfl (fun v9 U hp => ?_)
  obtain ⟨rfl, hA⟩ := hp
  obtain ⟨k7, h7⟩ := h7 U hA
  refine sj_istore_5 C 281 rfl dL_law_279 rfl rfl ?_
  refine sj_aload_n C 282 rfl dL_law_281 rfl rfl ?_
  refine sj_aload_n C 283 rfl dL_law_282 rfl rfl ?_
  refine sj_iload C 285 rfl dL_law_283 rfl ?_
  refine sj_iconstv C (1) 286 rfl dL_law_285 rfl ?_
  refine sj_iadd C 287 rfl dL_law_286 ?_
  rw [show nI i + 1 = nI (i + 1) from nI_add i 1]
  refine sj_xld C 288 rfl dL_law_287 hT (show i + 1 < Lx by omega) hLx ?_
  refine sj_callV C 291 rfl dL_law_288 cv_L_101 (sq_fit4 rfl rfl (by show cl + 1 + 0 ≤ 601024; omega) (by show sl + 6 + 0 ≤ 7293034; omega)) h7 rfl rfl rfl ⟨_, _, k7, rfl, rfl, by decide⟩ (fun v8 T hp => ?_)
  obtain ⟨r, rfl, e0, ela, hZZ⟩ := hp
  obtain ⟨⟨m9, hs8, ms9, p9, q9, Q9, n9, B9, hZ9⟩, ho9⟩ := id hZZ
  refine sj_istore_6 C 293 rfl dL_law_291 rfl rfl ?_
  refine sj_aload_n C 294 rfl dL_law_293 rfl rfl ?_
  refine sj_callVd C 297 rfl dL_law_294 cv_L_93 (sq_fit4 rfl rfl (by show cl + 1 + 0 + 0 ≤ 601024; omega) (by show sl + 6 + 0 + 0 ≤ 7293034; omega)) (ct_X7_thrown _ hZ9.2.1.1) rfl rfl rfl ⟨_, _, hZ9.2.1.1.1.1, rfl, rfl, by decide⟩ ⟨rfl, rfl⟩ ?_
  rw [e0]
  refine sj_iload C 299 rfl dL_law_297 rfl ?_
  refine sj_icmp_eq C 304 302 rfl rfl dL_law_299 (fun _ => ?_) (fun c_299 => absurd rfl c_299)
  refine sj_iload C 306 rfl dL_law_304 rfl ?_
  refine sj_if_ne C 321 309 rfl rfl dL_law_306 (fun _ => ?_) (fun c_306 => ?_)
  · refine sj_goto C 1654 rfl dL_law_321 ?_
    exact K T _ _ _ _ _ _ hZZ (by show cl + 1 + 0 + 0 ≤ cl + 10; omega) (by show sl + 6 + 0 + 0 ≤ sl + 200; omega)
  · refine sj_aload_n C 310 rfl dL_law_309 rfl rfl ?_
    refine sj_iconstv C (0) 311 rfl dL_law_310 rfl ?_
    refine sj_lald C 312 rfl dL_law_311 ho9.1 (sj_ou_in ho9) ?_
    rw [show Int32.toNatClampNeg 0 = 0 from rfl, ela c_306]
    refine sj_iload C 314 rfl dL_law_312 rfl ?_
    refine sj_i2l C 315 rfl dL_law_314 ?_
    refine sj_lcmp C 316 rfl dL_law_315 ?_
    rw [sq_lcmp]
    refine sj_if_eq C 321 319 rfl rfl dL_law_316 (fun _ => ?_) (fun c_316 => absurd rfl c_316)
    refine sj_goto C 1654 rfl dL_law_321 ?_
    exact K T _ _ _ _ _ _ hZZ (by show cl + 1 + 0 + 0 ≤ cl + 10; omega) (by show sl + 6 + 0 + 0 ≤ sl + 200; omega)
set_option maxRecDepth 100000 in
set_option maxHeartbeats 200000 in
theorem lw_c3 {X : sj_X} {nm : String} (C : sj_C X (mL_law nm)) (hN : sj_HN X) (hl : X.2.1.stackTraces = false) {S : sj_St} {g : Nat → Nat} {m : Nat → Int32} {hs : Bool} {ms : Nat → Int32} {p q : Nat} {Q : Nat → Nat → Int32} {n : Nat} {B : Nat → Int32} {o : Nat} (hZ : sq_Z S g m hs ms p q Q n B) (ho : sj_ou S o) (hgo : ∀ i, i < 160 → g i ≠ o) {b Lx : Nat} {xs : Nat → Int32} (hT : sj_Scr X b Lx xs) {i : Nat} (hi : i + 4 ≤ Lx) (hLx : Lx < 2 ^ 31) {cl sl : Nat} (hc : cl ≤ 600000) (hs9 : sl ≤ 7290000) (K : ∀ (U : sj_St) (cl2 sl2 : Nat) (o5 o6 o7 o8 : Option Value), sq_ZZ U g o → cl2 ≤ cl + 10 → sl2 ≤ sl + 200 → sj_G X U cl2 sl2 [some (.ref b), some (.ref (g 141)), some (.ref (g 142)), some (.ref o), some (.int (nI i)), o5, o6, o7, o8] 1654 []) (o5 o6 o7 o8 : Option Value) : sj_G X S cl sl [some (.ref b), some (.ref (g 141)), some (.ref (g 142)), some (.ref o), some (.int (nI i)), o5, o6, o7, o8] 324 [] := by
  have hJ := st_set X.2.1 hl hZ ho hgo (xs (i + 1)) (xs (i + 2))
  obtain ⟨t, A, hL, h7⟩ := hJ
  refine sj_aload_n C 325 rfl dL_law_324 rfl rfl ?_
  refine sj_aload_n C 326 rfl dL_law_325 rfl rfl ?_
  refine sj_iload C 328 rfl dL_law_326 rfl ?_
  refine sj_iconstv C (1) 329 rfl dL_law_328 rfl ?_
  refine sj_iadd C 330 rfl dL_law_329 ?_
  rw [show nI i + 1 = nI (i + 1) from nI_add i 1]
  refine sj_xld C 331 rfl dL_law_330 hT (show i + 1 < Lx by omega) hLx ?_
  refine sj_aload_n C 332 rfl dL_law_331 rfl rfl ?_
  refine sj_iload C 334 rfl dL_law_332 rfl ?_
  refine sj_iconstv C (2) 335 rfl dL_law_334 rfl ?_
  refine sj_iadd C 336 rfl dL_law_335 ?_
  rw [show nI i + 2 = nI (i + 2) from nI_add i 2]
  refine sj_xld C 337 rfl dL_law_336 hT (show i + 2 < Lx by omega) hLx ?_
  refine sj_aload_n C 338 rfl dL_law_337 rfl rfl ?_
  refine sj_callSW C hN 341 rfl dL_law_338 cw_L_102 (sq_fit4 rfl rfl (by show cl + 1 ≤ 601024; omega) (by show sl + 6 ≤ 7293034; omega)) hL rfl rfl rfl (fun v9 U hp => ?_)
  obtain ⟨rfl, hA⟩ := hp
  obtain ⟨k7, h7⟩ := h7 U hA
  refine sj_istore_5 C 343 rfl dL_law_341 rfl rfl ?_
  refine sj_aload_n C 344 rfl dL_law_343 rfl rfl ?_
  refine sj_aload_n C 345 rfl dL_law_344 rfl rfl ?_
  refine sj_iload C 347 rfl dL_law_345 rfl ?_
  refine sj_iconstv C (1) 348 rfl dL_law_347 rfl ?_
  refine sj_iadd C 349 rfl dL_law_348 ?_
  rw [show nI i + 1 = nI (i + 1) from nI_add i 1]
  refine sj_xld C 350 rfl dL_law_349 hT (show i + 1 < Lx by omega) hLx ?_
  refine sj_aload_n C 351 rfl dL_law_350 rfl rfl ?_
  refine sj_iload C 353 rfl dL_law_351 rfl ?_
  refine sj_iconstv C (2) 354 rfl dL_law_353 rfl ?_
  refine sj_iadd C 355 rfl dL_law_354 ?_
  rw [show nI i + 2 = nI (i + 2) from nI_add i 2]
  refine sj_xld C 356 rfl dL_law_355 hT (show i + 2 < Lx by omega) hLx ?_
  refine sj_callV C 359 rfl dL_law_356 cv_L_105 (sq_fit4 rfl rfl (by show cl + 1 + 0 ≤ 601024; omega) (by show sl + 6 + 0 ≤ 7293034; omega)) h7 rfl rfl rfl ⟨_, _, k7, rfl, rfl, by decide⟩ (fun v8 T hp => ?_)
  obtain ⟨r, rfl, e0, ela, hZZ⟩ := hp
  obtain ⟨⟨m9, hs8, ms9, p9, q9, Q9, n9, B9, hZ9⟩, ho9⟩ := id hZZ
  refine sj_istore_6 C 361 rfl dL_law_359 rfl rfl ?_
  refine sj_aload_n C 362 rfl dL_law_361 rfl rfl ?_
  refine sj_callVd C 365 rfl dL_law_362 cv_L_93 (sq_fit4 rfl rfl (by show cl + 1 + 0 + 0 ≤ 601024; omega) (by show sl + 6 + 0 + 0 ≤ 7293034; omega)) (ct_X7_thrown _ hZ9.2.1.1) rfl rfl rfl ⟨_, _, hZ9.2.1.1.1.1, rfl, rfl, by decide⟩ ⟨rfl, rfl⟩ ?_
  rw [e0]
  refine sj_iload C 367 rfl dL_law_365 rfl ?_
  refine sj_icmp_eq C 372 370 rfl rfl dL_law_367 (fun _ => ?_) (fun c_367 => absurd rfl c_367)
  refine sj_iload C 374 rfl dL_law_372 rfl ?_
  refine sj_if_ne C 389 377 rfl rfl dL_law_374 (fun _ => ?_) (fun c_374 => ?_)
  · refine sj_goto C 1654 rfl dL_law_389 ?_
    exact K T _ _ _ _ _ _ hZZ (by show cl + 1 + 0 + 0 ≤ cl + 10; omega) (by show sl + 6 + 0 + 0 ≤ sl + 200; omega)
  · refine sj_aload_n C 378 rfl dL_law_377 rfl rfl ?_
    refine sj_iconstv C (0) 379 rfl dL_law_378 rfl ?_
    refine sj_lald C 380 rfl dL_law_379 ho9.1 (sj_ou_in ho9) ?_
    rw [show Int32.toNatClampNeg 0 = 0 from rfl, ela c_374]
    refine sj_iload C 382 rfl dL_law_380 rfl ?_
    refine sj_i2l C 383 rfl dL_law_382 ?_
    refine sj_lcmp C 384 rfl dL_law_383 ?_
    rw [sq_lcmp]
    refine sj_if_eq C 389 387 rfl rfl dL_law_384 (fun _ => ?_) (fun c_384 => absurd rfl c_384)
    refine sj_goto C 1654 rfl dL_law_389 ?_
    exact K T _ _ _ _ _ _ hZZ (by show cl + 1 + 0 + 0 ≤ cl + 10; omega) (by show sl + 6 + 0 + 0 ≤ sl + 200; omega)
set_option maxRecDepth 100000 in
set_option maxHeartbeats 200000 in
theorem lw_c4 {X : sj_X} {nm : String} (C : sj_C X (mL_law nm)) (hN : sj_HN X) (hl : X.2.1.stackTraces = false) {S : sj_St} {g : Nat → Nat} {m : Nat → Int32} {hs : Bool} {ms : Nat → Int32} {p q : Nat} {Q : Nat → Nat → Int32} {n : Nat} {B : Nat → Int32} {o : Nat} (hZ : sq_Z S g m hs ms p q Q n B) (ho : sj_ou S o) (hgo : ∀ i, i < 160 → g i ≠ o) {b Lx : Nat} {xs : Nat → Int32} (hT : sj_Scr X b Lx xs) {i : Nat} (hi : i + 4 ≤ Lx) (hLx : Lx < 2 ^ 31) {cl sl : Nat} (hc : cl ≤ 600000) (hs9 : sl ≤ 7290000) (K : ∀ (U : sj_St) (cl2 sl2 : Nat) (o5 o6 o7 o8 : Option Value), sq_ZZ U g o → cl2 ≤ cl + 10 → sl2 ≤ sl + 200 → sj_G X U cl2 sl2 [some (.ref b), some (.ref (g 141)), some (.ref (g 142)), some (.ref o), some (.int (nI i)), o5, o6, o7, o8] 1654 []) (o5 o6 o7 o8 : Option Value) : sj_G X S cl sl [some (.ref b), some (.ref (g 141)), some (.ref (g 142)), some (.ref o), some (.int (nI i)), o5, o6, o7, o8] 392 [] := by
  have hJ := st_swear X.2.1 hl hZ ho hgo (xs (i + 1)) (xs (i + 2)) (decide (¬ xs (i + 3) = 0))
  refine sj_aload_n C 393 rfl dL_law_392 rfl rfl ?_
  refine sj_aload_n C 394 rfl dL_law_393 rfl rfl ?_
  refine sj_iload C 396 rfl dL_law_394 rfl ?_
  refine sj_iconstv C (1) 397 rfl dL_law_396 rfl ?_
  refine sj_iadd C 398 rfl dL_law_397 ?_
  rw [show nI i + 1 = nI (i + 1) from nI_add i 1]
  refine sj_xld C 399 rfl dL_law_398 hT (show i + 1 < Lx by omega) hLx ?_
  refine sj_aload_n C 400 rfl dL_law_399 rfl rfl ?_
  refine sj_iload C 402 rfl dL_law_400 rfl ?_
  refine sj_iconstv C (2) 403 rfl dL_law_402 rfl ?_
  refine sj_iadd C 404 rfl dL_law_403 ?_
  rw [show nI i + 2 = nI (i + 2) from nI_add i 2]
  refine sj_xld C 405 rfl dL_law_404 hT (show i + 2 < Lx by omega) hLx ?_
  refine sj_aload_n C 406 rfl dL_law_405 rfl rfl ?_
  refine sj_iload C 408 rfl dL_law_406 rfl ?_
  refine sj_iconstv C (3) 409 rfl dL_law_408 rfl ?_
  refine sj_iadd C 410 rfl dL_law_409 ?_
  rw [show nI i + 3 = nI (i + 3) from nI_add i 3]
  refine sj_xld C 411 rfl dL_law_410 hT (show i + 3 < Lx by omega) hLx ?_
  rcases Classical.em (xs (i + 3) = 0) with hz | hz
  · have hb9 : sj_bi (decide (¬ xs (i + 3) = 0)) = 0 := by rw [decide_eq_false (fun h => h hz)]; rfl
    rw [hb9] at hJ
    obtain ⟨t, A, hL, h7⟩ := hJ
    refine sj_if_eq C 418 414 rfl rfl dL_law_411 (fun _ => ?_) (fun h => absurd hz h)
    refine sj_iconstv C (0) 419 rfl dL_law_418 rfl ?_
    refine sj_aload_n C 420 rfl dL_law_419 rfl rfl ?_
    refine sj_callSW C hN 423 rfl dL_law_420 cw_L_106 (sq_fit4 rfl rfl (by show cl + 1 ≤ 601024; omega) (by show sl + 6 ≤ 7293034; omega)) hL rfl rfl rfl (fun v9 U hp => ?_)
    obtain ⟨rfl, hA⟩ := hp
    obtain ⟨k7, h7⟩ := h7 U hA
    refine sj_istore_5 C 425 rfl dL_law_423 rfl rfl ?_
    refine sj_aload_n C 426 rfl dL_law_425 rfl rfl ?_
    refine sj_aload_n C 427 rfl dL_law_426 rfl rfl ?_
    refine sj_iload C 429 rfl dL_law_427 rfl ?_
    refine sj_iconstv C (1) 430 rfl dL_law_429 rfl ?_
    refine sj_iadd C 431 rfl dL_law_430 ?_
    rw [show nI i + 1 = nI (i + 1) from nI_add i 1]
    refine sj_xld C 432 rfl dL_law_431 hT (show i + 1 < Lx by omega) hLx ?_
    refine sj_aload_n C 433 rfl dL_law_432 rfl rfl ?_
    refine sj_iload C 435 rfl dL_law_433 rfl ?_
    refine sj_iconstv C (2) 436 rfl dL_law_435 rfl ?_
    refine sj_iadd C 437 rfl dL_law_436 ?_
    rw [show nI i + 2 = nI (i + 2) from nI_add i 2]
    refine sj_xld C 438 rfl dL_law_437 hT (show i + 2 < Lx by omega) hLx ?_
    refine sj_aload_n C 439 rfl dL_law_438 rfl rfl ?_
    refine sj_iload C 441 rfl dL_law_439 rfl ?_
    refine sj_iconstv C (3) 442 rfl dL_law_441 rfl ?_
    refine sj_iadd C 443 rfl dL_law_442 ?_
    rw [show nI i + 3 = nI (i + 3) from nI_add i 3]
    refine sj_xld C 444 rfl dL_law_443 hT (show i + 3 < Lx by omega) hLx ?_
    refine sj_if_eq C 451 447 rfl rfl dL_law_444 (fun _ => ?_) (fun h => absurd hz h)
    refine sj_iconstv C (0) 452 rfl dL_law_451 rfl ?_
    refine sj_callV C 455 rfl dL_law_452 cv_L_109 (sq_fit4 rfl rfl (by show cl + 1 + 0 ≤ 601024; omega) (by show sl + 6 + 0 ≤ 7293034; omega)) h7 rfl rfl rfl ⟨_, _, k7, rfl, rfl, by decide⟩ (fun v8 T hp => ?_)
    obtain ⟨r, rfl, e0, ela, hZZ⟩ := hp
    obtain ⟨⟨m9, hs8, ms9, p9, q9, Q9, n9, B9, hZ9⟩, ho9⟩ := id hZZ
    refine sj_istore_6 C 457 rfl dL_law_455 rfl rfl ?_
    refine sj_aload_n C 458 rfl dL_law_457 rfl rfl ?_
    refine sj_callVd C 461 rfl dL_law_458 cv_L_93 (sq_fit4 rfl rfl (by show cl + 1 + 0 + 0 ≤ 601024; omega) (by show sl + 6 + 0 + 0 ≤ 7293034; omega)) (ct_X7_thrown _ hZ9.2.1.1) rfl rfl rfl ⟨_, _, hZ9.2.1.1.1.1, rfl, rfl, by decide⟩ ⟨rfl, rfl⟩ ?_
    rw [e0]
    refine sj_iload C 463 rfl dL_law_461 rfl ?_
    refine sj_icmp_eq C 468 466 rfl rfl dL_law_463 (fun _ => ?_) (fun c_463 => absurd rfl c_463)
    refine sj_iload C 470 rfl dL_law_468 rfl ?_
    refine sj_if_ne C 485 473 rfl rfl dL_law_470 (fun _ => ?_) (fun c_470 => ?_)
    · refine sj_goto C 1654 rfl dL_law_485 ?_
      exact K T _ _ _ _ _ _ hZZ (by show cl + 1 + 0 + 0 ≤ cl + 10; omega) (by show sl + 6 + 0 + 0 ≤ sl + 200; omega)
    · refine sj_aload_n C 474 rfl dL_law_473 rfl rfl ?_
      refine sj_iconstv C (0) 475 rfl dL_law_474 rfl ?_
      refine sj_lald C 476 rfl dL_law_475 ho9.1 (sj_ou_in ho9) ?_
      rw [show Int32.toNatClampNeg 0 = 0 from rfl, ela c_470]
      refine sj_iload C 478 rfl dL_law_476 rfl ?_
      refine sj_i2l C 479 rfl dL_law_478 ?_
      refine sj_lcmp C 480 rfl dL_law_479 ?_
      rw [sq_lcmp]
      refine sj_if_eq C 485 483 rfl rfl dL_law_480 (fun _ => ?_) (fun c_480 => absurd rfl c_480)
      refine sj_goto C 1654 rfl dL_law_485 ?_
      exact K T _ _ _ _ _ _ hZZ (by show cl + 1 + 0 + 0 ≤ cl + 10; omega) (by show sl + 6 + 0 + 0 ≤ sl + 200; omega)
  · have hb9 : sj_bi (decide (¬ xs (i + 3) = 0)) = 1 := by rw [decide_eq_true hz]; rfl
    rw [hb9] at hJ
    obtain ⟨t, A, hL, h7⟩ := hJ
    refine sj_if_eq C 418 414 rfl rfl dL_law_411 (fun h => absurd h hz) (fun _ => ?_)
    refine sj_iconstv C (1) 415 rfl dL_law_414 rfl ?_
    refine sj_goto C 419 rfl dL_law_415 ?_
    refine sj_aload_n C 420 rfl dL_law_419 rfl rfl ?_
    refine sj_callSW C hN 423 rfl dL_law_420 cw_L_106 (sq_fit4 rfl rfl (by show cl + 1 ≤ 601024; omega) (by show sl + 6 ≤ 7293034; omega)) hL rfl rfl rfl (fun v9 U hp => ?_)
    obtain ⟨rfl, hA⟩ := hp
    obtain ⟨k7, h7⟩ := h7 U hA
    refine sj_istore_5 C 425 rfl dL_law_423 rfl rfl ?_
    refine sj_aload_n C 426 rfl dL_law_425 rfl rfl ?_
    refine sj_aload_n C 427 rfl dL_law_426 rfl rfl ?_
    refine sj_iload C 429 rfl dL_law_427 rfl ?_
    refine sj_iconstv C (1) 430 rfl dL_law_429 rfl ?_
    refine sj_iadd C 431 rfl dL_law_430 ?_
    rw [show nI i + 1 = nI (i + 1) from nI_add i 1]
    refine sj_xld C 432 rfl dL_law_431 hT (show i + 1 < Lx by omega) hLx ?_
    refine sj_aload_n C 433 rfl dL_law_432 rfl rfl ?_
    refine sj_iload C 435 rfl dL_law_433 rfl ?_
    refine sj_iconstv C (2) 436 rfl dL_law_435 rfl ?_
    refine sj_iadd C 437 rfl dL_law_436 ?_
    rw [show nI i + 2 = nI (i + 2) from nI_add i 2]
    refine sj_xld C 438 rfl dL_law_437 hT (show i + 2 < Lx by omega) hLx ?_
    refine sj_aload_n C 439 rfl dL_law_438 rfl rfl ?_
    refine sj_iload C 441 rfl dL_law_439 rfl ?_
    refine sj_iconstv C (3) 442 rfl dL_law_441 rfl ?_
    refine sj_iadd C 443 rfl dL_law_442 ?_
    rw [show nI i + 3 = nI (i + 3) from nI_add i 3]
    refine sj_xld C 444 rfl dL_law_443 hT (show i + 3 < Lx by omega) hLx ?_
    refine sj_if_eq C 451 447 rfl rfl dL_law_444 (fun h => absurd h hz) (fun _ => ?_)
    refine sj_iconstv C (1) 448 rfl dL_law_447 rfl ?_
    refine sj_goto C 452 rfl dL_law_448 ?_
    refine sj_callV C 455 rfl dL_law_452 cv_L_109 (sq_fit4 rfl rfl (by show cl + 1 + 0 ≤ 601024; omega) (by show sl + 6 + 0 ≤ 7293034; omega)) h7 rfl rfl rfl ⟨_, _, k7, rfl, rfl, by decide⟩ (fun v8 T hp => ?_)
    obtain ⟨r, rfl, e0, ela, hZZ⟩ := hp
    obtain ⟨⟨m9, hs8, ms9, p9, q9, Q9, n9, B9, hZ9⟩, ho9⟩ := id hZZ
    refine sj_istore_6 C 457 rfl dL_law_455 rfl rfl ?_
    refine sj_aload_n C 458 rfl dL_law_457 rfl rfl ?_
    refine sj_callVd C 461 rfl dL_law_458 cv_L_93 (sq_fit4 rfl rfl (by show cl + 1 + 0 + 0 ≤ 601024; omega) (by show sl + 6 + 0 + 0 ≤ 7293034; omega)) (ct_X7_thrown _ hZ9.2.1.1) rfl rfl rfl ⟨_, _, hZ9.2.1.1.1.1, rfl, rfl, by decide⟩ ⟨rfl, rfl⟩ ?_
    rw [e0]
    refine sj_iload C 463 rfl dL_law_461 rfl ?_
    refine sj_icmp_eq C 468 466 rfl rfl dL_law_463 (fun _ => ?_) (fun c_463 => absurd rfl c_463)
    refine sj_iload C 470 rfl dL_law_468 rfl ?_
    refine sj_if_ne C 485 473 rfl rfl dL_law_470 (fun _ => ?_) (fun c_470 => ?_)
    · refine sj_goto C 1654 rfl dL_law_485 ?_
      exact K T _ _ _ _ _ _ hZZ (by show cl + 1 + 0 + 0 ≤ cl + 10; omega) (by show sl + 6 + 0 + 0 ≤ sl + 200; omega)
    · refine sj_aload_n C 474 rfl dL_law_473 rfl rfl ?_
      refine sj_iconstv C (0) 475 rfl dL_law_474 rfl ?_
      refine sj_lald C 476 rfl dL_law_475 ho9.1 (sj_ou_in ho9) ?_
      rw [show Int32.toNatClampNeg 0 = 0 from rfl, ela c_470]
      refine sj_iload C 478 rfl dL_law_476 rfl ?_
      refine sj_i2l C 479 rfl dL_law_478 ?_
      refine sj_lcmp C 480 rfl dL_law_479 ?_
      rw [sq_lcmp]
      refine sj_if_eq C 485 483 rfl rfl dL_law_480 (fun _ => ?_) (fun c_480 => absurd rfl c_480)
      refine sj_goto C 1654 rfl dL_law_485 ?_
      exact K T _ _ _ _ _ _ hZZ (by show cl + 1 + 0 + 0 ≤ cl + 10; omega) (by show sl + 6 + 0 + 0 ≤ sl + 200; omega)
set_option maxRecDepth 100000 in
set_option maxHeartbeats 200000 in
theorem lw_c5 {X : sj_X} {nm : String} (C : sj_C X (mL_law nm)) (hN : sj_HN X) (hl : X.2.1.stackTraces = false) {S : sj_St} {g : Nat → Nat} {m : Nat → Int32} {hs : Bool} {ms : Nat → Int32} {p q : Nat} {Q : Nat → Nat → Int32} {n : Nat} {B : Nat → Int32} {o : Nat} (hZ : sq_Z S g m hs ms p q Q n B) (ho : sj_ou S o) (hgo : ∀ i, i < 160 → g i ≠ o) {b Lx : Nat} {xs : Nat → Int32} (hT : sj_Scr X b Lx xs) {i : Nat} (hi : i + 4 ≤ Lx) (hLx : Lx < 2 ^ 31) {cl sl : Nat} (hc : cl ≤ 600000) (hs9 : sl ≤ 7290000) (K : ∀ (U : sj_St) (cl2 sl2 : Nat) (o5 o6 o7 o8 : Option Value), sq_ZZ U g o → cl2 ≤ cl + 10 → sl2 ≤ sl + 200 → sj_G X U cl2 sl2 [some (.ref b), some (.ref (g 141)), some (.ref (g 142)), some (.ref o), some (.int (nI i)), o5, o6, o7, o8] 1654 []) (o5 o6 o7 o8 : Option Value) : sj_G X S cl sl [some (.ref b), some (.ref (g 141)), some (.ref (g 142)), some (.ref o), some (.int (nI i)), o5, o6, o7, o8] 488 [] := by
  have hJ := st_recant X.2.1 hl hZ ho hgo (xs (i + 1)) (xs (i + 2))
  obtain ⟨t, A, hL, h7⟩ := hJ
  refine sj_aload_n C 489 rfl dL_law_488 rfl rfl ?_
  refine sj_aload_n C 490 rfl dL_law_489 rfl rfl ?_
  refine sj_iload C 492 rfl dL_law_490 rfl ?_
  refine sj_iconstv C (1) 493 rfl dL_law_492 rfl ?_
  refine sj_iadd C 494 rfl dL_law_493 ?_
  rw [show nI i + 1 = nI (i + 1) from nI_add i 1]
  refine sj_xld C 495 rfl dL_law_494 hT (show i + 1 < Lx by omega) hLx ?_
  refine sj_aload_n C 496 rfl dL_law_495 rfl rfl ?_
  refine sj_iload C 498 rfl dL_law_496 rfl ?_
  refine sj_iconstv C (2) 499 rfl dL_law_498 rfl ?_
  refine sj_iadd C 500 rfl dL_law_499 ?_
  rw [show nI i + 2 = nI (i + 2) from nI_add i 2]
  refine sj_xld C 501 rfl dL_law_500 hT (show i + 2 < Lx by omega) hLx ?_
  refine sj_aload_n C 502 rfl dL_law_501 rfl rfl ?_
  refine sj_callSW C hN 505 rfl dL_law_502 cw_L_110 (sq_fit4 rfl rfl (by show cl + 1 ≤ 601024; omega) (by show sl + 6 ≤ 7293034; omega)) hL rfl rfl rfl (fun v9 U hp => ?_)
  obtain ⟨rfl, hA⟩ := hp
  obtain ⟨k7, h7⟩ := h7 U hA
  refine sj_istore_5 C 507 rfl dL_law_505 rfl rfl ?_
  refine sj_aload_n C 508 rfl dL_law_507 rfl rfl ?_
  refine sj_aload_n C 509 rfl dL_law_508 rfl rfl ?_
  refine sj_iload C 511 rfl dL_law_509 rfl ?_
  refine sj_iconstv C (1) 512 rfl dL_law_511 rfl ?_
  refine sj_iadd C 513 rfl dL_law_512 ?_
  rw [show nI i + 1 = nI (i + 1) from nI_add i 1]
  refine sj_xld C 514 rfl dL_law_513 hT (show i + 1 < Lx by omega) hLx ?_
  refine sj_aload_n C 515 rfl dL_law_514 rfl rfl ?_
  refine sj_iload C 517 rfl dL_law_515 rfl ?_
  refine sj_iconstv C (2) 518 rfl dL_law_517 rfl ?_
  refine sj_iadd C 519 rfl dL_law_518 ?_
  rw [show nI i + 2 = nI (i + 2) from nI_add i 2]
  refine sj_xld C 520 rfl dL_law_519 hT (show i + 2 < Lx by omega) hLx ?_
  refine sj_callV C 523 rfl dL_law_520 cv_L_112 (sq_fit4 rfl rfl (by show cl + 1 + 0 ≤ 601024; omega) (by show sl + 6 + 0 ≤ 7293034; omega)) h7 rfl rfl rfl ⟨_, _, k7, rfl, rfl, by decide⟩ (fun v8 T hp => ?_)
  obtain ⟨r, rfl, e0, ela, hZZ⟩ := hp
  obtain ⟨⟨m9, hs8, ms9, p9, q9, Q9, n9, B9, hZ9⟩, ho9⟩ := id hZZ
  refine sj_istore_6 C 525 rfl dL_law_523 rfl rfl ?_
  refine sj_aload_n C 526 rfl dL_law_525 rfl rfl ?_
  refine sj_callVd C 529 rfl dL_law_526 cv_L_93 (sq_fit4 rfl rfl (by show cl + 1 + 0 + 0 ≤ 601024; omega) (by show sl + 6 + 0 + 0 ≤ 7293034; omega)) (ct_X7_thrown _ hZ9.2.1.1) rfl rfl rfl ⟨_, _, hZ9.2.1.1.1.1, rfl, rfl, by decide⟩ ⟨rfl, rfl⟩ ?_
  rw [e0]
  refine sj_iload C 531 rfl dL_law_529 rfl ?_
  refine sj_icmp_eq C 536 534 rfl rfl dL_law_531 (fun _ => ?_) (fun c_531 => absurd rfl c_531)
  refine sj_iload C 538 rfl dL_law_536 rfl ?_
  refine sj_if_ne C 553 541 rfl rfl dL_law_538 (fun _ => ?_) (fun c_538 => ?_)
  · refine sj_goto C 1654 rfl dL_law_553 ?_
    exact K T _ _ _ _ _ _ hZZ (by show cl + 1 + 0 + 0 ≤ cl + 10; omega) (by show sl + 6 + 0 + 0 ≤ sl + 200; omega)
  · refine sj_aload_n C 542 rfl dL_law_541 rfl rfl ?_
    refine sj_iconstv C (0) 543 rfl dL_law_542 rfl ?_
    refine sj_lald C 544 rfl dL_law_543 ho9.1 (sj_ou_in ho9) ?_
    rw [show Int32.toNatClampNeg 0 = 0 from rfl, ela c_538]
    refine sj_iload C 546 rfl dL_law_544 rfl ?_
    refine sj_i2l C 547 rfl dL_law_546 ?_
    refine sj_lcmp C 548 rfl dL_law_547 ?_
    rw [sq_lcmp]
    refine sj_if_eq C 553 551 rfl rfl dL_law_548 (fun _ => ?_) (fun c_548 => absurd rfl c_548)
    refine sj_goto C 1654 rfl dL_law_553 ?_
    exact K T _ _ _ _ _ _ hZZ (by show cl + 1 + 0 + 0 ≤ cl + 10; omega) (by show sl + 6 + 0 + 0 ≤ sl + 200; omega)
set_option maxRecDepth 100000 in
set_option maxHeartbeats 200000 in
theorem lw_c6 {X : sj_X} {nm : String} (C : sj_C X (mL_law nm)) (hN : sj_HN X) (hl : X.2.1.stackTraces = false) {S : sj_St} {g : Nat → Nat} {m : Nat → Int32} {hs : Bool} {ms : Nat → Int32} {p q : Nat} {Q : Nat → Nat → Int32} {n : Nat} {B : Nat → Int32} {o : Nat} (hZ : sq_Z S g m hs ms p q Q n B) (ho : sj_ou S o) (hgo : ∀ i, i < 160 → g i ≠ o) {b Lx : Nat} {xs : Nat → Int32} (hT : sj_Scr X b Lx xs) {i : Nat} (hi : i + 4 ≤ Lx) (hLx : Lx < 2 ^ 31) {cl sl : Nat} (hc : cl ≤ 600000) (hs9 : sl ≤ 7290000) (K : ∀ (U : sj_St) (cl2 sl2 : Nat) (o5 o6 o7 o8 : Option Value), sq_ZZ U g o → cl2 ≤ cl + 10 → sl2 ≤ sl + 200 → sj_G X U cl2 sl2 [some (.ref b), some (.ref (g 141)), some (.ref (g 142)), some (.ref o), some (.int (nI i)), o5, o6, o7, o8] 1654 []) (o5 o6 o7 o8 : Option Value) : sj_G X S cl sl [some (.ref b), some (.ref (g 141)), some (.ref (g 142)), some (.ref o), some (.int (nI i)), o5, o6, o7, o8] 556 [] := by
  have hJ := st_append X.2.1 hl hZ ho hgo (xs (i + 1))
  obtain ⟨t, A, hL, h7⟩ := hJ
  refine sj_aload_n C 557 rfl dL_law_556 rfl rfl ?_
  refine sj_aload_n C 558 rfl dL_law_557 rfl rfl ?_
  refine sj_iload C 560 rfl dL_law_558 rfl ?_
  refine sj_iconstv C (1) 561 rfl dL_law_560 rfl ?_
  refine sj_iadd C 562 rfl dL_law_561 ?_
  rw [show nI i + 1 = nI (i + 1) from nI_add i 1]
  refine sj_xld C 563 rfl dL_law_562 hT (show i + 1 < Lx by omega) hLx ?_
  refine sj_aload_n C 564 rfl dL_law_563 rfl rfl ?_
  refine sj_callSW C hN 567 rfl dL_law_564 cw_L_113 (sq_fit4 rfl rfl (by show cl + 1 ≤ 601024; omega) (by show sl + 6 ≤ 7293034; omega)) hL rfl rfl rfl (fun v9 U hp => ?_)
  obtain ⟨rfl, hA⟩ := hp
  obtain ⟨k7, h7⟩ := h7 U hA
  refine sj_istore_5 C 569 rfl dL_law_567 rfl rfl ?_
  refine sj_aload_n C 570 rfl dL_law_569 rfl rfl ?_
  refine sj_aload_n C 571 rfl dL_law_570 rfl rfl ?_
  refine sj_iload C 573 rfl dL_law_571 rfl ?_
  refine sj_iconstv C (1) 574 rfl dL_law_573 rfl ?_
  refine sj_iadd C 575 rfl dL_law_574 ?_
  rw [show nI i + 1 = nI (i + 1) from nI_add i 1]
  refine sj_xld C 576 rfl dL_law_575 hT (show i + 1 < Lx by omega) hLx ?_
  refine sj_callV C 579 rfl dL_law_576 cv_L_115 (sq_fit4 rfl rfl (by show cl + 1 + 0 ≤ 601024; omega) (by show sl + 6 + 0 ≤ 7293034; omega)) h7 rfl rfl rfl ⟨_, _, k7, rfl, rfl, by decide⟩ (fun v8 T hp => ?_)
  obtain ⟨r, rfl, e0, ela, hZZ⟩ := hp
  obtain ⟨⟨m9, hs8, ms9, p9, q9, Q9, n9, B9, hZ9⟩, ho9⟩ := id hZZ
  refine sj_istore_6 C 581 rfl dL_law_579 rfl rfl ?_
  refine sj_aload_n C 582 rfl dL_law_581 rfl rfl ?_
  refine sj_callVd C 585 rfl dL_law_582 cv_L_93 (sq_fit4 rfl rfl (by show cl + 1 + 0 + 0 ≤ 601024; omega) (by show sl + 6 + 0 + 0 ≤ 7293034; omega)) (ct_X7_thrown _ hZ9.2.1.1) rfl rfl rfl ⟨_, _, hZ9.2.1.1.1.1, rfl, rfl, by decide⟩ ⟨rfl, rfl⟩ ?_
  rw [e0]
  refine sj_iload C 587 rfl dL_law_585 rfl ?_
  refine sj_icmp_eq C 592 590 rfl rfl dL_law_587 (fun _ => ?_) (fun c_587 => absurd rfl c_587)
  refine sj_iload C 594 rfl dL_law_592 rfl ?_
  refine sj_if_ne C 609 597 rfl rfl dL_law_594 (fun _ => ?_) (fun c_594 => ?_)
  · refine sj_goto C 1654 rfl dL_law_609 ?_
    exact K T _ _ _ _ _ _ hZZ (by show cl + 1 + 0 + 0 ≤ cl + 10; omega) (by show sl + 6 + 0 + 0 ≤ sl + 200; omega)
  · refine sj_aload_n C 598 rfl dL_law_597 rfl rfl ?_
    refine sj_iconstv C (0) 599 rfl dL_law_598 rfl ?_
    refine sj_lald C 600 rfl dL_law_599 ho9.1 (sj_ou_in ho9) ?_
    rw [show Int32.toNatClampNeg 0 = 0 from rfl, ela c_594]
    refine sj_iload C 602 rfl dL_law_600 rfl ?_
    refine sj_i2l C 603 rfl dL_law_602 ?_
    refine sj_lcmp C 604 rfl dL_law_603 ?_
    rw [sq_lcmp]
    refine sj_if_eq C 609 607 rfl rfl dL_law_604 (fun _ => ?_) (fun c_604 => absurd rfl c_604)
    refine sj_goto C 1654 rfl dL_law_609 ?_
    exact K T _ _ _ _ _ _ hZZ (by show cl + 1 + 0 + 0 ≤ cl + 10; omega) (by show sl + 6 + 0 + 0 ≤ sl + 200; omega)
set_option maxRecDepth 100000 in
set_option maxHeartbeats 200000 in
theorem lw_c7 {X : sj_X} {nm : String} (C : sj_C X (mL_law nm)) (hN : sj_HN X) (hl : X.2.1.stackTraces = false) {S : sj_St} {g : Nat → Nat} {m : Nat → Int32} {hs : Bool} {ms : Nat → Int32} {p q : Nat} {Q : Nat → Nat → Int32} {n : Nat} {B : Nat → Int32} {o : Nat} (hZ : sq_Z S g m hs ms p q Q n B) (ho : sj_ou S o) (hgo : ∀ i, i < 160 → g i ≠ o) {b Lx : Nat} {xs : Nat → Int32} (hT : sj_Scr X b Lx xs) {i : Nat} (hi : i + 4 ≤ Lx) (hLx : Lx < 2 ^ 31) {cl sl : Nat} (hc : cl ≤ 600000) (hs9 : sl ≤ 7290000) (K : ∀ (U : sj_St) (cl2 sl2 : Nat) (o5 o6 o7 o8 : Option Value), sq_ZZ U g o → cl2 ≤ cl + 10 → sl2 ≤ sl + 200 → sj_G X U cl2 sl2 [some (.ref b), some (.ref (g 141)), some (.ref (g 142)), some (.ref o), some (.int (nI i)), o5, o6, o7, o8] 1654 []) (o5 o6 o7 o8 : Option Value) : sj_G X S cl sl [some (.ref b), some (.ref (g 141)), some (.ref (g 142)), some (.ref o), some (.int (nI i)), o5, o6, o7, o8] 612 [] := by
  have hJ := st_clearBuffer (l := X.2.1) hZ ho hgo
  obtain ⟨v0, A, h6, h7⟩ := hJ
  have kx := hZ.1.1.1.1
  refine sj_aload_n C 613 rfl dL_law_612 rfl rfl ?_
  refine sj_callV C 616 rfl dL_law_613 cv_L_116 (sq_fit4 rfl rfl (by show cl + 0 ≤ 601024; omega) (by show sl + 0 ≤ 7293034; omega)) h6 rfl rfl rfl ⟨_, _, kx, rfl, rfl, by decide⟩ (fun v9 U hp => ?_)
  obtain ⟨rfl, hA⟩ := hp
  obtain ⟨k7, h7⟩ := h7 U hA
  refine sj_aload_n C 617 rfl dL_law_616 rfl rfl ?_
  refine sj_callV C 620 rfl dL_law_617 cv_L_119 (sq_fit4 rfl rfl (by show cl + 0 + 0 ≤ 601024; omega) (by show sl + 0 + 0 ≤ 7293034; omega)) h7 rfl rfl rfl ⟨_, _, k7, rfl, rfl, by decide⟩ (fun v8 T hp => ?_)
  obtain ⟨rfl, hZZ⟩ := hp
  refine sj_icmp_eq C 1654 623 rfl rfl dL_law_620 (fun _ => ?_) (fun c_620 => absurd rfl c_620)
  exact K T _ _ _ _ _ _ hZZ (by show cl + 0 + 0 ≤ cl + 10; omega) (by show sl + 0 + 0 ≤ sl + 200; omega)
set_option maxRecDepth 100000 in
set_option maxHeartbeats 200000 in
theorem lw_c8 {X : sj_X} {nm : String} (C : sj_C X (mL_law nm)) (hN : sj_HN X) (hl : X.2.1.stackTraces = false) {S : sj_St} {g : Nat → Nat} {m : Nat → Int32} {hs : Bool} {ms : Nat → Int32} {p q : Nat} {Q : Nat → Nat → Int32} {n : Nat} {B : Nat → Int32} {o : Nat} (hZ : sq_Z S g m hs ms p q Q n B) (ho : sj_ou S o) (hgo : ∀ i, i < 160 → g i ≠ o) {b Lx : Nat} {xs : Nat → Int32} (hT : sj_Scr X b Lx xs) {i : Nat} (hi : i + 4 ≤ Lx) (hLx : Lx < 2 ^ 31) {cl sl : Nat} (hc : cl ≤ 600000) (hs9 : sl ≤ 7290000) (K : ∀ (U : sj_St) (cl2 sl2 : Nat) (o5 o6 o7 o8 : Option Value), sq_ZZ U g o → cl2 ≤ cl + 10 → sl2 ≤ sl + 200 → sj_G X U cl2 sl2 [some (.ref b), some (.ref (g 141)), some (.ref (g 142)), some (.ref o), some (.int (nI i)), o5, o6, o7, o8] 1654 []) (o5 o6 o7 o8 : Option Value) : sj_G X S cl sl [some (.ref b), some (.ref (g 141)), some (.ref (g 142)), some (.ref o), some (.int (nI i)), o5, o6, o7, o8] 625 [] := by
  have hJ := st_firstError (l := X.2.1) hZ ho hgo (decide (¬ xs (i + 1) = 0))
  refine sj_aload_n C 626 rfl dL_law_625 rfl rfl ?_
  refine sj_aload_n C 627 rfl dL_law_626 rfl rfl ?_
  refine sj_iload C 629 rfl dL_law_627 rfl ?_
  refine sj_iconstv C (1) 630 rfl dL_law_629 rfl ?_
  refine sj_iadd C 631 rfl dL_law_630 ?_
  rw [show nI i + 1 = nI (i + 1) from nI_add i 1]
  refine sj_xld C 632 rfl dL_law_631 hT (show i + 1 < Lx by omega) hLx ?_
  rcases Classical.em (xs (i + 1) = 0) with hz | hz
  · have hb9 : sj_bi (decide (¬ xs (i + 1) = 0)) = 0 := by rw [decide_eq_false (fun h => h hz)]; rfl
    rw [hb9] at hJ
    obtain ⟨v0, A, h6, h7⟩ := hJ
    have kx := hZ.1.1.1.1
    refine sj_if_eq C 639 635 rfl rfl dL_law_632 (fun _ => ?_) (fun h => absurd hz h)
    refine sj_iconstv C (0) 640 rfl dL_law_639 rfl ?_
    refine sj_callV C 643 rfl dL_law_640 cv_L_120 (sq_fit4 rfl rfl (by show cl + 0 ≤ 601024; omega) (by show sl + 0 ≤ 7293034; omega)) h6 rfl rfl rfl ⟨_, _, kx, rfl, rfl, by decide⟩ (fun v9 U hp => ?_)
    obtain ⟨rfl, hA⟩ := hp
    obtain ⟨k7, h7⟩ := h7 U hA
    refine sj_aload_n C 644 rfl dL_law_643 rfl rfl ?_
    refine sj_aload_n C 645 rfl dL_law_644 rfl rfl ?_
    refine sj_iload C 647 rfl dL_law_645 rfl ?_
    refine sj_iconstv C (1) 648 rfl dL_law_647 rfl ?_
    refine sj_iadd C 649 rfl dL_law_648 ?_
    rw [show nI i + 1 = nI (i + 1) from nI_add i 1]
    refine sj_xld C 650 rfl dL_law_649 hT (show i + 1 < Lx by omega) hLx ?_
    refine sj_if_eq C 657 653 rfl rfl dL_law_650 (fun _ => ?_) (fun h => absurd hz h)
    refine sj_iconstv C (0) 658 rfl dL_law_657 rfl ?_
    refine sj_callV C 661 rfl dL_law_658 cv_L_124 (sq_fit4 rfl rfl (by show cl + 0 + 0 ≤ 601024; omega) (by show sl + 0 + 0 ≤ 7293034; omega)) h7 rfl rfl rfl ⟨_, _, k7, rfl, rfl, by decide⟩ (fun v8 T hp => ?_)
    obtain ⟨rfl, hZZ⟩ := hp
    refine sj_icmp_eq C 1654 664 rfl rfl dL_law_661 (fun _ => ?_) (fun c_661 => absurd rfl c_661)
    exact K T _ _ _ _ _ _ hZZ (by show cl + 0 + 0 ≤ cl + 10; omega) (by show sl + 0 + 0 ≤ sl + 200; omega)
  · have hb9 : sj_bi (decide (¬ xs (i + 1) = 0)) = 1 := by rw [decide_eq_true hz]; rfl
    rw [hb9] at hJ
    obtain ⟨v0, A, h6, h7⟩ := hJ
    have kx := hZ.1.1.1.1
    refine sj_if_eq C 639 635 rfl rfl dL_law_632 (fun h => absurd h hz) (fun _ => ?_)
    refine sj_iconstv C (1) 636 rfl dL_law_635 rfl ?_
    refine sj_goto C 640 rfl dL_law_636 ?_
    refine sj_callV C 643 rfl dL_law_640 cv_L_120 (sq_fit4 rfl rfl (by show cl + 0 ≤ 601024; omega) (by show sl + 0 ≤ 7293034; omega)) h6 rfl rfl rfl ⟨_, _, kx, rfl, rfl, by decide⟩ (fun v9 U hp => ?_)
    obtain ⟨rfl, hA⟩ := hp
    obtain ⟨k7, h7⟩ := h7 U hA
    refine sj_aload_n C 644 rfl dL_law_643 rfl rfl ?_
    refine sj_aload_n C 645 rfl dL_law_644 rfl rfl ?_
    refine sj_iload C 647 rfl dL_law_645 rfl ?_
    refine sj_iconstv C (1) 648 rfl dL_law_647 rfl ?_
    refine sj_iadd C 649 rfl dL_law_648 ?_
    rw [show nI i + 1 = nI (i + 1) from nI_add i 1]
    refine sj_xld C 650 rfl dL_law_649 hT (show i + 1 < Lx by omega) hLx ?_
    refine sj_if_eq C 657 653 rfl rfl dL_law_650 (fun h => absurd h hz) (fun _ => ?_)
    refine sj_iconstv C (1) 654 rfl dL_law_653 rfl ?_
    refine sj_goto C 658 rfl dL_law_654 ?_
    refine sj_callV C 661 rfl dL_law_658 cv_L_124 (sq_fit4 rfl rfl (by show cl + 0 + 0 ≤ 601024; omega) (by show sl + 0 + 0 ≤ 7293034; omega)) h7 rfl rfl rfl ⟨_, _, k7, rfl, rfl, by decide⟩ (fun v8 T hp => ?_)
    obtain ⟨rfl, hZZ⟩ := hp
    refine sj_icmp_eq C 1654 664 rfl rfl dL_law_661 (fun _ => ?_) (fun c_661 => absurd rfl c_661)
    exact K T _ _ _ _ _ _ hZZ (by show cl + 0 + 0 ≤ cl + 10; omega) (by show sl + 0 + 0 ≤ sl + 200; omega)
set_option maxRecDepth 100000 in
set_option maxHeartbeats 200000 in
theorem lw_c9 {X : sj_X} {nm : String} (C : sj_C X (mL_law nm)) (hN : sj_HN X) (hl : X.2.1.stackTraces = false) {S : sj_St} {g : Nat → Nat} {m : Nat → Int32} {hs : Bool} {ms : Nat → Int32} {p q : Nat} {Q : Nat → Nat → Int32} {n : Nat} {B : Nat → Int32} {o : Nat} (hZ : sq_Z S g m hs ms p q Q n B) (ho : sj_ou S o) (hgo : ∀ i, i < 160 → g i ≠ o) {b Lx : Nat} {xs : Nat → Int32} (hT : sj_Scr X b Lx xs) {i : Nat} (hi : i + 4 ≤ Lx) (hLx : Lx < 2 ^ 31) {cl sl : Nat} (hc : cl ≤ 600000) (hs9 : sl ≤ 7290000) (K : ∀ (U : sj_St) (cl2 sl2 : Nat) (o5 o6 o7 o8 : Option Value), sq_ZZ U g o → cl2 ≤ cl + 10 → sl2 ≤ sl + 200 → sj_G X U cl2 sl2 [some (.ref b), some (.ref (g 141)), some (.ref (g 142)), some (.ref o), some (.int (nI i)), o5, o6, o7, o8] 1654 []) (o5 o6 o7 o8 : Option Value) : sj_G X S cl sl [some (.ref b), some (.ref (g 141)), some (.ref (g 142)), some (.ref o), some (.int (nI i)), o5, o6, o7, o8] 666 [] := by
  have hJ := st_work X.2.1 hl hZ ho hgo
  obtain ⟨t, A, hL, h7⟩ := hJ
  refine sj_aload_n C 667 rfl dL_law_666 rfl rfl ?_
  refine sj_aload_n C 668 rfl dL_law_667 rfl rfl ?_
  refine sj_callSW C hN 671 rfl dL_law_668 cw_L_125 (sq_fit4 rfl rfl (by show cl + 1 ≤ 601024; omega) (by show sl + 6 ≤ 7293034; omega)) hL rfl rfl rfl (fun v9 U hp => ?_)
  obtain ⟨rfl, hA⟩ := hp
  obtain ⟨k7, h7⟩ := h7 U hA
  refine sj_istore_5 C 673 rfl dL_law_671 rfl rfl ?_
  refine sj_aload_n C 674 rfl dL_law_673 rfl rfl ?_
  refine sj_callV C 677 rfl dL_law_674 cv_L_128 (sq_fit4 rfl rfl (by show cl + 1 + 0 ≤ 601024; omega) (by show sl + 6 + 0 ≤ 7293034; omega)) h7 rfl rfl rfl ⟨_, _, k7, rfl, rfl, by decide⟩ (fun v8 T hp => ?_)
  obtain ⟨r, rfl, e0, ela, hZZ⟩ := hp
  obtain ⟨⟨m9, hs8, ms9, p9, q9, Q9, n9, B9, hZ9⟩, ho9⟩ := id hZZ
  refine sj_istore_6 C 679 rfl dL_law_677 rfl rfl ?_
  refine sj_aload_n C 680 rfl dL_law_679 rfl rfl ?_
  refine sj_callVd C 683 rfl dL_law_680 cv_L_93 (sq_fit4 rfl rfl (by show cl + 1 + 0 + 0 ≤ 601024; omega) (by show sl + 6 + 0 + 0 ≤ 7293034; omega)) (ct_X7_thrown _ hZ9.2.1.1) rfl rfl rfl ⟨_, _, hZ9.2.1.1.1.1, rfl, rfl, by decide⟩ ⟨rfl, rfl⟩ ?_
  rw [e0]
  refine sj_iload C 685 rfl dL_law_683 rfl ?_
  refine sj_icmp_eq C 690 688 rfl rfl dL_law_685 (fun _ => ?_) (fun c_685 => absurd rfl c_685)
  refine sj_iload C 692 rfl dL_law_690 rfl ?_
  refine sj_if_ne C 707 695 rfl rfl dL_law_692 (fun _ => ?_) (fun c_692 => ?_)
  · refine sj_goto C 1654 rfl dL_law_707 ?_
    exact K T _ _ _ _ _ _ hZZ (by show cl + 1 + 0 + 0 ≤ cl + 10; omega) (by show sl + 6 + 0 + 0 ≤ sl + 200; omega)
  · refine sj_aload_n C 696 rfl dL_law_695 rfl rfl ?_
    refine sj_iconstv C (0) 697 rfl dL_law_696 rfl ?_
    refine sj_lald C 698 rfl dL_law_697 ho9.1 (sj_ou_in ho9) ?_
    rw [show Int32.toNatClampNeg 0 = 0 from rfl, ela c_692]
    refine sj_iload C 700 rfl dL_law_698 rfl ?_
    refine sj_i2l C 701 rfl dL_law_700 ?_
    refine sj_lcmp C 702 rfl dL_law_701 ?_
    rw [sq_lcmp]
    refine sj_if_eq C 707 705 rfl rfl dL_law_702 (fun _ => ?_) (fun c_702 => absurd rfl c_702)
    refine sj_goto C 1654 rfl dL_law_707 ?_
    exact K T _ _ _ _ _ _ hZZ (by show cl + 1 + 0 + 0 ≤ cl + 10; omega) (by show sl + 6 + 0 + 0 ≤ sl + 200; omega)
set_option maxRecDepth 100000 in
set_option maxHeartbeats 200000 in
theorem lw_c10 {X : sj_X} {nm : String} (C : sj_C X (mL_law nm)) (hN : sj_HN X) (hl : X.2.1.stackTraces = false) {S : sj_St} {g : Nat → Nat} {m : Nat → Int32} {hs : Bool} {ms : Nat → Int32} {p q : Nat} {Q : Nat → Nat → Int32} {n : Nat} {B : Nat → Int32} {o : Nat} (hZ : sq_Z S g m hs ms p q Q n B) (ho : sj_ou S o) (hgo : ∀ i, i < 160 → g i ≠ o) {b Lx : Nat} {xs : Nat → Int32} (hT : sj_Scr X b Lx xs) {i : Nat} (hi : i + 4 ≤ Lx) (hLx : Lx < 2 ^ 31) {cl sl : Nat} (hc : cl ≤ 600000) (hs9 : sl ≤ 7290000) (K : ∀ (U : sj_St) (cl2 sl2 : Nat) (o5 o6 o7 o8 : Option Value), sq_ZZ U g o → cl2 ≤ cl + 10 → sl2 ≤ sl + 200 → sj_G X U cl2 sl2 [some (.ref b), some (.ref (g 141)), some (.ref (g 142)), some (.ref o), some (.int (nI i)), o5, o6, o7, o8] 1654 []) (o5 o6 o7 o8 : Option Value) : sj_G X S cl sl [some (.ref b), some (.ref (g 141)), some (.ref (g 142)), some (.ref o), some (.int (nI i)), o5, o6, o7, o8] 710 [] := by
  have hJ := st_stopped X.2.1 hl hZ ho hgo (xs (i + 1))
  obtain ⟨t, A, hL, h7⟩ := hJ
  refine sj_aload_n C 711 rfl dL_law_710 rfl rfl ?_
  refine sj_aload_n C 712 rfl dL_law_711 rfl rfl ?_
  refine sj_iload C 714 rfl dL_law_712 rfl ?_
  refine sj_iconstv C (1) 715 rfl dL_law_714 rfl ?_
  refine sj_iadd C 716 rfl dL_law_715 ?_
  rw [show nI i + 1 = nI (i + 1) from nI_add i 1]
  refine sj_xld C 717 rfl dL_law_716 hT (show i + 1 < Lx by omega) hLx ?_
  refine sj_aload_n C 718 rfl dL_law_717 rfl rfl ?_
  refine sj_callSW C hN 721 rfl dL_law_718 cw_L_129 (sq_fit4 rfl rfl (by show cl + 1 ≤ 601024; omega) (by show sl + 6 ≤ 7293034; omega)) hL rfl rfl rfl (fun v9 U hp => ?_)
  obtain ⟨rfl, hA⟩ := hp
  obtain ⟨k7, h7⟩ := h7 U hA
  refine sj_istore_5 C 723 rfl dL_law_721 rfl rfl ?_
  refine sj_aload_n C 724 rfl dL_law_723 rfl rfl ?_
  refine sj_aload_n C 725 rfl dL_law_724 rfl rfl ?_
  refine sj_iload C 727 rfl dL_law_725 rfl ?_
  refine sj_iconstv C (1) 728 rfl dL_law_727 rfl ?_
  refine sj_iadd C 729 rfl dL_law_728 ?_
  rw [show nI i + 1 = nI (i + 1) from nI_add i 1]
  refine sj_xld C 730 rfl dL_law_729 hT (show i + 1 < Lx by omega) hLx ?_
  refine sj_callV C 733 rfl dL_law_730 cv_L_131 (sq_fit4 rfl rfl (by show cl + 1 + 0 ≤ 601024; omega) (by show sl + 6 + 0 ≤ 7293034; omega)) h7 rfl rfl rfl ⟨_, _, k7, rfl, rfl, by decide⟩ (fun v8 T hp => ?_)
  obtain ⟨r, rfl, e0, ela, hZZ⟩ := hp
  obtain ⟨⟨m9, hs8, ms9, p9, q9, Q9, n9, B9, hZ9⟩, ho9⟩ := id hZZ
  refine sj_istore_6 C 735 rfl dL_law_733 rfl rfl ?_
  refine sj_aload_n C 736 rfl dL_law_735 rfl rfl ?_
  refine sj_callVd C 739 rfl dL_law_736 cv_L_93 (sq_fit4 rfl rfl (by show cl + 1 + 0 + 0 ≤ 601024; omega) (by show sl + 6 + 0 + 0 ≤ 7293034; omega)) (ct_X7_thrown _ hZ9.2.1.1) rfl rfl rfl ⟨_, _, hZ9.2.1.1.1.1, rfl, rfl, by decide⟩ ⟨rfl, rfl⟩ ?_
  rw [e0]
  refine sj_iload C 741 rfl dL_law_739 rfl ?_
  refine sj_icmp_eq C 746 744 rfl rfl dL_law_741 (fun _ => ?_) (fun c_741 => absurd rfl c_741)
  refine sj_iload C 748 rfl dL_law_746 rfl ?_
  refine sj_if_ne C 763 751 rfl rfl dL_law_748 (fun _ => ?_) (fun c_748 => ?_)
  · refine sj_goto C 1654 rfl dL_law_763 ?_
    exact K T _ _ _ _ _ _ hZZ (by show cl + 1 + 0 + 0 ≤ cl + 10; omega) (by show sl + 6 + 0 + 0 ≤ sl + 200; omega)
  · refine sj_aload_n C 752 rfl dL_law_751 rfl rfl ?_
    refine sj_iconstv C (0) 753 rfl dL_law_752 rfl ?_
    refine sj_lald C 754 rfl dL_law_753 ho9.1 (sj_ou_in ho9) ?_
    rw [show Int32.toNatClampNeg 0 = 0 from rfl, ela c_748]
    refine sj_iload C 756 rfl dL_law_754 rfl ?_
    refine sj_i2l C 757 rfl dL_law_756 ?_
    refine sj_lcmp C 758 rfl dL_law_757 ?_
    rw [sq_lcmp]
    refine sj_if_eq C 763 761 rfl rfl dL_law_758 (fun _ => ?_) (fun c_758 => absurd rfl c_758)
    refine sj_goto C 1654 rfl dL_law_763 ?_
    exact K T _ _ _ _ _ _ hZZ (by show cl + 1 + 0 + 0 ≤ cl + 10; omega) (by show sl + 6 + 0 + 0 ≤ sl + 200; omega)
set_option maxRecDepth 100000 in
set_option maxHeartbeats 200000 in
theorem lw_c11 {X : sj_X} {nm : String} (C : sj_C X (mL_law nm)) (hN : sj_HN X) (hl : X.2.1.stackTraces = false) {S : sj_St} {g : Nat → Nat} {m : Nat → Int32} {hs : Bool} {ms : Nat → Int32} {p q : Nat} {Q : Nat → Nat → Int32} {n : Nat} {B : Nat → Int32} {o : Nat} (hZ : sq_Z S g m hs ms p q Q n B) (ho : sj_ou S o) (hgo : ∀ i, i < 160 → g i ≠ o) {b Lx : Nat} {xs : Nat → Int32} (hT : sj_Scr X b Lx xs) {i : Nat} (hi : i + 4 ≤ Lx) (hLx : Lx < 2 ^ 31) {cl sl : Nat} (hc : cl ≤ 600000) (hs9 : sl ≤ 7290000) (K : ∀ (U : sj_St) (cl2 sl2 : Nat) (o5 o6 o7 o8 : Option Value), sq_ZZ U g o → cl2 ≤ cl + 10 → sl2 ≤ sl + 200 → sj_G X U cl2 sl2 [some (.ref b), some (.ref (g 141)), some (.ref (g 142)), some (.ref o), some (.int (nI i)), o5, o6, o7, o8] 1654 []) (o5 o6 o7 o8 : Option Value) : sj_G X S cl sl [some (.ref b), some (.ref (g 141)), some (.ref (g 142)), some (.ref o), some (.int (nI i)), o5, o6, o7, o8] 766 [] := by
  have hJ := st_undo X.2.1 hl hZ ho hgo
  obtain ⟨t, A, hL, h7⟩ := hJ
  refine sj_aload_n C 767 rfl dL_law_766 rfl rfl ?_
  refine sj_aload_n C 768 rfl dL_law_767 rfl rfl ?_
  refine sj_callSW C hN 771 rfl dL_law_768 cw_L_132 (sq_fit4 rfl rfl (by show cl + 1 ≤ 601024; omega) (by show sl + 6 ≤ 7293034; omega)) hL rfl rfl rfl (fun v9 U hp => ?_)
  obtain ⟨rfl, hA⟩ := hp
  obtain ⟨k7, h7⟩ := h7 U hA
  refine sj_istore_5 C 773 rfl dL_law_771 rfl rfl ?_
  refine sj_aload_n C 774 rfl dL_law_773 rfl rfl ?_
  refine sj_callV C 777 rfl dL_law_774 cv_L_134 (sq_fit4 rfl rfl (by show cl + 1 + 0 ≤ 601024; omega) (by show sl + 6 + 0 ≤ 7293034; omega)) h7 rfl rfl rfl ⟨_, _, k7, rfl, rfl, by decide⟩ (fun v8 T hp => ?_)
  obtain ⟨r, rfl, e0, ela, hZZ⟩ := hp
  obtain ⟨⟨m9, hs8, ms9, p9, q9, Q9, n9, B9, hZ9⟩, ho9⟩ := id hZZ
  refine sj_istore_6 C 779 rfl dL_law_777 rfl rfl ?_
  refine sj_aload_n C 780 rfl dL_law_779 rfl rfl ?_
  refine sj_callVd C 783 rfl dL_law_780 cv_L_93 (sq_fit4 rfl rfl (by show cl + 1 + 0 + 0 ≤ 601024; omega) (by show sl + 6 + 0 + 0 ≤ 7293034; omega)) (ct_X7_thrown _ hZ9.2.1.1) rfl rfl rfl ⟨_, _, hZ9.2.1.1.1.1, rfl, rfl, by decide⟩ ⟨rfl, rfl⟩ ?_
  rw [e0]
  refine sj_iload C 785 rfl dL_law_783 rfl ?_
  refine sj_icmp_eq C 790 788 rfl rfl dL_law_785 (fun _ => ?_) (fun c_785 => absurd rfl c_785)
  refine sj_iload C 792 rfl dL_law_790 rfl ?_
  refine sj_if_ne C 807 795 rfl rfl dL_law_792 (fun _ => ?_) (fun c_792 => ?_)
  · refine sj_goto C 1654 rfl dL_law_807 ?_
    exact K T _ _ _ _ _ _ hZZ (by show cl + 1 + 0 + 0 ≤ cl + 10; omega) (by show sl + 6 + 0 + 0 ≤ sl + 200; omega)
  · refine sj_aload_n C 796 rfl dL_law_795 rfl rfl ?_
    refine sj_iconstv C (0) 797 rfl dL_law_796 rfl ?_
    refine sj_lald C 798 rfl dL_law_797 ho9.1 (sj_ou_in ho9) ?_
    rw [show Int32.toNatClampNeg 0 = 0 from rfl, ela c_792]
    refine sj_iload C 800 rfl dL_law_798 rfl ?_
    refine sj_i2l C 801 rfl dL_law_800 ?_
    refine sj_lcmp C 802 rfl dL_law_801 ?_
    rw [sq_lcmp]
    refine sj_if_eq C 807 805 rfl rfl dL_law_802 (fun _ => ?_) (fun c_802 => absurd rfl c_802)
    refine sj_goto C 1654 rfl dL_law_807 ?_
    exact K T _ _ _ _ _ _ hZZ (by show cl + 1 + 0 + 0 ≤ cl + 10; omega) (by show sl + 6 + 0 + 0 ≤ sl + 200; omega)
set_option maxRecDepth 100000 in
set_option maxHeartbeats 200000 in
theorem lw_c12 {X : sj_X} {nm : String} (C : sj_C X (mL_law nm)) (hN : sj_HN X) (hl : X.2.1.stackTraces = false) {S : sj_St} {g : Nat → Nat} {m : Nat → Int32} {hs : Bool} {ms : Nat → Int32} {p q : Nat} {Q : Nat → Nat → Int32} {n : Nat} {B : Nat → Int32} {o : Nat} (hZ : sq_Z S g m hs ms p q Q n B) (ho : sj_ou S o) (hgo : ∀ i, i < 160 → g i ≠ o) {b Lx : Nat} {xs : Nat → Int32} (hT : sj_Scr X b Lx xs) {i : Nat} (hi : i + 4 ≤ Lx) (hLx : Lx < 2 ^ 31) {cl sl : Nat} (hc : cl ≤ 600000) (hs9 : sl ≤ 7290000) (K : ∀ (U : sj_St) (cl2 sl2 : Nat) (o5 o6 o7 o8 : Option Value), sq_ZZ U g o → cl2 ≤ cl + 10 → sl2 ≤ sl + 200 → sj_G X U cl2 sl2 [some (.ref b), some (.ref (g 141)), some (.ref (g 142)), some (.ref o), some (.int (nI i)), o5, o6, o7, o8] 1654 []) (o5 o6 o7 o8 : Option Value) : sj_G X S cl sl [some (.ref b), some (.ref (g 141)), some (.ref (g 142)), some (.ref o), some (.int (nI i)), o5, o6, o7, o8] 810 [] := by
  have hJ := st_keep (l := X.2.1) hZ ho hgo
  obtain ⟨v0, A, h6, h7⟩ := hJ
  have kx := hZ.1.1.1.1
  refine sj_aload_n C 811 rfl dL_law_810 rfl rfl ?_
  refine sj_callV C 814 rfl dL_law_811 cv_L_135 (sq_fit4 rfl rfl (by show cl + 0 ≤ 601024; omega) (by show sl + 0 ≤ 7293034; omega)) h6 rfl rfl rfl ⟨_, _, kx, rfl, rfl, by decide⟩ (fun v9 U hp => ?_)
  obtain ⟨rfl, hA⟩ := hp
  obtain ⟨k7, h7⟩ := h7 U hA
  refine sj_aload_n C 815 rfl dL_law_814 rfl rfl ?_
  refine sj_callV C 818 rfl dL_law_815 cv_L_138 (sq_fit4 rfl rfl (by show cl + 0 + 0 ≤ 601024; omega) (by show sl + 0 + 0 ≤ 7293034; omega)) h7 rfl rfl rfl ⟨_, _, k7, rfl, rfl, by decide⟩ (fun v8 T hp => ?_)
  obtain ⟨rfl, hZZ⟩ := hp
  refine sj_icmp_eq C 1654 821 rfl rfl dL_law_818 (fun _ => ?_) (fun c_818 => absurd rfl c_818)
  exact K T _ _ _ _ _ _ hZZ (by show cl + 0 + 0 ≤ cl + 10; omega) (by show sl + 0 + 0 ≤ sl + 200; omega)
set_option maxRecDepth 100000 in
set_option maxHeartbeats 200000 in
theorem lw_c13 {X : sj_X} {nm : String} (C : sj_C X (mL_law nm)) (hN : sj_HN X) (hl : X.2.1.stackTraces = false) {S : sj_St} {g : Nat → Nat} {m : Nat → Int32} {hs : Bool} {ms : Nat → Int32} {p q : Nat} {Q : Nat → Nat → Int32} {n : Nat} {B : Nat → Int32} {o : Nat} (hZ : sq_Z S g m hs ms p q Q n B) (ho : sj_ou S o) (hgo : ∀ i, i < 160 → g i ≠ o) {b Lx : Nat} {xs : Nat → Int32} (hT : sj_Scr X b Lx xs) {i : Nat} (hi : i + 4 ≤ Lx) (hLx : Lx < 2 ^ 31) {cl sl : Nat} (hc : cl ≤ 600000) (hs9 : sl ≤ 7290000) (K : ∀ (U : sj_St) (cl2 sl2 : Nat) (o5 o6 o7 o8 : Option Value), sq_ZZ U g o → cl2 ≤ cl + 10 → sl2 ≤ sl + 200 → sj_G X U cl2 sl2 [some (.ref b), some (.ref (g 141)), some (.ref (g 142)), some (.ref o), some (.int (nI i)), o5, o6, o7, o8] 1654 []) (o5 o6 o7 o8 : Option Value) : sj_G X S cl sl [some (.ref b), some (.ref (g 141)), some (.ref (g 142)), some (.ref o), some (.int (nI i)), o5, o6, o7, o8] 823 [] := by
  have hJ := st_restore X.2.1 hl hZ ho hgo
  obtain ⟨t, A, hL, h7⟩ := hJ
  refine sj_aload_n C 824 rfl dL_law_823 rfl rfl ?_
  refine sj_aload_n C 825 rfl dL_law_824 rfl rfl ?_
  refine sj_callSW C hN 828 rfl dL_law_825 cw_L_139 (sq_fit4 rfl rfl (by show cl + 1 ≤ 601024; omega) (by show sl + 6 ≤ 7293034; omega)) hL rfl rfl rfl (fun v9 U hp => ?_)
  obtain ⟨rfl, hA⟩ := hp
  obtain ⟨k7, h7⟩ := h7 U hA
  refine sj_istore_5 C 830 rfl dL_law_828 rfl rfl ?_
  refine sj_aload_n C 831 rfl dL_law_830 rfl rfl ?_
  refine sj_callV C 834 rfl dL_law_831 cv_L_141 (sq_fit4 rfl rfl (by show cl + 1 + 0 ≤ 601024; omega) (by show sl + 6 + 0 ≤ 7293034; omega)) h7 rfl rfl rfl ⟨_, _, k7, rfl, rfl, by decide⟩ (fun v8 T hp => ?_)
  obtain ⟨r, rfl, e0, ela, hZZ⟩ := hp
  obtain ⟨⟨m9, hs8, ms9, p9, q9, Q9, n9, B9, hZ9⟩, ho9⟩ := id hZZ
  refine sj_istore_6 C 836 rfl dL_law_834 rfl rfl ?_
  refine sj_aload_n C 837 rfl dL_law_836 rfl rfl ?_
  refine sj_callVd C 840 rfl dL_law_837 cv_L_93 (sq_fit4 rfl rfl (by show cl + 1 + 0 + 0 ≤ 601024; omega) (by show sl + 6 + 0 + 0 ≤ 7293034; omega)) (ct_X7_thrown _ hZ9.2.1.1) rfl rfl rfl ⟨_, _, hZ9.2.1.1.1.1, rfl, rfl, by decide⟩ ⟨rfl, rfl⟩ ?_
  rw [e0]
  refine sj_iload C 842 rfl dL_law_840 rfl ?_
  refine sj_icmp_eq C 847 845 rfl rfl dL_law_842 (fun _ => ?_) (fun c_842 => absurd rfl c_842)
  refine sj_iload C 849 rfl dL_law_847 rfl ?_
  refine sj_if_ne C 864 852 rfl rfl dL_law_849 (fun _ => ?_) (fun c_849 => ?_)
  · refine sj_goto C 1654 rfl dL_law_864 ?_
    exact K T _ _ _ _ _ _ hZZ (by show cl + 1 + 0 + 0 ≤ cl + 10; omega) (by show sl + 6 + 0 + 0 ≤ sl + 200; omega)
  · refine sj_aload_n C 853 rfl dL_law_852 rfl rfl ?_
    refine sj_iconstv C (0) 854 rfl dL_law_853 rfl ?_
    refine sj_lald C 855 rfl dL_law_854 ho9.1 (sj_ou_in ho9) ?_
    rw [show Int32.toNatClampNeg 0 = 0 from rfl, ela c_849]
    refine sj_iload C 857 rfl dL_law_855 rfl ?_
    refine sj_i2l C 858 rfl dL_law_857 ?_
    refine sj_lcmp C 859 rfl dL_law_858 ?_
    rw [sq_lcmp]
    refine sj_if_eq C 864 862 rfl rfl dL_law_859 (fun _ => ?_) (fun c_859 => absurd rfl c_859)
    refine sj_goto C 1654 rfl dL_law_864 ?_
    exact K T _ _ _ _ _ _ hZZ (by show cl + 1 + 0 + 0 ≤ cl + 10; omega) (by show sl + 6 + 0 + 0 ≤ sl + 200; omega)
set_option maxRecDepth 100000 in
set_option maxHeartbeats 200000 in
theorem lw_c14 {X : sj_X} {nm : String} (C : sj_C X (mL_law nm)) (hN : sj_HN X) (hl : X.2.1.stackTraces = false) {S : sj_St} {g : Nat → Nat} {m : Nat → Int32} {hs : Bool} {ms : Nat → Int32} {p q : Nat} {Q : Nat → Nat → Int32} {n : Nat} {B : Nat → Int32} {o : Nat} (hZ : sq_Z S g m hs ms p q Q n B) (ho : sj_ou S o) (hgo : ∀ i, i < 160 → g i ≠ o) {b Lx : Nat} {xs : Nat → Int32} (hT : sj_Scr X b Lx xs) {i : Nat} (hi : i + 4 ≤ Lx) (hLx : Lx < 2 ^ 31) {cl sl : Nat} (hc : cl ≤ 600000) (hs9 : sl ≤ 7290000) (K : ∀ (U : sj_St) (cl2 sl2 : Nat) (o5 o6 o7 o8 : Option Value), sq_ZZ U g o → cl2 ≤ cl + 10 → sl2 ≤ sl + 200 → sj_G X U cl2 sl2 [some (.ref b), some (.ref (g 141)), some (.ref (g 142)), some (.ref o), some (.int (nI i)), o5, o6, o7, o8] 1654 []) (o5 o6 o7 o8 : Option Value) : sj_G X S cl sl [some (.ref b), some (.ref (g 141)), some (.ref (g 142)), some (.ref o), some (.int (nI i)), o5, o6, o7, o8] 867 [] := by
  have hJ := st_sheet X.2.1 hl hZ ho hgo (xs (i + 1)) (xs (i + 2))
  obtain ⟨t, A, hL, h7⟩ := hJ
  refine sj_aload_n C 868 rfl dL_law_867 rfl rfl ?_
  refine sj_aload_n C 869 rfl dL_law_868 rfl rfl ?_
  refine sj_iload C 871 rfl dL_law_869 rfl ?_
  refine sj_iconstv C (1) 872 rfl dL_law_871 rfl ?_
  refine sj_iadd C 873 rfl dL_law_872 ?_
  rw [show nI i + 1 = nI (i + 1) from nI_add i 1]
  refine sj_xld C 874 rfl dL_law_873 hT (show i + 1 < Lx by omega) hLx ?_
  refine sj_aload_n C 875 rfl dL_law_874 rfl rfl ?_
  refine sj_iload C 877 rfl dL_law_875 rfl ?_
  refine sj_iconstv C (2) 878 rfl dL_law_877 rfl ?_
  refine sj_iadd C 879 rfl dL_law_878 ?_
  rw [show nI i + 2 = nI (i + 2) from nI_add i 2]
  refine sj_xld C 880 rfl dL_law_879 hT (show i + 2 < Lx by omega) hLx ?_
  refine sj_aload_n C 881 rfl dL_law_880 rfl rfl ?_
  refine sj_callSW C hN 884 rfl dL_law_881 cw_L_142 (sq_fit4 rfl rfl (by show cl + 1 ≤ 601024; omega) (by show sl + 6 ≤ 7293034; omega)) hL rfl rfl rfl (fun v9 U hp => ?_)
  obtain ⟨rfl, hA⟩ := hp
  obtain ⟨k7, h7⟩ := h7 U hA
  refine sj_istore_5 C 886 rfl dL_law_884 rfl rfl ?_
  refine sj_aload_n C 887 rfl dL_law_886 rfl rfl ?_
  refine sj_aload_n C 888 rfl dL_law_887 rfl rfl ?_
  refine sj_iload C 890 rfl dL_law_888 rfl ?_
  refine sj_iconstv C (1) 891 rfl dL_law_890 rfl ?_
  refine sj_iadd C 892 rfl dL_law_891 ?_
  rw [show nI i + 1 = nI (i + 1) from nI_add i 1]
  refine sj_xld C 893 rfl dL_law_892 hT (show i + 1 < Lx by omega) hLx ?_
  refine sj_aload_n C 894 rfl dL_law_893 rfl rfl ?_
  refine sj_iload C 896 rfl dL_law_894 rfl ?_
  refine sj_iconstv C (2) 897 rfl dL_law_896 rfl ?_
  refine sj_iadd C 898 rfl dL_law_897 ?_
  rw [show nI i + 2 = nI (i + 2) from nI_add i 2]
  refine sj_xld C 899 rfl dL_law_898 hT (show i + 2 < Lx by omega) hLx ?_
  refine sj_callV C 902 rfl dL_law_899 cv_L_144 (sq_fit4 rfl rfl (by show cl + 1 + 0 ≤ 601024; omega) (by show sl + 6 + 0 ≤ 7293034; omega)) h7 rfl rfl rfl ⟨_, _, k7, rfl, rfl, by decide⟩ (fun v8 T hp => ?_)
  obtain ⟨r, rfl, e0, ela, hZZ⟩ := hp
  obtain ⟨⟨m9, hs8, ms9, p9, q9, Q9, n9, B9, hZ9⟩, ho9⟩ := id hZZ
  refine sj_istore_6 C 904 rfl dL_law_902 rfl rfl ?_
  refine sj_aload_n C 905 rfl dL_law_904 rfl rfl ?_
  refine sj_callVd C 908 rfl dL_law_905 cv_L_93 (sq_fit4 rfl rfl (by show cl + 1 + 0 + 0 ≤ 601024; omega) (by show sl + 6 + 0 + 0 ≤ 7293034; omega)) (ct_X7_thrown _ hZ9.2.1.1) rfl rfl rfl ⟨_, _, hZ9.2.1.1.1.1, rfl, rfl, by decide⟩ ⟨rfl, rfl⟩ ?_
  rw [e0]
  refine sj_iload C 910 rfl dL_law_908 rfl ?_
  refine sj_icmp_eq C 915 913 rfl rfl dL_law_910 (fun _ => ?_) (fun c_910 => absurd rfl c_910)
  refine sj_iload C 917 rfl dL_law_915 rfl ?_
  refine sj_if_ne C 932 920 rfl rfl dL_law_917 (fun _ => ?_) (fun c_917 => ?_)
  · refine sj_goto C 1654 rfl dL_law_932 ?_
    exact K T _ _ _ _ _ _ hZZ (by show cl + 1 + 0 + 0 ≤ cl + 10; omega) (by show sl + 6 + 0 + 0 ≤ sl + 200; omega)
  · refine sj_aload_n C 921 rfl dL_law_920 rfl rfl ?_
    refine sj_iconstv C (0) 922 rfl dL_law_921 rfl ?_
    refine sj_lald C 923 rfl dL_law_922 ho9.1 (sj_ou_in ho9) ?_
    rw [show Int32.toNatClampNeg 0 = 0 from rfl, ela c_917]
    refine sj_iload C 925 rfl dL_law_923 rfl ?_
    refine sj_i2l C 926 rfl dL_law_925 ?_
    refine sj_lcmp C 927 rfl dL_law_926 ?_
    rw [sq_lcmp]
    refine sj_if_eq C 932 930 rfl rfl dL_law_927 (fun _ => ?_) (fun c_927 => absurd rfl c_927)
    refine sj_goto C 1654 rfl dL_law_932 ?_
    exact K T _ _ _ _ _ _ hZZ (by show cl + 1 + 0 + 0 ≤ cl + 10; omega) (by show sl + 6 + 0 + 0 ≤ sl + 200; omega)
set_option maxRecDepth 100000 in
set_option maxHeartbeats 200000 in
theorem lw_c15 {X : sj_X} {nm : String} (C : sj_C X (mL_law nm)) (hN : sj_HN X) (hl : X.2.1.stackTraces = false) {S : sj_St} {g : Nat → Nat} {m : Nat → Int32} {hs : Bool} {ms : Nat → Int32} {p q : Nat} {Q : Nat → Nat → Int32} {n : Nat} {B : Nat → Int32} {o : Nat} (hZ : sq_Z S g m hs ms p q Q n B) (ho : sj_ou S o) (hgo : ∀ i, i < 160 → g i ≠ o) {b Lx : Nat} {xs : Nat → Int32} (hT : sj_Scr X b Lx xs) {i : Nat} (hi : i + 4 ≤ Lx) (hLx : Lx < 2 ^ 31) {cl sl : Nat} (hc : cl ≤ 600000) (hs9 : sl ≤ 7290000) (K : ∀ (U : sj_St) (cl2 sl2 : Nat) (o5 o6 o7 o8 : Option Value), sq_ZZ U g o → cl2 ≤ cl + 10 → sl2 ≤ sl + 200 → sj_G X U cl2 sl2 [some (.ref b), some (.ref (g 141)), some (.ref (g 142)), some (.ref o), some (.int (nI i)), o5, o6, o7, o8] 1654 []) (o5 o6 o7 o8 : Option Value) : sj_G X S cl sl [some (.ref b), some (.ref (g 141)), some (.ref (g 142)), some (.ref o), some (.int (nI i)), o5, o6, o7, o8] 935 [] := by
  have hJ := st_stroke X.2.1 hl hZ ho hgo (xs (i + 1)) (xs (i + 2)) (xs (i + 3))
  obtain ⟨t, A, hL, h7⟩ := hJ
  refine sj_aload_n C 936 rfl dL_law_935 rfl rfl ?_
  refine sj_aload_n C 937 rfl dL_law_936 rfl rfl ?_
  refine sj_iload C 939 rfl dL_law_937 rfl ?_
  refine sj_iconstv C (1) 940 rfl dL_law_939 rfl ?_
  refine sj_iadd C 941 rfl dL_law_940 ?_
  rw [show nI i + 1 = nI (i + 1) from nI_add i 1]
  refine sj_xld C 942 rfl dL_law_941 hT (show i + 1 < Lx by omega) hLx ?_
  refine sj_aload_n C 943 rfl dL_law_942 rfl rfl ?_
  refine sj_iload C 945 rfl dL_law_943 rfl ?_
  refine sj_iconstv C (2) 946 rfl dL_law_945 rfl ?_
  refine sj_iadd C 947 rfl dL_law_946 ?_
  rw [show nI i + 2 = nI (i + 2) from nI_add i 2]
  refine sj_xld C 948 rfl dL_law_947 hT (show i + 2 < Lx by omega) hLx ?_
  refine sj_aload_n C 949 rfl dL_law_948 rfl rfl ?_
  refine sj_iload C 951 rfl dL_law_949 rfl ?_
  refine sj_iconstv C (3) 952 rfl dL_law_951 rfl ?_
  refine sj_iadd C 953 rfl dL_law_952 ?_
  rw [show nI i + 3 = nI (i + 3) from nI_add i 3]
  refine sj_xld C 954 rfl dL_law_953 hT (show i + 3 < Lx by omega) hLx ?_
  refine sj_aload_n C 955 rfl dL_law_954 rfl rfl ?_
  refine sj_callSW C hN 958 rfl dL_law_955 cw_L_145 (sq_fit4 rfl rfl (by show cl + 1 ≤ 601024; omega) (by show sl + 6 ≤ 7293034; omega)) hL rfl rfl rfl (fun v9 U hp => ?_)
  obtain ⟨rfl, hA⟩ := hp
  obtain ⟨k7, h7⟩ := h7 U hA
  refine sj_istore_5 C 960 rfl dL_law_958 rfl rfl ?_
  refine sj_aload_n C 961 rfl dL_law_960 rfl rfl ?_
  refine sj_aload_n C 962 rfl dL_law_961 rfl rfl ?_
  refine sj_iload C 964 rfl dL_law_962 rfl ?_
  refine sj_iconstv C (1) 965 rfl dL_law_964 rfl ?_
  refine sj_iadd C 966 rfl dL_law_965 ?_
  rw [show nI i + 1 = nI (i + 1) from nI_add i 1]
  refine sj_xld C 967 rfl dL_law_966 hT (show i + 1 < Lx by omega) hLx ?_
  refine sj_aload_n C 968 rfl dL_law_967 rfl rfl ?_
  refine sj_iload C 970 rfl dL_law_968 rfl ?_
  refine sj_iconstv C (2) 971 rfl dL_law_970 rfl ?_
  refine sj_iadd C 972 rfl dL_law_971 ?_
  rw [show nI i + 2 = nI (i + 2) from nI_add i 2]
  refine sj_xld C 973 rfl dL_law_972 hT (show i + 2 < Lx by omega) hLx ?_
  refine sj_aload_n C 974 rfl dL_law_973 rfl rfl ?_
  refine sj_iload C 976 rfl dL_law_974 rfl ?_
  refine sj_iconstv C (3) 977 rfl dL_law_976 rfl ?_
  refine sj_iadd C 978 rfl dL_law_977 ?_
  rw [show nI i + 3 = nI (i + 3) from nI_add i 3]
  refine sj_xld C 979 rfl dL_law_978 hT (show i + 3 < Lx by omega) hLx ?_
  refine sj_callV C 982 rfl dL_law_979 cv_L_148 (sq_fit4 rfl rfl (by show cl + 1 + 0 ≤ 601024; omega) (by show sl + 6 + 0 ≤ 7293034; omega)) h7 rfl rfl rfl ⟨_, _, k7, rfl, rfl, by decide⟩ (fun v8 T hp => ?_)
  obtain ⟨r, rfl, e0, ela, hZZ⟩ := hp
  obtain ⟨⟨m9, hs8, ms9, p9, q9, Q9, n9, B9, hZ9⟩, ho9⟩ := id hZZ
  refine sj_istore_6 C 984 rfl dL_law_982 rfl rfl ?_
  refine sj_aload_n C 985 rfl dL_law_984 rfl rfl ?_
  refine sj_callVd C 988 rfl dL_law_985 cv_L_93 (sq_fit4 rfl rfl (by show cl + 1 + 0 + 0 ≤ 601024; omega) (by show sl + 6 + 0 + 0 ≤ 7293034; omega)) (ct_X7_thrown _ hZ9.2.1.1) rfl rfl rfl ⟨_, _, hZ9.2.1.1.1.1, rfl, rfl, by decide⟩ ⟨rfl, rfl⟩ ?_
  rw [e0]
  refine sj_iload C 990 rfl dL_law_988 rfl ?_
  refine sj_icmp_eq C 995 993 rfl rfl dL_law_990 (fun _ => ?_) (fun c_990 => absurd rfl c_990)
  refine sj_iload C 997 rfl dL_law_995 rfl ?_
  refine sj_if_ne C 1012 1000 rfl rfl dL_law_997 (fun _ => ?_) (fun c_997 => ?_)
  · refine sj_goto C 1654 rfl dL_law_1012 ?_
    exact K T _ _ _ _ _ _ hZZ (by show cl + 1 + 0 + 0 ≤ cl + 10; omega) (by show sl + 6 + 0 + 0 ≤ sl + 200; omega)
  · refine sj_aload_n C 1001 rfl dL_law_1000 rfl rfl ?_
    refine sj_iconstv C (0) 1002 rfl dL_law_1001 rfl ?_
    refine sj_lald C 1003 rfl dL_law_1002 ho9.1 (sj_ou_in ho9) ?_
    rw [show Int32.toNatClampNeg 0 = 0 from rfl, ela c_997]
    refine sj_iload C 1005 rfl dL_law_1003 rfl ?_
    refine sj_i2l C 1006 rfl dL_law_1005 ?_
    refine sj_lcmp C 1007 rfl dL_law_1006 ?_
    rw [sq_lcmp]
    refine sj_if_eq C 1012 1010 rfl rfl dL_law_1007 (fun _ => ?_) (fun c_1007 => absurd rfl c_1007)
    refine sj_goto C 1654 rfl dL_law_1012 ?_
    exact K T _ _ _ _ _ _ hZZ (by show cl + 1 + 0 + 0 ≤ cl + 10; omega) (by show sl + 6 + 0 + 0 ≤ sl + 200; omega)
set_option maxRecDepth 100000 in
set_option maxHeartbeats 200000 in
theorem lw_c16 {X : sj_X} {nm : String} (C : sj_C X (mL_law nm)) (hN : sj_HN X) (hl : X.2.1.stackTraces = false) {S : sj_St} {g : Nat → Nat} {m : Nat → Int32} {hs : Bool} {ms : Nat → Int32} {p q : Nat} {Q : Nat → Nat → Int32} {n : Nat} {B : Nat → Int32} {o : Nat} (hZ : sq_Z S g m hs ms p q Q n B) (ho : sj_ou S o) (hgo : ∀ i, i < 160 → g i ≠ o) {b Lx : Nat} {xs : Nat → Int32} (hT : sj_Scr X b Lx xs) {i : Nat} (hi : i + 4 ≤ Lx) (hLx : Lx < 2 ^ 31) {cl sl : Nat} (hc : cl ≤ 600000) (hs9 : sl ≤ 7290000) (K : ∀ (U : sj_St) (cl2 sl2 : Nat) (o5 o6 o7 o8 : Option Value), sq_ZZ U g o → cl2 ≤ cl + 10 → sl2 ≤ sl + 200 → sj_G X U cl2 sl2 [some (.ref b), some (.ref (g 141)), some (.ref (g 142)), some (.ref o), some (.int (nI i)), o5, o6, o7, o8] 1654 []) (o5 o6 o7 o8 : Option Value) : sj_G X S cl sl [some (.ref b), some (.ref (g 141)), some (.ref (g 142)), some (.ref o), some (.int (nI i)), o5, o6, o7, o8] 1015 [] := by
  have hJ := st_mark X.2.1 hl hZ ho hgo (xs (i + 1)) (xs (i + 2))
  obtain ⟨t, A, hL, h7⟩ := hJ
  refine sj_aload_n C 1016 rfl dL_law_1015 rfl rfl ?_
  refine sj_aload_n C 1017 rfl dL_law_1016 rfl rfl ?_
  refine sj_iload C 1019 rfl dL_law_1017 rfl ?_
  refine sj_iconstv C (1) 1020 rfl dL_law_1019 rfl ?_
  refine sj_iadd C 1021 rfl dL_law_1020 ?_
  rw [show nI i + 1 = nI (i + 1) from nI_add i 1]
  refine sj_xld C 1022 rfl dL_law_1021 hT (show i + 1 < Lx by omega) hLx ?_
  refine sj_aload_n C 1023 rfl dL_law_1022 rfl rfl ?_
  refine sj_iload C 1025 rfl dL_law_1023 rfl ?_
  refine sj_iconstv C (2) 1026 rfl dL_law_1025 rfl ?_
  refine sj_iadd C 1027 rfl dL_law_1026 ?_
  rw [show nI i + 2 = nI (i + 2) from nI_add i 2]
  refine sj_xld C 1028 rfl dL_law_1027 hT (show i + 2 < Lx by omega) hLx ?_
  refine sj_aload_n C 1029 rfl dL_law_1028 rfl rfl ?_
  refine sj_callSW C hN 1032 rfl dL_law_1029 cw_L_149 (sq_fit4 rfl rfl (by show cl + 1 ≤ 601024; omega) (by show sl + 6 ≤ 7293034; omega)) hL rfl rfl rfl (fun v9 U hp => ?_)
  obtain ⟨rfl, hA⟩ := hp
  obtain ⟨k7, h7⟩ := h7 U hA
  refine sj_istore_5 C 1034 rfl dL_law_1032 rfl rfl ?_
  refine sj_aload_n C 1035 rfl dL_law_1034 rfl rfl ?_
  refine sj_aload_n C 1036 rfl dL_law_1035 rfl rfl ?_
  refine sj_iload C 1038 rfl dL_law_1036 rfl ?_
  refine sj_iconstv C (1) 1039 rfl dL_law_1038 rfl ?_
  refine sj_iadd C 1040 rfl dL_law_1039 ?_
  rw [show nI i + 1 = nI (i + 1) from nI_add i 1]
  refine sj_xld C 1041 rfl dL_law_1040 hT (show i + 1 < Lx by omega) hLx ?_
  refine sj_aload_n C 1042 rfl dL_law_1041 rfl rfl ?_
  refine sj_iload C 1044 rfl dL_law_1042 rfl ?_
  refine sj_iconstv C (2) 1045 rfl dL_law_1044 rfl ?_
  refine sj_iadd C 1046 rfl dL_law_1045 ?_
  rw [show nI i + 2 = nI (i + 2) from nI_add i 2]
  refine sj_xld C 1047 rfl dL_law_1046 hT (show i + 2 < Lx by omega) hLx ?_
  refine sj_callV C 1050 rfl dL_law_1047 cv_L_151 (sq_fit4 rfl rfl (by show cl + 1 + 0 ≤ 601024; omega) (by show sl + 6 + 0 ≤ 7293034; omega)) h7 rfl rfl rfl ⟨_, _, k7, rfl, rfl, by decide⟩ (fun v8 T hp => ?_)
  obtain ⟨r, rfl, e0, ela, hZZ⟩ := hp
  obtain ⟨⟨m9, hs8, ms9, p9, q9, Q9, n9, B9, hZ9⟩, ho9⟩ := id hZZ
  refine sj_istore_6 C 1052 rfl dL_law_1050 rfl rfl ?_
  refine sj_aload_n C 1053 rfl dL_law_1052 rfl rfl ?_
  refine sj_callVd C 1056 rfl dL_law_1053 cv_L_93 (sq_fit4 rfl rfl (by show cl + 1 + 0 + 0 ≤ 601024; omega) (by show sl + 6 + 0 + 0 ≤ 7293034; omega)) (ct_X7_thrown _ hZ9.2.1.1) rfl rfl rfl ⟨_, _, hZ9.2.1.1.1.1, rfl, rfl, by decide⟩ ⟨rfl, rfl⟩ ?_
  rw [e0]
  refine sj_iload C 1058 rfl dL_law_1056 rfl ?_
  refine sj_icmp_eq C 1063 1061 rfl rfl dL_law_1058 (fun _ => ?_) (fun c_1058 => absurd rfl c_1058)
  refine sj_iload C 1065 rfl dL_law_1063 rfl ?_
  refine sj_if_ne C 1080 1068 rfl rfl dL_law_1065 (fun _ => ?_) (fun c_1065 => ?_)
  · refine sj_goto C 1654 rfl dL_law_1080 ?_
    exact K T _ _ _ _ _ _ hZZ (by show cl + 1 + 0 + 0 ≤ cl + 10; omega) (by show sl + 6 + 0 + 0 ≤ sl + 200; omega)
  · refine sj_aload_n C 1069 rfl dL_law_1068 rfl rfl ?_
    refine sj_iconstv C (0) 1070 rfl dL_law_1069 rfl ?_
    refine sj_lald C 1071 rfl dL_law_1070 ho9.1 (sj_ou_in ho9) ?_
    rw [show Int32.toNatClampNeg 0 = 0 from rfl, ela c_1065]
    refine sj_iload C 1073 rfl dL_law_1071 rfl ?_
    refine sj_i2l C 1074 rfl dL_law_1073 ?_
    refine sj_lcmp C 1075 rfl dL_law_1074 ?_
    rw [sq_lcmp]
    refine sj_if_eq C 1080 1078 rfl rfl dL_law_1075 (fun _ => ?_) (fun c_1075 => absurd rfl c_1075)
    refine sj_goto C 1654 rfl dL_law_1080 ?_
    exact K T _ _ _ _ _ _ hZZ (by show cl + 1 + 0 + 0 ≤ cl + 10; omega) (by show sl + 6 + 0 + 0 ≤ sl + 200; omega)
set_option maxRecDepth 100000 in
set_option maxHeartbeats 200000 in
theorem lw_c17 {X : sj_X} {nm : String} (C : sj_C X (mL_law nm)) (hN : sj_HN X) (hl : X.2.1.stackTraces = false) {S : sj_St} {g : Nat → Nat} {m : Nat → Int32} {hs : Bool} {ms : Nat → Int32} {p q : Nat} {Q : Nat → Nat → Int32} {n : Nat} {B : Nat → Int32} {o : Nat} (hZ : sq_Z S g m hs ms p q Q n B) (ho : sj_ou S o) (hgo : ∀ i, i < 160 → g i ≠ o) {b Lx : Nat} {xs : Nat → Int32} (hT : sj_Scr X b Lx xs) {i : Nat} (hi : i + 4 ≤ Lx) (hLx : Lx < 2 ^ 31) {cl sl : Nat} (hc : cl ≤ 600000) (hs9 : sl ≤ 7290000) (K : ∀ (U : sj_St) (cl2 sl2 : Nat) (o5 o6 o7 o8 : Option Value), sq_ZZ U g o → cl2 ≤ cl + 10 → sl2 ≤ sl + 200 → sj_G X U cl2 sl2 [some (.ref b), some (.ref (g 141)), some (.ref (g 142)), some (.ref o), some (.int (nI i)), o5, o6, o7, o8] 1654 []) (o5 o6 o7 o8 : Option Value) : sj_G X S cl sl [some (.ref b), some (.ref (g 141)), some (.ref (g 142)), some (.ref o), some (.int (nI i)), o5, o6, o7, o8] 1083 [] := by
  have hJ := st_compare X.2.1 hl hZ ho hgo (xs (i + 1)) (xs (i + 2)) (xs (i + 3))
  obtain ⟨t, A, hL, h7⟩ := hJ
  refine sj_aload_n C 1084 rfl dL_law_1083 rfl rfl ?_
  refine sj_aload_n C 1085 rfl dL_law_1084 rfl rfl ?_
  refine sj_iload C 1087 rfl dL_law_1085 rfl ?_
  refine sj_iconstv C (1) 1088 rfl dL_law_1087 rfl ?_
  refine sj_iadd C 1089 rfl dL_law_1088 ?_
  rw [show nI i + 1 = nI (i + 1) from nI_add i 1]
  refine sj_xld C 1090 rfl dL_law_1089 hT (show i + 1 < Lx by omega) hLx ?_
  refine sj_aload_n C 1091 rfl dL_law_1090 rfl rfl ?_
  refine sj_iload C 1093 rfl dL_law_1091 rfl ?_
  refine sj_iconstv C (2) 1094 rfl dL_law_1093 rfl ?_
  refine sj_iadd C 1095 rfl dL_law_1094 ?_
  rw [show nI i + 2 = nI (i + 2) from nI_add i 2]
  refine sj_xld C 1096 rfl dL_law_1095 hT (show i + 2 < Lx by omega) hLx ?_
  refine sj_aload_n C 1097 rfl dL_law_1096 rfl rfl ?_
  refine sj_iload C 1099 rfl dL_law_1097 rfl ?_
  refine sj_iconstv C (3) 1100 rfl dL_law_1099 rfl ?_
  refine sj_iadd C 1101 rfl dL_law_1100 ?_
  rw [show nI i + 3 = nI (i + 3) from nI_add i 3]
  refine sj_xld C 1102 rfl dL_law_1101 hT (show i + 3 < Lx by omega) hLx ?_
  refine sj_aload_n C 1103 rfl dL_law_1102 rfl rfl ?_
  refine sj_callSW C hN 1106 rfl dL_law_1103 cw_L_152 (sq_fit4 rfl rfl (by show cl + 1 ≤ 601024; omega) (by show sl + 6 ≤ 7293034; omega)) hL rfl rfl rfl (fun v9 U hp => ?_)
  obtain ⟨rfl, hA⟩ := hp
  obtain ⟨k7, h7⟩ := h7 U hA
  refine sj_istore_5 C 1108 rfl dL_law_1106 rfl rfl ?_
  refine sj_aload_n C 1109 rfl dL_law_1108 rfl rfl ?_
  refine sj_aload_n C 1110 rfl dL_law_1109 rfl rfl ?_
  refine sj_iload C 1112 rfl dL_law_1110 rfl ?_
  refine sj_iconstv C (1) 1113 rfl dL_law_1112 rfl ?_
  refine sj_iadd C 1114 rfl dL_law_1113 ?_
  rw [show nI i + 1 = nI (i + 1) from nI_add i 1]
  refine sj_xld C 1115 rfl dL_law_1114 hT (show i + 1 < Lx by omega) hLx ?_
  refine sj_aload_n C 1116 rfl dL_law_1115 rfl rfl ?_
  refine sj_iload C 1118 rfl dL_law_1116 rfl ?_
  refine sj_iconstv C (2) 1119 rfl dL_law_1118 rfl ?_
  refine sj_iadd C 1120 rfl dL_law_1119 ?_
  rw [show nI i + 2 = nI (i + 2) from nI_add i 2]
  refine sj_xld C 1121 rfl dL_law_1120 hT (show i + 2 < Lx by omega) hLx ?_
  refine sj_aload_n C 1122 rfl dL_law_1121 rfl rfl ?_
  refine sj_iload C 1124 rfl dL_law_1122 rfl ?_
  refine sj_iconstv C (3) 1125 rfl dL_law_1124 rfl ?_
  refine sj_iadd C 1126 rfl dL_law_1125 ?_
  rw [show nI i + 3 = nI (i + 3) from nI_add i 3]
  refine sj_xld C 1127 rfl dL_law_1126 hT (show i + 3 < Lx by omega) hLx ?_
  refine sj_callV C 1130 rfl dL_law_1127 cv_L_154 (sq_fit4 rfl rfl (by show cl + 1 + 0 ≤ 601024; omega) (by show sl + 6 + 0 ≤ 7293034; omega)) h7 rfl rfl rfl ⟨_, _, k7, rfl, rfl, by decide⟩ (fun v8 T hp => ?_)
  obtain ⟨r, rfl, e0, ela, hZZ⟩ := hp
  obtain ⟨⟨m9, hs8, ms9, p9, q9, Q9, n9, B9, hZ9⟩, ho9⟩ := id hZZ
  refine sj_istore_6 C 1132 rfl dL_law_1130 rfl rfl ?_
  refine sj_aload_n C 1133 rfl dL_law_1132 rfl rfl ?_
  refine sj_callVd C 1136 rfl dL_law_1133 cv_L_93 (sq_fit4 rfl rfl (by show cl + 1 + 0 + 0 ≤ 601024; omega) (by show sl + 6 + 0 + 0 ≤ 7293034; omega)) (ct_X7_thrown _ hZ9.2.1.1) rfl rfl rfl ⟨_, _, hZ9.2.1.1.1.1, rfl, rfl, by decide⟩ ⟨rfl, rfl⟩ ?_
  rw [e0]
  refine sj_iload C 1138 rfl dL_law_1136 rfl ?_
  refine sj_icmp_eq C 1143 1141 rfl rfl dL_law_1138 (fun _ => ?_) (fun c_1138 => absurd rfl c_1138)
  refine sj_iload C 1145 rfl dL_law_1143 rfl ?_
  refine sj_if_ne C 1160 1148 rfl rfl dL_law_1145 (fun _ => ?_) (fun c_1145 => ?_)
  · refine sj_goto C 1654 rfl dL_law_1160 ?_
    exact K T _ _ _ _ _ _ hZZ (by show cl + 1 + 0 + 0 ≤ cl + 10; omega) (by show sl + 6 + 0 + 0 ≤ sl + 200; omega)
  · refine sj_aload_n C 1149 rfl dL_law_1148 rfl rfl ?_
    refine sj_iconstv C (0) 1150 rfl dL_law_1149 rfl ?_
    refine sj_lald C 1151 rfl dL_law_1150 ho9.1 (sj_ou_in ho9) ?_
    rw [show Int32.toNatClampNeg 0 = 0 from rfl, ela c_1145]
    refine sj_iload C 1153 rfl dL_law_1151 rfl ?_
    refine sj_i2l C 1154 rfl dL_law_1153 ?_
    refine sj_lcmp C 1155 rfl dL_law_1154 ?_
    rw [sq_lcmp]
    refine sj_if_eq C 1160 1158 rfl rfl dL_law_1155 (fun _ => ?_) (fun c_1155 => absurd rfl c_1155)
    refine sj_goto C 1654 rfl dL_law_1160 ?_
    exact K T _ _ _ _ _ _ hZZ (by show cl + 1 + 0 + 0 ≤ cl + 10; omega) (by show sl + 6 + 0 + 0 ≤ sl + 200; omega)
set_option maxRecDepth 100000 in
set_option maxHeartbeats 200000 in
theorem lw_c18 {X : sj_X} {nm : String} (C : sj_C X (mL_law nm)) (hN : sj_HN X) (hl : X.2.1.stackTraces = false) {S : sj_St} {g : Nat → Nat} {m : Nat → Int32} {hs : Bool} {ms : Nat → Int32} {p q : Nat} {Q : Nat → Nat → Int32} {n : Nat} {B : Nat → Int32} {o : Nat} (hZ : sq_Z S g m hs ms p q Q n B) (ho : sj_ou S o) (hgo : ∀ i, i < 160 → g i ≠ o) {b Lx : Nat} {xs : Nat → Int32} (hT : sj_Scr X b Lx xs) {i : Nat} (hi : i + 4 ≤ Lx) (hLx : Lx < 2 ^ 31) {cl sl : Nat} (hc : cl ≤ 600000) (hs9 : sl ≤ 7290000) (K : ∀ (U : sj_St) (cl2 sl2 : Nat) (o5 o6 o7 o8 : Option Value), sq_ZZ U g o → cl2 ≤ cl + 10 → sl2 ≤ sl + 200 → sj_G X U cl2 sl2 [some (.ref b), some (.ref (g 141)), some (.ref (g 142)), some (.ref o), some (.int (nI i)), o5, o6, o7, o8] 1654 []) (o5 o6 o7 o8 : Option Value) : sj_G X S cl sl [some (.ref b), some (.ref (g 141)), some (.ref (g 142)), some (.ref o), some (.int (nI i)), o5, o6, o7, o8] 1163 [] := by
  have hJ := st_oath X.2.1 hl hZ ho hgo (xs (i + 1)) (xs (i + 2))
  obtain ⟨t, A, hL, h7⟩ := hJ
  refine sj_aload_n C 1164 rfl dL_law_1163 rfl rfl ?_
  refine sj_aload_n C 1165 rfl dL_law_1164 rfl rfl ?_
  refine sj_iload C 1167 rfl dL_law_1165 rfl ?_
  refine sj_iconstv C (1) 1168 rfl dL_law_1167 rfl ?_
  refine sj_iadd C 1169 rfl dL_law_1168 ?_
  rw [show nI i + 1 = nI (i + 1) from nI_add i 1]
  refine sj_xld C 1170 rfl dL_law_1169 hT (show i + 1 < Lx by omega) hLx ?_
  refine sj_aload_n C 1171 rfl dL_law_1170 rfl rfl ?_
  refine sj_iload C 1173 rfl dL_law_1171 rfl ?_
  refine sj_iconstv C (2) 1174 rfl dL_law_1173 rfl ?_
  refine sj_iadd C 1175 rfl dL_law_1174 ?_
  rw [show nI i + 2 = nI (i + 2) from nI_add i 2]
  refine sj_xld C 1176 rfl dL_law_1175 hT (show i + 2 < Lx by omega) hLx ?_
  refine sj_aload_n C 1177 rfl dL_law_1176 rfl rfl ?_
  refine sj_callSW C hN 1180 rfl dL_law_1177 cw_L_155 (sq_fit4 rfl rfl (by show cl + 1 ≤ 601024; omega) (by show sl + 6 ≤ 7293034; omega)) hL rfl rfl rfl (fun v9 U hp => ?_)
  obtain ⟨rfl, hA⟩ := hp
  obtain ⟨k7, h7⟩ := h7 U hA
  refine sj_istore_5 C 1182 rfl dL_law_1180 rfl rfl ?_
  refine sj_aload_n C 1183 rfl dL_law_1182 rfl rfl ?_
  refine sj_aload_n C 1184 rfl dL_law_1183 rfl rfl ?_
  refine sj_iload C 1186 rfl dL_law_1184 rfl ?_
  refine sj_iconstv C (1) 1187 rfl dL_law_1186 rfl ?_
  refine sj_iadd C 1188 rfl dL_law_1187 ?_
  rw [show nI i + 1 = nI (i + 1) from nI_add i 1]
  refine sj_xld C 1189 rfl dL_law_1188 hT (show i + 1 < Lx by omega) hLx ?_
  refine sj_aload_n C 1190 rfl dL_law_1189 rfl rfl ?_
  refine sj_iload C 1192 rfl dL_law_1190 rfl ?_
  refine sj_iconstv C (2) 1193 rfl dL_law_1192 rfl ?_
  refine sj_iadd C 1194 rfl dL_law_1193 ?_
  rw [show nI i + 2 = nI (i + 2) from nI_add i 2]
  refine sj_xld C 1195 rfl dL_law_1194 hT (show i + 2 < Lx by omega) hLx ?_
  refine sj_callV C 1198 rfl dL_law_1195 cv_L_157 (sq_fit4 rfl rfl (by show cl + 1 + 0 ≤ 601024; omega) (by show sl + 6 + 0 ≤ 7293034; omega)) h7 rfl rfl rfl ⟨_, _, k7, rfl, rfl, by decide⟩ (fun v8 T hp => ?_)
  obtain ⟨r, rfl, e0, ela, hZZ⟩ := hp
  obtain ⟨⟨m9, hs8, ms9, p9, q9, Q9, n9, B9, hZ9⟩, ho9⟩ := id hZZ
  refine sj_istore_6 C 1200 rfl dL_law_1198 rfl rfl ?_
  refine sj_aload_n C 1201 rfl dL_law_1200 rfl rfl ?_
  refine sj_callVd C 1204 rfl dL_law_1201 cv_L_93 (sq_fit4 rfl rfl (by show cl + 1 + 0 + 0 ≤ 601024; omega) (by show sl + 6 + 0 + 0 ≤ 7293034; omega)) (ct_X7_thrown _ hZ9.2.1.1) rfl rfl rfl ⟨_, _, hZ9.2.1.1.1.1, rfl, rfl, by decide⟩ ⟨rfl, rfl⟩ ?_
  rw [e0]
  refine sj_iload C 1206 rfl dL_law_1204 rfl ?_
  refine sj_icmp_eq C 1211 1209 rfl rfl dL_law_1206 (fun _ => ?_) (fun c_1206 => absurd rfl c_1206)
  refine sj_iload C 1213 rfl dL_law_1211 rfl ?_
  refine sj_if_ne C 1228 1216 rfl rfl dL_law_1213 (fun _ => ?_) (fun c_1213 => ?_)
  · refine sj_goto C 1654 rfl dL_law_1228 ?_
    exact K T _ _ _ _ _ _ hZZ (by show cl + 1 + 0 + 0 ≤ cl + 10; omega) (by show sl + 6 + 0 + 0 ≤ sl + 200; omega)
  · refine sj_aload_n C 1217 rfl dL_law_1216 rfl rfl ?_
    refine sj_iconstv C (0) 1218 rfl dL_law_1217 rfl ?_
    refine sj_lald C 1219 rfl dL_law_1218 ho9.1 (sj_ou_in ho9) ?_
    rw [show Int32.toNatClampNeg 0 = 0 from rfl, ela c_1213]
    refine sj_iload C 1221 rfl dL_law_1219 rfl ?_
    refine sj_i2l C 1222 rfl dL_law_1221 ?_
    refine sj_lcmp C 1223 rfl dL_law_1222 ?_
    rw [sq_lcmp]
    refine sj_if_eq C 1228 1226 rfl rfl dL_law_1223 (fun _ => ?_) (fun c_1223 => absurd rfl c_1223)
    refine sj_goto C 1654 rfl dL_law_1228 ?_
    exact K T _ _ _ _ _ _ hZZ (by show cl + 1 + 0 + 0 ≤ cl + 10; omega) (by show sl + 6 + 0 + 0 ≤ sl + 200; omega)
set_option maxRecDepth 100000 in
set_option maxHeartbeats 200000 in
theorem lw_c19 {X : sj_X} {nm : String} (C : sj_C X (mL_law nm)) (hN : sj_HN X) (hl : X.2.1.stackTraces = false) {S : sj_St} {g : Nat → Nat} {m : Nat → Int32} {hs : Bool} {ms : Nat → Int32} {p q : Nat} {Q : Nat → Nat → Int32} {n : Nat} {B : Nat → Int32} {o : Nat} (hZ : sq_Z S g m hs ms p q Q n B) (ho : sj_ou S o) (hgo : ∀ i, i < 160 → g i ≠ o) {b Lx : Nat} {xs : Nat → Int32} (hT : sj_Scr X b Lx xs) {i : Nat} (hi : i + 4 ≤ Lx) (hLx : Lx < 2 ^ 31) {cl sl : Nat} (hc : cl ≤ 600000) (hs9 : sl ≤ 7290000) (K : ∀ (U : sj_St) (cl2 sl2 : Nat) (o5 o6 o7 o8 : Option Value), sq_ZZ U g o → cl2 ≤ cl + 10 → sl2 ≤ sl + 200 → sj_G X U cl2 sl2 [some (.ref b), some (.ref (g 141)), some (.ref (g 142)), some (.ref o), some (.int (nI i)), o5, o6, o7, o8] 1654 []) (o5 o6 o7 o8 : Option Value) : sj_G X S cl sl [some (.ref b), some (.ref (g 141)), some (.ref (g 142)), some (.ref o), some (.int (nI i)), o5, o6, o7, o8] 1231 [] := by
  have hJ := st_count X.2.1 hl hZ ho hgo (xs (i + 1))
  obtain ⟨t, A, hL, h7⟩ := hJ
  refine sj_aload_n C 1232 rfl dL_law_1231 rfl rfl ?_
  refine sj_aload_n C 1233 rfl dL_law_1232 rfl rfl ?_
  refine sj_iload C 1235 rfl dL_law_1233 rfl ?_
  refine sj_iconstv C (1) 1236 rfl dL_law_1235 rfl ?_
  refine sj_iadd C 1237 rfl dL_law_1236 ?_
  rw [show nI i + 1 = nI (i + 1) from nI_add i 1]
  refine sj_xld C 1238 rfl dL_law_1237 hT (show i + 1 < Lx by omega) hLx ?_
  refine sj_aload_n C 1239 rfl dL_law_1238 rfl rfl ?_
  refine sj_callSW C hN 1242 rfl dL_law_1239 cw_L_158 (sq_fit4 rfl rfl (by show cl + 1 ≤ 601024; omega) (by show sl + 6 ≤ 7293034; omega)) hL rfl rfl rfl (fun v9 U hp => ?_)
  obtain ⟨rfl, hA⟩ := hp
  obtain ⟨k7, h7⟩ := h7 U hA
  refine sj_istore_5 C 1244 rfl dL_law_1242 rfl rfl ?_
  refine sj_aload_n C 1245 rfl dL_law_1244 rfl rfl ?_
  refine sj_aload_n C 1246 rfl dL_law_1245 rfl rfl ?_
  refine sj_iload C 1248 rfl dL_law_1246 rfl ?_
  refine sj_iconstv C (1) 1249 rfl dL_law_1248 rfl ?_
  refine sj_iadd C 1250 rfl dL_law_1249 ?_
  rw [show nI i + 1 = nI (i + 1) from nI_add i 1]
  refine sj_xld C 1251 rfl dL_law_1250 hT (show i + 1 < Lx by omega) hLx ?_
  refine sj_callV C 1254 rfl dL_law_1251 cv_L_160 (sq_fit4 rfl rfl (by show cl + 1 + 0 ≤ 601024; omega) (by show sl + 6 + 0 ≤ 7293034; omega)) h7 rfl rfl rfl ⟨_, _, k7, rfl, rfl, by decide⟩ (fun v8 T hp => ?_)
  obtain ⟨r, rfl, e0, ela, hZZ⟩ := hp
  obtain ⟨⟨m9, hs8, ms9, p9, q9, Q9, n9, B9, hZ9⟩, ho9⟩ := id hZZ
  refine sj_istore_6 C 1256 rfl dL_law_1254 rfl rfl ?_
  refine sj_aload_n C 1257 rfl dL_law_1256 rfl rfl ?_
  refine sj_callVd C 1260 rfl dL_law_1257 cv_L_93 (sq_fit4 rfl rfl (by show cl + 1 + 0 + 0 ≤ 601024; omega) (by show sl + 6 + 0 + 0 ≤ 7293034; omega)) (ct_X7_thrown _ hZ9.2.1.1) rfl rfl rfl ⟨_, _, hZ9.2.1.1.1.1, rfl, rfl, by decide⟩ ⟨rfl, rfl⟩ ?_
  rw [e0]
  refine sj_iload C 1262 rfl dL_law_1260 rfl ?_
  refine sj_icmp_eq C 1267 1265 rfl rfl dL_law_1262 (fun _ => ?_) (fun c_1262 => absurd rfl c_1262)
  refine sj_iload C 1269 rfl dL_law_1267 rfl ?_
  refine sj_if_ne C 1284 1272 rfl rfl dL_law_1269 (fun _ => ?_) (fun c_1269 => ?_)
  · refine sj_goto C 1654 rfl dL_law_1284 ?_
    exact K T _ _ _ _ _ _ hZZ (by show cl + 1 + 0 + 0 ≤ cl + 10; omega) (by show sl + 6 + 0 + 0 ≤ sl + 200; omega)
  · refine sj_aload_n C 1273 rfl dL_law_1272 rfl rfl ?_
    refine sj_iconstv C (0) 1274 rfl dL_law_1273 rfl ?_
    refine sj_lald C 1275 rfl dL_law_1274 ho9.1 (sj_ou_in ho9) ?_
    rw [show Int32.toNatClampNeg 0 = 0 from rfl, ela c_1269]
    refine sj_iload C 1277 rfl dL_law_1275 rfl ?_
    refine sj_i2l C 1278 rfl dL_law_1277 ?_
    refine sj_lcmp C 1279 rfl dL_law_1278 ?_
    rw [sq_lcmp]
    refine sj_if_eq C 1284 1282 rfl rfl dL_law_1279 (fun _ => ?_) (fun c_1279 => absurd rfl c_1279)
    refine sj_goto C 1654 rfl dL_law_1284 ?_
    exact K T _ _ _ _ _ _ hZZ (by show cl + 1 + 0 + 0 ≤ cl + 10; omega) (by show sl + 6 + 0 + 0 ≤ sl + 200; omega)
set_option maxRecDepth 100000 in
set_option maxHeartbeats 200000 in
theorem lw_c20 {X : sj_X} {nm : String} (C : sj_C X (mL_law nm)) (hN : sj_HN X) (hl : X.2.1.stackTraces = false) {S : sj_St} {g : Nat → Nat} {m : Nat → Int32} {hs : Bool} {ms : Nat → Int32} {p q : Nat} {Q : Nat → Nat → Int32} {n : Nat} {B : Nat → Int32} {o : Nat} (hZ : sq_Z S g m hs ms p q Q n B) (ho : sj_ou S o) (hgo : ∀ i, i < 160 → g i ≠ o) {b Lx : Nat} {xs : Nat → Int32} (hT : sj_Scr X b Lx xs) {i : Nat} (hi : i + 4 ≤ Lx) (hLx : Lx < 2 ^ 31) {cl sl : Nat} (hc : cl ≤ 600000) (hs9 : sl ≤ 7290000) (K : ∀ (U : sj_St) (cl2 sl2 : Nat) (o5 o6 o7 o8 : Option Value), sq_ZZ U g o → cl2 ≤ cl + 10 → sl2 ≤ sl + 200 → sj_G X U cl2 sl2 [some (.ref b), some (.ref (g 141)), some (.ref (g 142)), some (.ref o), some (.int (nI i)), o5, o6, o7, o8] 1654 []) (o5 o6 o7 o8 : Option Value) : sj_G X S cl sl [some (.ref b), some (.ref (g 141)), some (.ref (g 142)), some (.ref o), some (.int (nI i)), o5, o6, o7, o8] 1287 [] := by
  have hJ := st_whyNot X.2.1 hl hZ ho hgo (xs (i + 1)) (xs (i + 2)) (decide (¬ xs (i + 3) = 0))
  refine sj_aload_n C 1288 rfl dL_law_1287 rfl rfl ?_
  refine sj_aload_n C 1289 rfl dL_law_1288 rfl rfl ?_
  refine sj_iload C 1291 rfl dL_law_1289 rfl ?_
  refine sj_iconstv C (1) 1292 rfl dL_law_1291 rfl ?_
  refine sj_iadd C 1293 rfl dL_law_1292 ?_
  rw [show nI i + 1 = nI (i + 1) from nI_add i 1]
  refine sj_xld C 1294 rfl dL_law_1293 hT (show i + 1 < Lx by omega) hLx ?_
  refine sj_aload_n C 1295 rfl dL_law_1294 rfl rfl ?_
  refine sj_iload C 1297 rfl dL_law_1295 rfl ?_
  refine sj_iconstv C (2) 1298 rfl dL_law_1297 rfl ?_
  refine sj_iadd C 1299 rfl dL_law_1298 ?_
  rw [show nI i + 2 = nI (i + 2) from nI_add i 2]
  refine sj_xld C 1300 rfl dL_law_1299 hT (show i + 2 < Lx by omega) hLx ?_
  refine sj_aload_n C 1301 rfl dL_law_1300 rfl rfl ?_
  refine sj_iload C 1303 rfl dL_law_1301 rfl ?_
  refine sj_iconstv C (3) 1304 rfl dL_law_1303 rfl ?_
  refine sj_iadd C 1305 rfl dL_law_1304 ?_
  rw [show nI i + 3 = nI (i + 3) from nI_add i 3]
  refine sj_xld C 1306 rfl dL_law_1305 hT (show i + 3 < Lx by omega) hLx ?_
  rcases Classical.em (xs (i + 3) = 0) with hz | hz
  · have hb9 : sj_bi (decide (¬ xs (i + 3) = 0)) = 0 := by rw [decide_eq_false (fun h => h hz)]; rfl
    rw [hb9] at hJ
    obtain ⟨t, A, hL, h7⟩ := hJ
    refine sj_if_eq C 1313 1309 rfl rfl dL_law_1306 (fun _ => ?_) (fun h => absurd hz h)
    refine sj_iconstv C (0) 1314 rfl dL_law_1313 rfl ?_
    refine sj_aload_n C 1315 rfl dL_law_1314 rfl rfl ?_
    refine sj_callSW C hN 1318 rfl dL_law_1315 cw_L_161 (sq_fit4 rfl rfl (by show cl + 1 ≤ 601024; omega) (by show sl + 6 ≤ 7293034; omega)) hL rfl rfl rfl (fun v9 U hp => ?_)
    obtain ⟨rfl, hA⟩ := hp
    obtain ⟨k7, h7⟩ := h7 U hA
    refine sj_istore_5 C 1320 rfl dL_law_1318 rfl rfl ?_
    refine sj_aload_n C 1321 rfl dL_law_1320 rfl rfl ?_
    refine sj_aload_n C 1322 rfl dL_law_1321 rfl rfl ?_
    refine sj_iload C 1324 rfl dL_law_1322 rfl ?_
    refine sj_iconstv C (1) 1325 rfl dL_law_1324 rfl ?_
    refine sj_iadd C 1326 rfl dL_law_1325 ?_
    rw [show nI i + 1 = nI (i + 1) from nI_add i 1]
    refine sj_xld C 1327 rfl dL_law_1326 hT (show i + 1 < Lx by omega) hLx ?_
    refine sj_aload_n C 1328 rfl dL_law_1327 rfl rfl ?_
    refine sj_iload C 1330 rfl dL_law_1328 rfl ?_
    refine sj_iconstv C (2) 1331 rfl dL_law_1330 rfl ?_
    refine sj_iadd C 1332 rfl dL_law_1331 ?_
    rw [show nI i + 2 = nI (i + 2) from nI_add i 2]
    refine sj_xld C 1333 rfl dL_law_1332 hT (show i + 2 < Lx by omega) hLx ?_
    refine sj_aload_n C 1334 rfl dL_law_1333 rfl rfl ?_
    refine sj_iload C 1336 rfl dL_law_1334 rfl ?_
    refine sj_iconstv C (3) 1337 rfl dL_law_1336 rfl ?_
    refine sj_iadd C 1338 rfl dL_law_1337 ?_
    rw [show nI i + 3 = nI (i + 3) from nI_add i 3]
    refine sj_xld C 1339 rfl dL_law_1338 hT (show i + 3 < Lx by omega) hLx ?_
    refine sj_if_eq C 1346 1342 rfl rfl dL_law_1339 (fun _ => ?_) (fun h => absurd hz h)
    refine sj_iconstv C (0) 1347 rfl dL_law_1346 rfl ?_
    refine sj_callV C 1350 rfl dL_law_1347 cv_L_163 (sq_fit4 rfl rfl (by show cl + 1 + 0 ≤ 601024; omega) (by show sl + 6 + 0 ≤ 7293034; omega)) h7 rfl rfl rfl ⟨_, _, k7, rfl, rfl, by decide⟩ (fun v8 T hp => ?_)
    obtain ⟨r, rfl, e0, ela, hZZ⟩ := hp
    obtain ⟨⟨m9, hs8, ms9, p9, q9, Q9, n9, B9, hZ9⟩, ho9⟩ := id hZZ
    refine sj_istore_6 C 1352 rfl dL_law_1350 rfl rfl ?_
    refine sj_aload_n C 1353 rfl dL_law_1352 rfl rfl ?_
    refine sj_callVd C 1356 rfl dL_law_1353 cv_L_93 (sq_fit4 rfl rfl (by show cl + 1 + 0 + 0 ≤ 601024; omega) (by show sl + 6 + 0 + 0 ≤ 7293034; omega)) (ct_X7_thrown _ hZ9.2.1.1) rfl rfl rfl ⟨_, _, hZ9.2.1.1.1.1, rfl, rfl, by decide⟩ ⟨rfl, rfl⟩ ?_
    rw [e0]
    refine sj_iload C 1358 rfl dL_law_1356 rfl ?_
    refine sj_icmp_eq C 1363 1361 rfl rfl dL_law_1358 (fun _ => ?_) (fun c_1358 => absurd rfl c_1358)
    refine sj_iload C 1365 rfl dL_law_1363 rfl ?_
    refine sj_if_ne C 1380 1368 rfl rfl dL_law_1365 (fun _ => ?_) (fun c_1365 => ?_)
    · refine sj_goto C 1654 rfl dL_law_1380 ?_
      exact K T _ _ _ _ _ _ hZZ (by show cl + 1 + 0 + 0 ≤ cl + 10; omega) (by show sl + 6 + 0 + 0 ≤ sl + 200; omega)
    · refine sj_aload_n C 1369 rfl dL_law_1368 rfl rfl ?_
      refine sj_iconstv C (0) 1370 rfl dL_law_1369 rfl ?_
      refine sj_lald C 1371 rfl dL_law_1370 ho9.1 (sj_ou_in ho9) ?_
      rw [show Int32.toNatClampNeg 0 = 0 from rfl, ela c_1365]
      refine sj_iload C 1373 rfl dL_law_1371 rfl ?_
      refine sj_i2l C 1374 rfl dL_law_1373 ?_
      refine sj_lcmp C 1375 rfl dL_law_1374 ?_
      rw [sq_lcmp]
      refine sj_if_eq C 1380 1378 rfl rfl dL_law_1375 (fun _ => ?_) (fun c_1375 => absurd rfl c_1375)
      refine sj_goto C 1654 rfl dL_law_1380 ?_
      exact K T _ _ _ _ _ _ hZZ (by show cl + 1 + 0 + 0 ≤ cl + 10; omega) (by show sl + 6 + 0 + 0 ≤ sl + 200; omega)
  · have hb9 : sj_bi (decide (¬ xs (i + 3) = 0)) = 1 := by rw [decide_eq_true hz]; rfl
    rw [hb9] at hJ
    obtain ⟨t, A, hL, h7⟩ := hJ
    refine sj_if_eq C 1313 1309 rfl rfl dL_law_1306 (fun h => absurd h hz) (fun _ => ?_)
    refine sj_iconstv C (1) 1310 rfl dL_law_1309 rfl ?_
    refine sj_goto C 1314 rfl dL_law_1310 ?_
    refine sj_aload_n C 1315 rfl dL_law_1314 rfl rfl ?_
    refine sj_callSW C hN 1318 rfl dL_law_1315 cw_L_161 (sq_fit4 rfl rfl (by show cl + 1 ≤ 601024; omega) (by show sl + 6 ≤ 7293034; omega)) hL rfl rfl rfl (fun v9 U hp => ?_)
    obtain ⟨rfl, hA⟩ := hp
    obtain ⟨k7, h7⟩ := h7 U hA
    refine sj_istore_5 C 1320 rfl dL_law_1318 rfl rfl ?_
    refine sj_aload_n C 1321 rfl dL_law_1320 rfl rfl ?_
    refine sj_aload_n C 1322 rfl dL_law_1321 rfl rfl ?_
    refine sj_iload C 1324 rfl dL_law_1322 rfl ?_
    refine sj_iconstv C (1) 1325 rfl dL_law_1324 rfl ?_
    refine sj_iadd C 1326 rfl dL_law_1325 ?_
    rw [show nI i + 1 = nI (i + 1) from nI_add i 1]
    refine sj_xld C 1327 rfl dL_law_1326 hT (show i + 1 < Lx by omega) hLx ?_
    refine sj_aload_n C 1328 rfl dL_law_1327 rfl rfl ?_
    refine sj_iload C 1330 rfl dL_law_1328 rfl ?_
    refine sj_iconstv C (2) 1331 rfl dL_law_1330 rfl ?_
    refine sj_iadd C 1332 rfl dL_law_1331 ?_
    rw [show nI i + 2 = nI (i + 2) from nI_add i 2]
    refine sj_xld C 1333 rfl dL_law_1332 hT (show i + 2 < Lx by omega) hLx ?_
    refine sj_aload_n C 1334 rfl dL_law_1333 rfl rfl ?_
    refine sj_iload C 1336 rfl dL_law_1334 rfl ?_
    refine sj_iconstv C (3) 1337 rfl dL_law_1336 rfl ?_
    refine sj_iadd C 1338 rfl dL_law_1337 ?_
    rw [show nI i + 3 = nI (i + 3) from nI_add i 3]
    refine sj_xld C 1339 rfl dL_law_1338 hT (show i + 3 < Lx by omega) hLx ?_
    refine sj_if_eq C 1346 1342 rfl rfl dL_law_1339 (fun h => absurd h hz) (fun _ => ?_)
    refine sj_iconstv C (1) 1343 rfl dL_law_1342 rfl ?_
    refine sj_goto C 1347 rfl dL_law_1343 ?_
    refine sj_callV C 1350 rfl dL_law_1347 cv_L_163 (sq_fit4 rfl rfl (by show cl + 1 + 0 ≤ 601024; omega) (by show sl + 6 + 0 ≤ 7293034; omega)) h7 rfl rfl rfl ⟨_, _, k7, rfl, rfl, by decide⟩ (fun v8 T hp => ?_)
    obtain ⟨r, rfl, e0, ela, hZZ⟩ := hp
    obtain ⟨⟨m9, hs8, ms9, p9, q9, Q9, n9, B9, hZ9⟩, ho9⟩ := id hZZ
    refine sj_istore_6 C 1352 rfl dL_law_1350 rfl rfl ?_
    refine sj_aload_n C 1353 rfl dL_law_1352 rfl rfl ?_
    refine sj_callVd C 1356 rfl dL_law_1353 cv_L_93 (sq_fit4 rfl rfl (by show cl + 1 + 0 + 0 ≤ 601024; omega) (by show sl + 6 + 0 + 0 ≤ 7293034; omega)) (ct_X7_thrown _ hZ9.2.1.1) rfl rfl rfl ⟨_, _, hZ9.2.1.1.1.1, rfl, rfl, by decide⟩ ⟨rfl, rfl⟩ ?_
    rw [e0]
    refine sj_iload C 1358 rfl dL_law_1356 rfl ?_
    refine sj_icmp_eq C 1363 1361 rfl rfl dL_law_1358 (fun _ => ?_) (fun c_1358 => absurd rfl c_1358)
    refine sj_iload C 1365 rfl dL_law_1363 rfl ?_
    refine sj_if_ne C 1380 1368 rfl rfl dL_law_1365 (fun _ => ?_) (fun c_1365 => ?_)
    · refine sj_goto C 1654 rfl dL_law_1380 ?_
      exact K T _ _ _ _ _ _ hZZ (by show cl + 1 + 0 + 0 ≤ cl + 10; omega) (by show sl + 6 + 0 + 0 ≤ sl + 200; omega)
    · refine sj_aload_n C 1369 rfl dL_law_1368 rfl rfl ?_
      refine sj_iconstv C (0) 1370 rfl dL_law_1369 rfl ?_
      refine sj_lald C 1371 rfl dL_law_1370 ho9.1 (sj_ou_in ho9) ?_
      rw [show Int32.toNatClampNeg 0 = 0 from rfl, ela c_1365]
      refine sj_iload C 1373 rfl dL_law_1371 rfl ?_
      refine sj_i2l C 1374 rfl dL_law_1373 ?_
      refine sj_lcmp C 1375 rfl dL_law_1374 ?_
      rw [sq_lcmp]
      refine sj_if_eq C 1380 1378 rfl rfl dL_law_1375 (fun _ => ?_) (fun c_1375 => absurd rfl c_1375)
      refine sj_goto C 1654 rfl dL_law_1380 ?_
      exact K T _ _ _ _ _ _ hZZ (by show cl + 1 + 0 + 0 ≤ cl + 10; omega) (by show sl + 6 + 0 + 0 ≤ sl + 200; omega)
set_option maxRecDepth 100000 in
set_option maxHeartbeats 200000 in
theorem lw_c21 {X : sj_X} {nm : String} (C : sj_C X (mL_law nm)) (hN : sj_HN X) (hl : X.2.1.stackTraces = false) {S : sj_St} {g : Nat → Nat} {m : Nat → Int32} {hs : Bool} {ms : Nat → Int32} {p q : Nat} {Q : Nat → Nat → Int32} {n : Nat} {B : Nat → Int32} {o : Nat} (hZ : sq_Z S g m hs ms p q Q n B) (ho : sj_ou S o) (hgo : ∀ i, i < 160 → g i ≠ o) {b Lx : Nat} {xs : Nat → Int32} (hT : sj_Scr X b Lx xs) {i : Nat} (hi : i + 4 ≤ Lx) (hLx : Lx < 2 ^ 31) {cl sl : Nat} (hc : cl ≤ 600000) (hs9 : sl ≤ 7290000) (K : ∀ (U : sj_St) (cl2 sl2 : Nat) (o5 o6 o7 o8 : Option Value), sq_ZZ U g o → cl2 ≤ cl + 10 → sl2 ≤ sl + 200 → sj_G X U cl2 sl2 [some (.ref b), some (.ref (g 141)), some (.ref (g 142)), some (.ref o), some (.int (nI i)), o5, o6, o7, o8] 1654 []) (o5 o6 o7 o8 : Option Value) : sj_G X S cl sl [some (.ref b), some (.ref (g 141)), some (.ref (g 142)), some (.ref o), some (.int (nI i)), o5, o6, o7, o8] 1383 [] := by
  have hJ := st_nearest X.2.1 hl hZ ho hgo (xs (i + 1))
  obtain ⟨t, A, hL, h7⟩ := hJ
  refine sj_aload_n C 1384 rfl dL_law_1383 rfl rfl ?_
  refine sj_aload_n C 1385 rfl dL_law_1384 rfl rfl ?_
  refine sj_iload C 1387 rfl dL_law_1385 rfl ?_
  refine sj_iconstv C (1) 1388 rfl dL_law_1387 rfl ?_
  refine sj_iadd C 1389 rfl dL_law_1388 ?_
  rw [show nI i + 1 = nI (i + 1) from nI_add i 1]
  refine sj_xld C 1390 rfl dL_law_1389 hT (show i + 1 < Lx by omega) hLx ?_
  refine sj_aload_n C 1391 rfl dL_law_1390 rfl rfl ?_
  refine sj_callSW C hN 1394 rfl dL_law_1391 cw_L_164 (sq_fit4 rfl rfl (by show cl + 1 ≤ 601024; omega) (by show sl + 6 ≤ 7293034; omega)) hL rfl rfl rfl (fun v9 U hp => ?_)
  obtain ⟨rfl, hA⟩ := hp
  obtain ⟨k7, h7⟩ := h7 U hA
  refine sj_istore_5 C 1396 rfl dL_law_1394 rfl rfl ?_
  refine sj_aload_n C 1397 rfl dL_law_1396 rfl rfl ?_
  refine sj_aload_n C 1398 rfl dL_law_1397 rfl rfl ?_
  refine sj_iload C 1400 rfl dL_law_1398 rfl ?_
  refine sj_iconstv C (1) 1401 rfl dL_law_1400 rfl ?_
  refine sj_iadd C 1402 rfl dL_law_1401 ?_
  rw [show nI i + 1 = nI (i + 1) from nI_add i 1]
  refine sj_xld C 1403 rfl dL_law_1402 hT (show i + 1 < Lx by omega) hLx ?_
  refine sj_callV C 1406 rfl dL_law_1403 cv_L_166 (sq_fit4 rfl rfl (by show cl + 1 + 0 ≤ 601024; omega) (by show sl + 6 + 0 ≤ 7293034; omega)) h7 rfl rfl rfl ⟨_, _, k7, rfl, rfl, by decide⟩ (fun v8 T hp => ?_)
  obtain ⟨r, rfl, e0, ela, hZZ⟩ := hp
  obtain ⟨⟨m9, hs8, ms9, p9, q9, Q9, n9, B9, hZ9⟩, ho9⟩ := id hZZ
  refine sj_istore_6 C 1408 rfl dL_law_1406 rfl rfl ?_
  refine sj_aload_n C 1409 rfl dL_law_1408 rfl rfl ?_
  refine sj_callVd C 1412 rfl dL_law_1409 cv_L_93 (sq_fit4 rfl rfl (by show cl + 1 + 0 + 0 ≤ 601024; omega) (by show sl + 6 + 0 + 0 ≤ 7293034; omega)) (ct_X7_thrown _ hZ9.2.1.1) rfl rfl rfl ⟨_, _, hZ9.2.1.1.1.1, rfl, rfl, by decide⟩ ⟨rfl, rfl⟩ ?_
  rw [e0]
  refine sj_iload C 1414 rfl dL_law_1412 rfl ?_
  refine sj_icmp_eq C 1419 1417 rfl rfl dL_law_1414 (fun _ => ?_) (fun c_1414 => absurd rfl c_1414)
  refine sj_iload C 1421 rfl dL_law_1419 rfl ?_
  refine sj_if_ne C 1436 1424 rfl rfl dL_law_1421 (fun _ => ?_) (fun c_1421 => ?_)
  · refine sj_goto C 1654 rfl dL_law_1436 ?_
    exact K T _ _ _ _ _ _ hZZ (by show cl + 1 + 0 + 0 ≤ cl + 10; omega) (by show sl + 6 + 0 + 0 ≤ sl + 200; omega)
  · refine sj_aload_n C 1425 rfl dL_law_1424 rfl rfl ?_
    refine sj_iconstv C (0) 1426 rfl dL_law_1425 rfl ?_
    refine sj_lald C 1427 rfl dL_law_1426 ho9.1 (sj_ou_in ho9) ?_
    rw [show Int32.toNatClampNeg 0 = 0 from rfl, ela c_1421]
    refine sj_iload C 1429 rfl dL_law_1427 rfl ?_
    refine sj_i2l C 1430 rfl dL_law_1429 ?_
    refine sj_lcmp C 1431 rfl dL_law_1430 ?_
    rw [sq_lcmp]
    refine sj_if_eq C 1436 1434 rfl rfl dL_law_1431 (fun _ => ?_) (fun c_1431 => absurd rfl c_1431)
    refine sj_goto C 1654 rfl dL_law_1436 ?_
    exact K T _ _ _ _ _ _ hZZ (by show cl + 1 + 0 + 0 ≤ cl + 10; omega) (by show sl + 6 + 0 + 0 ≤ sl + 200; omega)
set_option maxRecDepth 100000 in
set_option maxHeartbeats 200000 in
theorem lw_c22 {X : sj_X} {nm : String} (C : sj_C X (mL_law nm)) (hN : sj_HN X) (hl : X.2.1.stackTraces = false) {S : sj_St} {g : Nat → Nat} {m : Nat → Int32} {hs : Bool} {ms : Nat → Int32} {p q : Nat} {Q : Nat → Nat → Int32} {n : Nat} {B : Nat → Int32} {o : Nat} (hZ : sq_Z S g m hs ms p q Q n B) (ho : sj_ou S o) (hgo : ∀ i, i < 160 → g i ≠ o) {b Lx : Nat} {xs : Nat → Int32} (hT : sj_Scr X b Lx xs) {i : Nat} (hi : i + 4 ≤ Lx) (hLx : Lx < 2 ^ 31) {cl sl : Nat} (hc : cl ≤ 600000) (hs9 : sl ≤ 7290000) (K : ∀ (U : sj_St) (cl2 sl2 : Nat) (o5 o6 o7 o8 : Option Value), sq_ZZ U g o → cl2 ≤ cl + 10 → sl2 ≤ sl + 200 → sj_G X U cl2 sl2 [some (.ref b), some (.ref (g 141)), some (.ref (g 142)), some (.ref o), some (.int (nI i)), o5, o6, o7, o8] 1654 []) (o5 o6 o7 o8 : Option Value) : sj_G X S cl sl [some (.ref b), some (.ref (g 141)), some (.ref (g 142)), some (.ref o), some (.int (nI i)), o5, o6, o7, o8] 1439 [] := by
  have hJ := st_toleranceFor X.2.1 hl hZ ho hgo (xs (i + 1)) (xs (i + 2)) (xs (i + 3))
  obtain ⟨t, A, hL, h7⟩ := hJ
  refine sj_aload_n C 1440 rfl dL_law_1439 rfl rfl ?_
  refine sj_aload_n C 1441 rfl dL_law_1440 rfl rfl ?_
  refine sj_iload C 1443 rfl dL_law_1441 rfl ?_
  refine sj_iconstv C (1) 1444 rfl dL_law_1443 rfl ?_
  refine sj_iadd C 1445 rfl dL_law_1444 ?_
  rw [show nI i + 1 = nI (i + 1) from nI_add i 1]
  refine sj_xld C 1446 rfl dL_law_1445 hT (show i + 1 < Lx by omega) hLx ?_
  refine sj_aload_n C 1447 rfl dL_law_1446 rfl rfl ?_
  refine sj_iload C 1449 rfl dL_law_1447 rfl ?_
  refine sj_iconstv C (2) 1450 rfl dL_law_1449 rfl ?_
  refine sj_iadd C 1451 rfl dL_law_1450 ?_
  rw [show nI i + 2 = nI (i + 2) from nI_add i 2]
  refine sj_xld C 1452 rfl dL_law_1451 hT (show i + 2 < Lx by omega) hLx ?_
  refine sj_aload_n C 1453 rfl dL_law_1452 rfl rfl ?_
  refine sj_iload C 1455 rfl dL_law_1453 rfl ?_
  refine sj_iconstv C (3) 1456 rfl dL_law_1455 rfl ?_
  refine sj_iadd C 1457 rfl dL_law_1456 ?_
  rw [show nI i + 3 = nI (i + 3) from nI_add i 3]
  refine sj_xld C 1458 rfl dL_law_1457 hT (show i + 3 < Lx by omega) hLx ?_
  refine sj_aload_n C 1459 rfl dL_law_1458 rfl rfl ?_
  refine sj_callSW C hN 1462 rfl dL_law_1459 cw_L_167 (sq_fit4 rfl rfl (by show cl + 1 ≤ 601024; omega) (by show sl + 6 ≤ 7293034; omega)) hL rfl rfl rfl (fun v9 U hp => ?_)
  obtain ⟨rfl, hA⟩ := hp
  obtain ⟨k7, h7⟩ := h7 U hA
  refine sj_istore_5 C 1464 rfl dL_law_1462 rfl rfl ?_
  refine sj_aload_n C 1465 rfl dL_law_1464 rfl rfl ?_
  refine sj_aload_n C 1466 rfl dL_law_1465 rfl rfl ?_
  refine sj_iload C 1468 rfl dL_law_1466 rfl ?_
  refine sj_iconstv C (1) 1469 rfl dL_law_1468 rfl ?_
  refine sj_iadd C 1470 rfl dL_law_1469 ?_
  rw [show nI i + 1 = nI (i + 1) from nI_add i 1]
  refine sj_xld C 1471 rfl dL_law_1470 hT (show i + 1 < Lx by omega) hLx ?_
  refine sj_aload_n C 1472 rfl dL_law_1471 rfl rfl ?_
  refine sj_iload C 1474 rfl dL_law_1472 rfl ?_
  refine sj_iconstv C (2) 1475 rfl dL_law_1474 rfl ?_
  refine sj_iadd C 1476 rfl dL_law_1475 ?_
  rw [show nI i + 2 = nI (i + 2) from nI_add i 2]
  refine sj_xld C 1477 rfl dL_law_1476 hT (show i + 2 < Lx by omega) hLx ?_
  refine sj_aload_n C 1478 rfl dL_law_1477 rfl rfl ?_
  refine sj_iload C 1480 rfl dL_law_1478 rfl ?_
  refine sj_iconstv C (3) 1481 rfl dL_law_1480 rfl ?_
  refine sj_iadd C 1482 rfl dL_law_1481 ?_
  rw [show nI i + 3 = nI (i + 3) from nI_add i 3]
  refine sj_xld C 1483 rfl dL_law_1482 hT (show i + 3 < Lx by omega) hLx ?_
  refine sj_callV C 1486 rfl dL_law_1483 cv_L_169 (sq_fit4 rfl rfl (by show cl + 1 + 0 ≤ 601024; omega) (by show sl + 6 + 0 ≤ 7293034; omega)) h7 rfl rfl rfl ⟨_, _, k7, rfl, rfl, by decide⟩ (fun v8 T hp => ?_)
  obtain ⟨r, rfl, e0, ela, hZZ⟩ := hp
  obtain ⟨⟨m9, hs8, ms9, p9, q9, Q9, n9, B9, hZ9⟩, ho9⟩ := id hZZ
  refine sj_istore_6 C 1488 rfl dL_law_1486 rfl rfl ?_
  refine sj_aload_n C 1489 rfl dL_law_1488 rfl rfl ?_
  refine sj_callVd C 1492 rfl dL_law_1489 cv_L_93 (sq_fit4 rfl rfl (by show cl + 1 + 0 + 0 ≤ 601024; omega) (by show sl + 6 + 0 + 0 ≤ 7293034; omega)) (ct_X7_thrown _ hZ9.2.1.1) rfl rfl rfl ⟨_, _, hZ9.2.1.1.1.1, rfl, rfl, by decide⟩ ⟨rfl, rfl⟩ ?_
  rw [e0]
  refine sj_iload C 1494 rfl dL_law_1492 rfl ?_
  refine sj_icmp_eq C 1499 1497 rfl rfl dL_law_1494 (fun _ => ?_) (fun c_1494 => absurd rfl c_1494)
  refine sj_iload C 1501 rfl dL_law_1499 rfl ?_
  refine sj_if_ne C 1516 1504 rfl rfl dL_law_1501 (fun _ => ?_) (fun c_1501 => ?_)
  · refine sj_goto C 1654 rfl dL_law_1516 ?_
    exact K T _ _ _ _ _ _ hZZ (by show cl + 1 + 0 + 0 ≤ cl + 10; omega) (by show sl + 6 + 0 + 0 ≤ sl + 200; omega)
  · refine sj_aload_n C 1505 rfl dL_law_1504 rfl rfl ?_
    refine sj_iconstv C (0) 1506 rfl dL_law_1505 rfl ?_
    refine sj_lald C 1507 rfl dL_law_1506 ho9.1 (sj_ou_in ho9) ?_
    rw [show Int32.toNatClampNeg 0 = 0 from rfl, ela c_1501]
    refine sj_iload C 1509 rfl dL_law_1507 rfl ?_
    refine sj_i2l C 1510 rfl dL_law_1509 ?_
    refine sj_lcmp C 1511 rfl dL_law_1510 ?_
    rw [sq_lcmp]
    refine sj_if_eq C 1516 1514 rfl rfl dL_law_1511 (fun _ => ?_) (fun c_1511 => absurd rfl c_1511)
    refine sj_goto C 1654 rfl dL_law_1516 ?_
    exact K T _ _ _ _ _ _ hZZ (by show cl + 1 + 0 + 0 ≤ cl + 10; omega) (by show sl + 6 + 0 + 0 ≤ sl + 200; omega)
set_option maxRecDepth 100000 in
set_option maxHeartbeats 200000 in
theorem lw_c23 {X : sj_X} {nm : String} (C : sj_C X (mL_law nm)) (hN : sj_HN X) (hl : X.2.1.stackTraces = false) {S : sj_St} {g : Nat → Nat} {m : Nat → Int32} {hs : Bool} {ms : Nat → Int32} {p q : Nat} {Q : Nat → Nat → Int32} {n : Nat} {B : Nat → Int32} {o : Nat} (hZ : sq_Z S g m hs ms p q Q n B) (ho : sj_ou S o) (hgo : ∀ i, i < 160 → g i ≠ o) {b Lx : Nat} {xs : Nat → Int32} (hT : sj_Scr X b Lx xs) {i : Nat} (hi : i + 4 ≤ Lx) (hLx : Lx < 2 ^ 31) {cl sl : Nat} (hc : cl ≤ 600000) (hs9 : sl ≤ 7290000) (K : ∀ (U : sj_St) (cl2 sl2 : Nat) (o5 o6 o7 o8 : Option Value), sq_ZZ U g o → cl2 ≤ cl + 10 → sl2 ≤ sl + 200 → sj_G X U cl2 sl2 [some (.ref b), some (.ref (g 141)), some (.ref (g 142)), some (.ref o), some (.int (nI i)), o5, o6, o7, o8] 1654 []) (o5 o6 o7 o8 : Option Value) : sj_G X S cl sl [some (.ref b), some (.ref (g 141)), some (.ref (g 142)), some (.ref o), some (.int (nI i)), o5, o6, o7, o8] 1519 [] := by
  have hJ := st_ifPassed X.2.1 hl hZ ho hgo (xs (i + 1)) (xs (i + 2)) (xs (i + 3))
  obtain ⟨t, A, hL, h7⟩ := hJ
  refine sj_aload_n C 1520 rfl dL_law_1519 rfl rfl ?_
  refine sj_aload_n C 1521 rfl dL_law_1520 rfl rfl ?_
  refine sj_iload C 1523 rfl dL_law_1521 rfl ?_
  refine sj_iconstv C (1) 1524 rfl dL_law_1523 rfl ?_
  refine sj_iadd C 1525 rfl dL_law_1524 ?_
  rw [show nI i + 1 = nI (i + 1) from nI_add i 1]
  refine sj_xld C 1526 rfl dL_law_1525 hT (show i + 1 < Lx by omega) hLx ?_
  refine sj_aload_n C 1527 rfl dL_law_1526 rfl rfl ?_
  refine sj_iload C 1529 rfl dL_law_1527 rfl ?_
  refine sj_iconstv C (2) 1530 rfl dL_law_1529 rfl ?_
  refine sj_iadd C 1531 rfl dL_law_1530 ?_
  rw [show nI i + 2 = nI (i + 2) from nI_add i 2]
  refine sj_xld C 1532 rfl dL_law_1531 hT (show i + 2 < Lx by omega) hLx ?_
  refine sj_aload_n C 1533 rfl dL_law_1532 rfl rfl ?_
  refine sj_iload C 1535 rfl dL_law_1533 rfl ?_
  refine sj_iconstv C (3) 1536 rfl dL_law_1535 rfl ?_
  refine sj_iadd C 1537 rfl dL_law_1536 ?_
  rw [show nI i + 3 = nI (i + 3) from nI_add i 3]
  refine sj_xld C 1538 rfl dL_law_1537 hT (show i + 3 < Lx by omega) hLx ?_
  refine sj_aload_n C 1539 rfl dL_law_1538 rfl rfl ?_
  refine sj_callSW C hN 1542 rfl dL_law_1539 cw_L_170 (sq_fit4 rfl rfl (by show cl + 1 ≤ 601024; omega) (by show sl + 6 ≤ 7293034; omega)) hL rfl rfl rfl (fun v9 U hp => ?_)
  obtain ⟨rfl, hA⟩ := hp
  obtain ⟨k7, h7⟩ := h7 U hA
  refine sj_istore_5 C 1544 rfl dL_law_1542 rfl rfl ?_
  refine sj_aload_n C 1545 rfl dL_law_1544 rfl rfl ?_
  refine sj_aload_n C 1546 rfl dL_law_1545 rfl rfl ?_
  refine sj_iload C 1548 rfl dL_law_1546 rfl ?_
  refine sj_iconstv C (1) 1549 rfl dL_law_1548 rfl ?_
  refine sj_iadd C 1550 rfl dL_law_1549 ?_
  rw [show nI i + 1 = nI (i + 1) from nI_add i 1]
  refine sj_xld C 1551 rfl dL_law_1550 hT (show i + 1 < Lx by omega) hLx ?_
  refine sj_aload_n C 1552 rfl dL_law_1551 rfl rfl ?_
  refine sj_iload C 1554 rfl dL_law_1552 rfl ?_
  refine sj_iconstv C (2) 1555 rfl dL_law_1554 rfl ?_
  refine sj_iadd C 1556 rfl dL_law_1555 ?_
  rw [show nI i + 2 = nI (i + 2) from nI_add i 2]
  refine sj_xld C 1557 rfl dL_law_1556 hT (show i + 2 < Lx by omega) hLx ?_
  refine sj_aload_n C 1558 rfl dL_law_1557 rfl rfl ?_
  refine sj_iload C 1560 rfl dL_law_1558 rfl ?_
  refine sj_iconstv C (3) 1561 rfl dL_law_1560 rfl ?_
  refine sj_iadd C 1562 rfl dL_law_1561 ?_
  rw [show nI i + 3 = nI (i + 3) from nI_add i 3]
  refine sj_xld C 1563 rfl dL_law_1562 hT (show i + 3 < Lx by omega) hLx ?_
  refine sj_callV C 1566 rfl dL_law_1563 cv_L_172 (sq_fit4 rfl rfl (by show cl + 1 + 0 ≤ 601024; omega) (by show sl + 6 + 0 ≤ 7293034; omega)) h7 rfl rfl rfl ⟨_, _, k7, rfl, rfl, by decide⟩ (fun v8 T hp => ?_)
  obtain ⟨r, rfl, e0, ela, hZZ⟩ := hp
  obtain ⟨⟨m9, hs8, ms9, p9, q9, Q9, n9, B9, hZ9⟩, ho9⟩ := id hZZ
  refine sj_istore_6 C 1568 rfl dL_law_1566 rfl rfl ?_
  refine sj_aload_n C 1569 rfl dL_law_1568 rfl rfl ?_
  refine sj_callVd C 1572 rfl dL_law_1569 cv_L_93 (sq_fit4 rfl rfl (by show cl + 1 + 0 + 0 ≤ 601024; omega) (by show sl + 6 + 0 + 0 ≤ 7293034; omega)) (ct_X7_thrown _ hZ9.2.1.1) rfl rfl rfl ⟨_, _, hZ9.2.1.1.1.1, rfl, rfl, by decide⟩ ⟨rfl, rfl⟩ ?_
  rw [e0]
  refine sj_iload C 1574 rfl dL_law_1572 rfl ?_
  refine sj_icmp_eq C 1579 1577 rfl rfl dL_law_1574 (fun _ => ?_) (fun c_1574 => absurd rfl c_1574)
  refine sj_iload C 1581 rfl dL_law_1579 rfl ?_
  refine sj_if_ne C 1596 1584 rfl rfl dL_law_1581 (fun _ => ?_) (fun c_1581 => ?_)
  · refine sj_goto C 1654 rfl dL_law_1596 ?_
    exact K T _ _ _ _ _ _ hZZ (by show cl + 1 + 0 + 0 ≤ cl + 10; omega) (by show sl + 6 + 0 + 0 ≤ sl + 200; omega)
  · refine sj_aload_n C 1585 rfl dL_law_1584 rfl rfl ?_
    refine sj_iconstv C (0) 1586 rfl dL_law_1585 rfl ?_
    refine sj_lald C 1587 rfl dL_law_1586 ho9.1 (sj_ou_in ho9) ?_
    rw [show Int32.toNatClampNeg 0 = 0 from rfl, ela c_1581]
    refine sj_iload C 1589 rfl dL_law_1587 rfl ?_
    refine sj_i2l C 1590 rfl dL_law_1589 ?_
    refine sj_lcmp C 1591 rfl dL_law_1590 ?_
    rw [sq_lcmp]
    refine sj_if_eq C 1596 1594 rfl rfl dL_law_1591 (fun _ => ?_) (fun c_1591 => absurd rfl c_1591)
    refine sj_goto C 1654 rfl dL_law_1596 ?_
    exact K T _ _ _ _ _ _ hZZ (by show cl + 1 + 0 + 0 ≤ cl + 10; omega) (by show sl + 6 + 0 + 0 ≤ sl + 200; omega)
set_option maxRecDepth 100000 in
set_option maxHeartbeats 200000 in
theorem lw_c24 {X : sj_X} {nm : String} (C : sj_C X (mL_law nm)) (hN : sj_HN X) (hl : X.2.1.stackTraces = false) {S : sj_St} {g : Nat → Nat} {m : Nat → Int32} {hs : Bool} {ms : Nat → Int32} {p q : Nat} {Q : Nat → Nat → Int32} {n : Nat} {B : Nat → Int32} {o : Nat} (hZ : sq_Z S g m hs ms p q Q n B) (ho : sj_ou S o) (hgo : ∀ i, i < 160 → g i ≠ o) {b Lx : Nat} {xs : Nat → Int32} (hT : sj_Scr X b Lx xs) {i : Nat} (hi : i + 4 ≤ Lx) (hLx : Lx < 2 ^ 31) {cl sl : Nat} (hc : cl ≤ 600000) (hs9 : sl ≤ 7290000) (K : ∀ (U : sj_St) (cl2 sl2 : Nat) (o5 o6 o7 o8 : Option Value), sq_ZZ U g o → cl2 ≤ cl + 10 → sl2 ≤ sl + 200 → sj_G X U cl2 sl2 [some (.ref b), some (.ref (g 141)), some (.ref (g 142)), some (.ref o), some (.int (nI i)), o5, o6, o7, o8] 1654 []) (o5 o6 o7 o8 : Option Value) : sj_G X S cl sl [some (.ref b), some (.ref (g 141)), some (.ref (g 142)), some (.ref o), some (.int (nI i)), o5, o6, o7, o8] 1599 [] := by
  have hJ := st_handShare (l := X.2.1) hZ ho hgo
  obtain ⟨v0, A, h6, h7⟩ := hJ
  have kx := hZ.1.1.1.1
  refine sj_aload_n C 1600 rfl dL_law_1599 rfl rfl ?_
  refine sj_callV C 1603 rfl dL_law_1600 cv_L_173 (sq_fit4 rfl rfl (by show cl + 0 ≤ 601024; omega) (by show sl + 0 ≤ 7293034; omega)) h6 rfl rfl rfl ⟨_, _, kx, rfl, rfl, by decide⟩ (fun v9 U hp => ?_)
  obtain ⟨rfl, hA⟩ := hp
  obtain ⟨k7, h7⟩ := h7 U hA
  refine sj_dstore_5 C 1605 rfl dL_law_1603 rfl rfl ?_
  refine sj_aload_n C 1606 rfl dL_law_1605 rfl rfl ?_
  refine sj_callV C 1609 rfl dL_law_1606 cv_L_177 (sq_fit4 rfl rfl (by show cl + 0 + 0 ≤ 601024; omega) (by show sl + 0 + 0 ≤ 7293034; omega)) h7 rfl rfl rfl ⟨_, _, k7, rfl, rfl, by decide⟩ (fun v8 T hp => ?_)
  obtain ⟨rfl, hZZ⟩ := hp
  refine sj_dstore_7 C 1611 rfl dL_law_1609 rfl rfl ?_
  refine sj_dload C 1613 rfl dL_law_1611 rfl ?_
  refine sj_dload C 1615 rfl dL_law_1613 rfl ?_
  refine sj_dcmp C 1616 rfl dL_law_1615 ?_
  refine sj_if_eq C 1637 1619 rfl rfl dL_law_1616 (fun _ => ?_) (fun cd => ?_)
  · refine sj_goto C 1654 rfl dL_law_1637 ?_
    exact K T _ _ _ _ _ _ hZZ (by show cl + 0 + 0 ≤ cl + 10; omega) (by show sl + 0 + 0 ≤ sl + 200; omega)
  · refine sj_dload C 1621 rfl dL_law_1619 rfl ?_
    refine sj_dload C 1623 rfl dL_law_1621 rfl ?_
    refine sj_dcmp C 1624 rfl dL_law_1623 ?_
    refine sj_if_eq C 1635 1627 rfl rfl dL_law_1624 (fun h => absurd h cd) (fun _ => ?_)
    refine sj_dload C 1629 rfl dL_law_1627 rfl ?_
    refine sj_dload C 1631 rfl dL_law_1629 rfl ?_
    refine sj_dcmp C 1632 rfl dL_law_1631 ?_
    refine sj_if_ne C 1637 1635 rfl rfl dL_law_1632 (fun _ => ?_) (fun h => absurd h cd)
    refine sj_goto C 1654 rfl dL_law_1637 ?_
    exact K T _ _ _ _ _ _ hZZ (by show cl + 0 + 0 ≤ cl + 10; omega) (by show sl + 0 + 0 ≤ sl + 200; omega)
set_option maxRecDepth 100000 in
set_option maxHeartbeats 200000 in
theorem lw_c25 {X : sj_X} {nm : String} (C : sj_C X (mL_law nm)) (hN : sj_HN X) (hl : X.2.1.stackTraces = false) {S : sj_St} {g : Nat → Nat} {m : Nat → Int32} {hs : Bool} {ms : Nat → Int32} {p q : Nat} {Q : Nat → Nat → Int32} {n : Nat} {B : Nat → Int32} {o : Nat} (hZ : sq_Z S g m hs ms p q Q n B) (ho : sj_ou S o) (hgo : ∀ i, i < 160 → g i ≠ o) {b Lx : Nat} {xs : Nat → Int32} (hT : sj_Scr X b Lx xs) {i : Nat} (hi : i + 4 ≤ Lx) (hLx : Lx < 2 ^ 31) {cl sl : Nat} (hc : cl ≤ 600000) (hs9 : sl ≤ 7290000) (K : ∀ (U : sj_St) (cl2 sl2 : Nat) (o5 o6 o7 o8 : Option Value), sq_ZZ U g o → cl2 ≤ cl + 10 → sl2 ≤ sl + 200 → sj_G X U cl2 sl2 [some (.ref b), some (.ref (g 141)), some (.ref (g 142)), some (.ref o), some (.int (nI i)), o5, o6, o7, o8] 1654 []) (o5 o6 o7 o8 : Option Value) : sj_G X S cl sl [some (.ref b), some (.ref (g 141)), some (.ref (g 142)), some (.ref o), some (.int (nI i)), o5, o6, o7, o8] 1640 [] := by
  have hJ := st_digest (l := X.2.1) hZ ho hgo
  obtain ⟨v0, A, h6, h7⟩ := hJ
  have kx := hZ.1.1.1.1
  refine sj_aload_n C 1641 rfl dL_law_1640 rfl rfl ?_
  refine sj_callV C 1644 rfl dL_law_1641 cv_L_178 (sq_fit4 rfl rfl (by show cl + 0 ≤ 601024; omega) (by show sl + 0 ≤ 7293034; omega)) h6 rfl rfl rfl ⟨_, _, kx, rfl, rfl, by decide⟩ (fun v9 U hp => ?_)
  obtain ⟨rfl, hA⟩ := hp
  obtain ⟨k7, h7⟩ := h7 U hA
  refine sj_aload_n C 1645 rfl dL_law_1644 rfl rfl ?_
  refine sj_callV C 1648 rfl dL_law_1645 cv_L_182 (sq_fit4 rfl rfl (by show cl + 0 + 0 ≤ 601024; omega) (by show sl + 0 + 0 ≤ 7293034; omega)) h7 rfl rfl rfl ⟨_, _, k7, rfl, rfl, by decide⟩ (fun v8 T hp => ?_)
  obtain ⟨rfl, hZZ⟩ := hp
  refine sj_lcmp C 1649 rfl dL_law_1648 ?_
  rw [sq_lcmp]
  refine sj_if_eq C 1654 1652 rfl rfl dL_law_1649 (fun _ => ?_) (fun c_1649 => absurd rfl c_1649)
  exact K T _ _ _ _ _ _ hZZ (by show cl + 0 + 0 ≤ cl + 10; omega) (by show sl + 0 + 0 ≤ sl + 200; omega)
