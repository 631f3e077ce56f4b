/-! THROWN: the rule of a throw, contracts of methods that throw -/
abbrev sj_nm2 : List String := ["java/lang/RuntimeException", "java/lang/Exception"]
theorem sj_HP_grow {D : va_G} {cy : Nat → ClassId} {A : Nat → Prop} {S : sj_St} {H H1 : Heap} (h : sj_HP D cy A S H) (hq : ∀ q : Nat, q < H.size → H1[q]? = H[q]?) : sj_HP D cy A S H1 := by
  obtain ⟨ws, hP, hD, hW⟩ := h
  exact ⟨ws, hP.kept (fun k q hk => hq _ (vx_lt hP hk)), hD, hW⟩
theorem va_S_grow {A : Nat → Prop} {H0 H H1 : Heap} {locs : List Loc} (h : va_S A H0 H locs) (hz : H.size ≤ H1.size) (hq : ∀ q : Nat, q < H.size → H1[q]? = H[q]?) : va_S A H0 H1 locs := ⟨Nat.le_trans h.1 hz, fun q h1 h2 => (hq q (Nat.lt_of_lt_of_le h1 h.1)).trans (h.2.1 q h1 h2), h.2.2⟩
/-- what is thrown, and the state then -/
def sj_Xc (D : va_G) (cy : Nat → ClassId) (A : Nat → Prop) (E : String) (Post : sj_St → Prop) : String → State → State → Prop := fun E' st t => E' = E ∧ (∃ S' : sj_St, Post S' ∧ sj_HP D cy A S' t.heap) ∧ va_F A st t
/-- a contract of a method that throws an E -/
def sj_CtX (l : Launch) (M : sj_M) (av : List Value) (S : sj_St) (E : String) (Post : sj_St → Prop) : Prop := match M with
  | (y, cc, nL, ret, fr, lo, mc, ms) => ∀ (D : va_G) (cy : Nat → ClassId) (A : Nat → Prop) (sz : Nat), (∀ q, sz ≤ q → A q) → vx_Met l y (.code y cc nL ret :: sj_GT) { frames := fr, cells := mc, slots := ms, locals := lo } (va_Pc av (sj_In D cy A S sz)) (fun _ _ _ _ => False) (sj_Xc D cy A E Post) mc ms A
def sj_RX (X : sj_X) (M : sj_M) (E : String) (Post : sj_St → Prop) : Prop := match X, M with
  | (_, l, _, _, s, _, args, below, _, c, D, cy, A, _, Q), (_, _, _, _, _, _, mc, ms) => Q = vx_MQ below (fun _ _ _ _ => False) (sj_Xc D cy A E Post) args s mc ms A ∧ (∀ x ∈ c.exceptionTable.toList, False)
theorem sj_startX {l : Launch} {M : sj_M} {av : List Value} {S : sj_St} {E : String} {Post : sj_St → Prop} (L0 : List (Option Value)) (hy : plainName M.1.cls = true) (hlen : Nat.ble (lg_sl av).length M.2.2.1 = true) (hL : sj_lv 0 L0 = lv_args 0 av) (body : ∀ X : sj_X, X.2.1 = l → sj_C X M → sj_RX X M E Post → sj_G X S 0 0 L0 0 []) : sj_CtX l M av S E Post := by
  obtain ⟨y, cc, nL, ret, fr, lo, mc, ms⟩ := M
  intro D cy A sz hA
  refine vx_ofW (cc := cc) (maxL := nL) (ret := ret) hy rfl ?_
  intro p e s m args below meth c s₁ B hml ht hv
  obtain ⟨rfl, hsz, hP, hK, hAm⟩ := hv
  have hts := atoms_spec (ws := .code y cc nL ret :: sj_GT) B.pre
  subst hsz
  have h1 := body (p, l, e, _, s, m, _, below, meth, c, D, cy, A, nL, _) rfl ⟨B.exec, B.bytes, ⟨hml, rfl⟩, findClass_of_methodNamed B.named, fun w hw => hts w (List.mem_cons_of_mem _ hw), ⟨B.notSynchronized, B.returns, (name_of_methodNamed B.named B.method).1⟩, hK, hAm, hA, rfl⟩ ⟨rfl, ht⟩
  rw [lg_entry_eq]
  refine h1 s.heap [] _ hP va_S.rf ?_
  rw [hL]
  exact lv_entry av (Nat.le_of_ble_eq_true hlen)
/-- an exception that the class makes, by its constructor's entry -/
def sj_Ex (E : String) (ic : Nat) : Prop := Bundle.fit E = true ∧ (∀ w ∈ (vx_atS RX6 ic E sj_nm2).filter goodWord, w ∈ sj_GT) ∧ (∀ w ∈ (vx_atS RX6 ic E sj_nm2).filter (fun w => !goodWord w), w ∈ sj_XWl) ∧ (Cond.initialized E :: vx_atS RX6 ic E sj_nm2).all vx_ot = true
theorem sj_Ex_45 : sj_Ex "java/lang/IllegalArgumentException" 45 := ⟨by decide +kernel, fun _ h => List.mem_append_left _ (List.mem_append_left _ (List.mem_append_right _ h)), fun _ h => List.mem_append_left _ h, by decide +kernel⟩
theorem sj_Ex_56 : sj_Ex "java/lang/IllegalStateException" 56 := ⟨by decide +kernel, fun _ h => List.mem_append_left _ (List.mem_append_right _ h), fun _ h => List.mem_append_right _ (List.mem_append_left _ h), by decide +kernel⟩
theorem sj_Ex_91 : sj_Ex "java/lang/IndexOutOfBoundsException" 91 := ⟨by decide +kernel, fun _ h => List.mem_append_right _ h, fun _ h => List.mem_append_right _ (List.mem_append_right _ h), by decide +kernel⟩
theorem sj_XWl_at {args : Array Value} {s : State} (h : sj_XW s) : ∀ w ∈ sj_XWl, w.before args s = true := by
  intro w hw
  have h1 := List.all_eq_true.mp sj_XWl_ok w hw
  have h2 := h w hw
  have tr : ∀ {c : Cond}, c.onTables = true → c.before #[] s = true → c.before args s = true := by
    intro c hc h
    have e := Cond.onTables_vm (A := #[]) (A' := args) (U := s) (U' := s) s.vm c hc
    have hU : s.setVm s.vm = s := rfl
    rw [hU] at e
    rw [← e]
    exact h
  cases w with
  | declares y => exact tr rfl h2
  | castable a b => exact tr rfl h2
  | _ => simp [sj_dc] at h1
theorem sj_throw {X : sj_X} {M : sj_M} (C : sj_C X M) {S : sj_St} {cl sl : Nat} {L : List (Option Value)} {pc ik is ic : Nat} {E text : String} {Post : sj_St → Prop} (hR : sj_RX X M E Post) (hl : X.2.1.stackTraces = false) (hown6 : M.1.cls = RX6) (hE : sj_Ex E ic) (hk : Cond.classLink RX6 ik E ∈ sj_GT) (hini : Cond.initialized E ∈ sj_GT) (htx : (is, text) ∈ sj_txl) (d0 : decode M.2.1 pc = .ok (.new ik, 3)) (d3 : decode M.2.1 (pc + 3) = .ok (.dup, 1)) (d4 : decode M.2.1 (pc + 4) = .ok (.ldc is, 2)) (d6 : decode M.2.1 (pc + 6) = .ok (.invokespecial ic, 3)) (d9 : decode M.2.1 (pc + 9) = .ok (.athrow, 1)) (hroom : (Nat.ble 6 M.2.2.2.2.1 && (Nat.ble 82 M.2.2.2.2.2.1 && (Nat.ble (cl + 1) M.2.2.2.2.2.2.1 && Nat.ble (sl + 6) M.2.2.2.2.2.2.2))) = true) (hp : Post S) : sj_G X S cl sl L pc [] := by
  obtain ⟨p, l, e, R, s, m, args, below, meth, c, D, cy, A, nL, Q⟩ := X
  obtain ⟨ym, cc, nL0, ret, fr, lo, mc, ms⟩ := M
  obtain ⟨hx, hb, ⟨hml, hnL⟩, hown, hts, ⟨hlk, hret, hnm⟩, hK, hAm, hA, hRR⟩ := C
  obtain ⟨hQ, hno⟩ := hR
  obtain ⟨hfit, hat1, hat2, hot⟩ := hE
  subst hQ
  subst hRR
  simp only [Bool.and_eq_true] at hroom
  obtain ⟨r1, r2, r3, r4⟩ := hroom
  obtain ⟨sa, hsa⟩ := hAm.2.2.2.2.1 _ htx
  have hown' : s.vm.findClass RX6 = some m.cls := by
    rw [← hown6]
    exact hown
  intro H locs ls g1 g2 g3
  refine vx_throwS hx hb hl hown' hfit (names := sj_nm2) (by decide +kernel) (hts _ hk) (hts _ hini) hsa (vx_hat (fun w hw => hts w (hat1 w hw)) hat2 (sj_XWl_at hAm.2.2.1)) ?_ hAm.2.2.2.2.2.1 hAm.2.2.2.2.2.2.1 g2 (by rw [hml]; exact g3.1) d0 d3 d4 d6 d9 (fun x hxx => (hno x hxx).elim) (Nat.le_of_ble_eq_true r1) (Nat.le_of_ble_eq_true r2) (Nat.le_of_ble_eq_true r3) (Nat.le_of_ble_eq_true r4) hlk ?_ g2.2.2 (Nat.le_of_ble_eq_true r3) (Nat.le_of_ble_eq_true r4)
  · intro w hw
    rcases List.mem_cons.mp hw with rfl | hw
    · rfl
    · exact List.all_eq_true.mp hot w hw
  · intro t hal hz hq
    refine ⟨rfl, ⟨S, hp, sj_HP_grow g1 hq⟩, ?_⟩
    have h9 := va_S_grow g2 hz hq
    exact ⟨h9.1, h9.2.1⟩
