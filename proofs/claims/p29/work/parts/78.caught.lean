/-! CAUGHT: methods with a table of their own -/
def sj_InW (D : va_G) (cy : Nat → ClassId) (A : Nat → Prop) (S : sj_St) (sz : Nat) (U : State) : Prop := sj_In D cy A S sz U ∧ sj_N3 U
/-- a contract of a method with the table hh, which catches all that is thrown -/
def sj_CtW (l : Launch) (M : sj_M) (hh : List (Nat × Nat × Nat × Nat)) (av : List Value) (S : sj_St) (Post : Option Value → sj_St → Prop) : Prop := match M with
  | (y, cc, nL, ret, fr, lo, mc, ms) => ∀ (D : va_G) (cy : Nat → ClassId) (A : Nat → Prop) (sz : Nat), (∀ q, sz ≤ q → A q) → vx_Met l y (.codeWith y cc nL ret hh :: sj_GT) { frames := fr, cells := mc, slots := ms, locals := lo } (va_Pc av (sj_InW D cy A S sz)) (sj_Qc D cy A Post) (fun _ _ _ => False) mc ms A
def sj_HH (X : sj_X) (hh : List (Nat × Nat × Nat × Nat)) : Prop := match X with
  | (_, _, _, _, s, _, _, _, _, c, _, _, _, _, _) => c.exceptionTable.toList = tableOf hh ∧ sj_N3 s
theorem sj_blindW {D : va_G} {cy : Nat → ClassId} {A : Nat → Prop} {S : sj_St} {sz : Nat} {av : List Value} : FrameBlind (va_Pc av (sj_InW D cy A S sz)) := fun a U g mk q => by
  obtain ⟨q0, ⟨q1, q2, q3, q4⟩, q5⟩ := q
  exact ⟨q0, ⟨q1, q2, va_K.moved (u := U) (U := U.calling g mk a) (Vm.Alike.refl U.vm) q3, sj_Am_same (u := U) (U := U.calling g mk a) rfl q4⟩, sj_N3_moved (u := U) (U := U.calling g mk a) (Vm.Alike.refl U.vm) q5⟩
theorem sj_startW {l : Launch} {M : sj_M} {hh : List (Nat × Nat × Nat × Nat)} {av : List Value} {S : sj_St} {Post : Option Value → sj_St → Prop} (L0 : List (Option Value)) (hy : plainName M.1.cls = true) (hlen : Nat.ble (lg_sl av).length M.2.2.1 = true) (hL : sj_lv 0 L0 = lv_args 0 av) (body : ∀ X : sj_X, X.2.1 = l → sj_C X M → sj_R X M Post → sj_HH X hh → sj_G X S 0 0 L0 0 []) : sj_CtW l M hh av S Post := by
  obtain ⟨y, cc, nL, ret, fr, lo, mc, ms⟩ := M
  intro D cy A sz hA
  refine vx_ofWH (cc := cc) (maxL := nL) (ret := ret) (hh := hh) hy rfl ?_
  intro p e s m args below meth c s₁ B hml hv
  obtain ⟨rfl, ⟨hsz, hP, hK, hAm⟩, hN3⟩ := hv
  have hts := atoms_spec (ws := .codeWith y cc nL ret hh :: sj_GT) B.pre
  subst hsz
  have h1 := body (p, l, e, _, s, m, _, below, meth, c, D, cy, A, nL, _) rfl ⟨B.exec, B.bytes, ⟨hml, rfl⟩, findClass_of_methodNamed B.named, fun w hw => hts w (List.mem_cons_of_mem _ hw), ⟨B.notSynchronized, B.returns, (name_of_methodNamed B.named B.method).1⟩, hK, hAm, hA, rfl⟩ rfl ⟨vx_table (x := y) B (hts _ List.mem_cons_self), hN3⟩
  refine vx_ret ?_
  rw [lg_entry_eq]
  refine h1 s.heap [] _ hP va_S.rf ?_
  rw [hL]
  exact lv_entry av (Nat.le_of_ble_eq_true hlen)
/-- a call that throws, caught by the row x of the table -/
theorem sj_callX {X : sj_X} {M N : sj_M} (C : sj_C X M) {hh : List (Nat × Nat × Nat × Nat)} (hH : sj_HH X hh) {S : sj_St} {cl sl : Nat} {L : List (Option Value)} {pc idx n : Nat} {b : Nat} {As st rest : List Value} {E : String} {Post : sj_St → Prop} (pre : List ExceptionTableEntry) (x : ExceptionTableEntry) (suf : List ExceptionTableEntry) (hsplit : tableOf hh = pre ++ x :: suf) (hd : decode M.2.1 pc = .ok (.invokevirtual idx, 3)) (hV : sj_V M.1.cls idx N n) (hfit : sj_fit M N cl sl = true) (hM : sj_CtX X.2.1 N (.ref b :: As) S E Post) (hst : st = As.reverse ++ .ref b :: rest) (hn : As.length = n) (hcat : Nat.ble (rest.map fun v => v.category).sum 8 = true) (hb8 : sj_is S b N.1.cls) (hpass : ∀ U : State, sj_N3 U → ∀ z ∈ pre, covers z pc = false ∨ (z.catchType ≠ 0 ∧ ∃ nm : String, Cond.classLink M.1.cls z.catchType nm ∈ sj_GT ∧ va_Nc E nm U)) (hx : covers x pc = true) (h0 : x.catchType ≠ 0) (hlink : Cond.classLink M.1.cls x.catchType E ∈ sj_GT) (hcast : Cond.castable E E ∈ sj_XWl) (kk : ∀ (q9 : Nat) (S' : sj_St), Post S' → sj_G X S' (cl + N.2.2.2.2.2.2.1) (sl + N.2.2.2.2.2.2.2) L x.handlerPc [.ref q9]) : sj_G X S cl sl L pc st := by
  have hF := sj_fit_of hfit
  obtain ⟨p, l, e, R, s, m, args, below, meth, c, D, cy, A, nL, Q⟩ := X
  obtain ⟨ym, cc, nL0, ret, fr, lo, mc, ms⟩ := M
  obtain ⟨hx1, hb, ⟨hml, hnL⟩, hown, hts, ⟨hlk, hret, hnm⟩, hK, hAm, hA, hRR⟩ := C
  obtain ⟨y2, cc2, nL2, ret2, fr2, lo2, mc2, ms2⟩ := N
  obtain ⟨hH1, hN3⟩ := hH
  subst hst
  obtain ⟨hlk2, hinst, hsel, hini, hcode, hno, hpar⟩ := hV
  subst hRR
  intro H locs ls h1 h2 h3
  have hM1 := hM D cy A H.size (fun q h => hA q (Nat.le_trans h2.1 h))
  have hG := sj_good y2 cc2 nL2 ret2 hcode
  have hr := vx_runV (R := { frames := fr, cells := mc, slots := ms, locals := lo }) (As := As) (rest := rest) (H := H) (locs := locs) (below := below) (e := e) (meth := meth) (g := F0 m pc ls (As.reverse ++ .ref b :: rest)) ⟨hx1, hb, hml, hown, hts⟩ hM1 ⟨(callB_of n hts hG rfl rfl rfl (hts _ hini) (hts _ hlk2) ⟨hno.1, hno.2, hpar⟩ ⟨hF.1, hF.2.1⟩), hts _ hinst, hts _ hsel⟩ ⟨sj_blind, sj_recv2 hK h1 hb8, fun U hU hW => ⟨rfl, sj_inOf hK hAm h2 h1 hU hW⟩⟩ rfl hn h3.1 rfl (lv_room (Nat.le_of_ble_eq_true hcat)) hd (cells := cl) (slots := sl) ⟨hF.2.2.1, hF.2.2.2⟩
  intro T hT X
  rcases hr T hT X with ⟨v, st₀, t, T', L9, e0, X', hL, e1, e2, hf, st⟩ | ⟨q, st₀, t, T', L9, E9, ce, e0, X', hL, e1, e2, ⟨rfl, ⟨S', hp, hP'⟩, hF9⟩, hce, hcv, hcl, st⟩
  · exact hf.elim
  · obtain ⟨hz, hk⟩ := hF9
    rw [e0] at hz hk
    have hS' : va_S A s.heap T'.heap (locs ++ L9) := ⟨Nat.le_trans h2.1 (by rw [e1]; exact hz), fun q h1 h3 => by rw [e1, hk q (Nat.lt_of_lt_of_le h1 h2.1) h3]; exact h2.2.1 q h1 h3, fun q hq => by
      rcases List.mem_append.mp hq with h | h
      · exact h2.2.2 q h
      · exact hL q h⟩
    obtain ⟨t2, a1, b1⟩ := vx_catch (ls := ls) (rest := rest) hown pre x suf (hH1.trans hsplit) (fun z hz9 => (hpass s hN3 z hz9).imp id (fun ⟨z1, nm, z2, z3⟩ => ⟨z1, nm, hts _ z2, z3⟩)) hx h0 (hts _ hlink) (sj_XWl_at hAm.2.2.1 _ hcast) (by rw [e1]; exact hce) hcv hcl (kk q S' hp T'.heap (locs ++ L9) ls (by rw [e1]; exact hP') hS' h3) T' rfl X'
    exact ⟨t2, st.trans a1, b1⟩
