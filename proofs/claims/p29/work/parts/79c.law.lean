/-! THE LAW'S BODY: its rules -/
abbrev mL_law (nm : String) : sj_M := (⟨RL, nm, "([I)Z"⟩, cL_law, 18, ret, 12, 508, 677992, 7067491)
/-- the script: L ints, xs, at the cell b -/
def sj_Scr (X : sj_X) (b L : Nat) (xs : Nat → Int32) : Prop := match X with
  | (_, _, _, _, s, _, _, _, _, _, _, _, A, _, _) => va_X b L xs s s.heap ∧ b < s.heap.size ∧ ¬ A b
theorem sj_xlen {X : sj_X} {M : sj_M} (C : sj_C X M) {S : sj_St} {cl sl : Nat} {L : List (Option Value)} {pc b Lx : Nat} {xs : Nat → Int32} {rest : List Value} (q : Nat) (hq : pc + 1 = q) (hd : decode M.2.1 pc = .ok (.arraylength, 1)) (hT : sj_Scr X b Lx xs) (kk : sj_G X S cl sl L q (.int (nI Lx) :: rest)) : sj_G X S cl sl L pc (.ref b :: rest) := by
  obtain ⟨p, l, e, R, s, m, args, below, meth, c, D, cy, A, nL, Q⟩ := X
  obtain ⟨ym, cc, nL0, ret, fr, lo, mc, ms⟩ := M
  obtain ⟨hx, hb, ⟨hml, hnL⟩, hown, hts, ⟨hlk, hret, hnm⟩, hK, hAm, hA, hRR⟩ := C
  obtain ⟨hX, hbl, hbA⟩ := hT
  subst hq
  intro H locs ls h1 h2 h3
  exact va_slen hx hb hX hbl hbA h2 hd (kk H locs ls h1 h2 h3)
theorem sj_xld {X : sj_X} {M : sj_M} (C : sj_C X M) {S : sj_St} {cl sl : Nat} {L : List (Option Value)} {pc b Lx : Nat} {xs : Nat → Int32} {rest : List Value} {i : Nat} (q : Nat) (hq : pc + 1 = q) (hd : decode M.2.1 pc = .ok (.iaload, 1)) (hT : sj_Scr X b Lx xs) (hi : i < Lx) (hL : Lx < 2 ^ 31) (kk : sj_G X S cl sl L q (.int (xs i) :: rest)) : sj_G X S cl sl L pc (.int (nI i) :: .ref b :: rest) := by
  obtain ⟨p, l, e, R, s, m, args, below, meth, c, D, cy, A, nL, Q⟩ := X
  obtain ⟨ym, cc, nL0, ret, fr, lo, mc, ms⟩ := M
  obtain ⟨hx, hb, ⟨hml, hnL⟩, hown, hts, ⟨hlk, hret, hnm⟩, hK, hAm, hA, hRR⟩ := C
  obtain ⟨hX, hbl, hbA⟩ := hT
  subst hq
  intro H locs ls h1 h2 h3
  refine va_sld hx hb hX hbl hbA h2 (vp_in_nI hi hL) hd ?_
  rw [nI_clamp (by omega)]
  exact kk H locs ls h1 h2 h3
/-- a call of a wrapper -/
def sj_Vw (own : String) (idx : Nat) (M : sj_M) (hh : List (Nat × Nat × Nat × Nat)) (n : Nat) : Prop := match M with
  | (y, cc, nL, ret, _, _, _, _) => Cond.methodLink own idx y ∈ sj_GT ∧ Cond.static y ∈ sj_GT ∧ Cond.initialized y.cls ∈ sj_GT ∧ Cond.codeWith y cc nL ret hh ∈ sj_GT ∧ (y.cls ≠ "java/lang/invoke/MethodHandle" ∧ y.cls ≠ "java/lang/invoke/VarHandle") ∧ (parseMethodDescriptor y.desc).map (fun d => d.parameters.length) = some n
theorem sj_goodW {own : String} {idx : Nat} (y : MethodName) (cc : ByteArray) (nL : Nat) (ret : Option FieldType) (hh : List (Nat × Nat × Nat × Nat)) (h1 : Cond.methodLink own idx y ∈ sj_GT) (h2 : Cond.static y ∈ sj_GT) (h3 : Cond.initialized y.cls ∈ sj_GT) (h : Cond.codeWith y cc nL ret hh ∈ sj_GT) : GoodIn sj_GT (va_wsS own idx y (.codeWith y cc nL ret hh :: sj_GT)) := by
  intro w hw
  unfold va_wsS at hw
  rcases List.mem_append.mp hw with h9 | h9
  · simp only [List.mem_cons, List.not_mem_nil, or_false] at h9
    rcases h9 with rfl | rfl | rfl
    · exact sj_GT_good _ h1
    · exact sj_GT_good _ h2
    · exact sj_GT_good _ h3
  · rcases List.mem_cons.mp h9 with rfl | h9
    · exact sj_GT_good _ h
    · exact sj_GT_good _ h9
/-- what catching wants of the machine -/
def sj_HN (X : sj_X) : Prop := match X with
  | (_, _, _, _, s, _, _, _, _, _, _, _, _, _, _) => sj_N3 s
theorem sj_callSW {X : sj_X} {M N : sj_M} (C : sj_C X M) (hN : sj_HN X) {hh : List (Nat × Nat × Nat × Nat)} {S : sj_St} {cl sl : Nat} {L : List (Option Value)} {pc idx n : Nat} {As st rest : List Value} {Post : Option Value → sj_St → Prop} (q : Nat) (hq : pc + 3 = q) (hd : decode M.2.1 pc = .ok (.invokestatic idx, 3)) (hV : sj_Vw M.1.cls idx N hh n) (hfit : sj_fit M N cl sl = true) (hM : sj_CtW X.2.1 N hh As S Post) (hst : st = As.reverse ++ rest) (hn : As.length = n) (hcat : Nat.ble (rest.map fun v => v.category).sum 8 = true) (kk : ∀ (v : Option Value) (S' : sj_St), Post v S' → sj_G X S' (cl + N.2.2.2.2.2.2.1) (sl + N.2.2.2.2.2.2.2) L q (v.toList ++ rest)) : sj_G X S cl sl L pc st := by
  have hF := sj_fit_of hfit
  obtain ⟨p, l, e, R, s, m, args, below, meth, c, D, cy, A, nL, Q⟩ := X
  obtain ⟨ym, cc, nL0, ret, fr, lo, mc, ms⟩ := M
  obtain ⟨hx, hb, ⟨hml, hnL⟩, hown, hts, ⟨hlk, hret, hnm⟩, hK, hAm, hA, hRR⟩ := C
  obtain ⟨y2, cc2, nL2, ret2, fr2, lo2, mc2, ms2⟩ := N
  subst hq
  subst hst
  obtain ⟨hlink, hstat, hini, hcode, hno, hpar⟩ := hV
  subst hRR
  intro H locs ls h1 h2 h3
  have hM1 := hM D cy A H.size (fun q h => hA q (Nat.le_trans h2.1 h))
  have hG := sj_goodW y2 cc2 nL2 ret2 hh hlink hstat hini hcode
  have hr := vx_runSX (R := { frames := fr, cells := mc, slots := ms, locals := lo }) (As := As) (rest := rest) (H := H) (locs := locs) (below := below) (e := e) (meth := meth) (g := F0 m pc ls (As.reverse ++ rest)) ⟨hx, hb, hml, hown, hts⟩ hM1 (vx_cwSW n hts hG rfl rfl rfl ⟨hno.1, hno.2, hpar⟩ ⟨hF.1, hF.2.1⟩) ⟨sj_blindW, fun U hU hW => ⟨rfl, sj_inOf hK hAm h2 h1 hU hW, sj_N3_moved hW.alike hN⟩⟩ rfl hn h3.1 rfl (lv_room (Nat.le_of_ble_eq_true hcat)) hd (cells := cl) (slots := sl) ⟨hF.2.2.1, hF.2.2.2⟩
  refine sj_goCall (D := D) (cy := cy) (A := A) (Post := Post) (a := As.toArray) (fun T hT X => ?_) h2 (fun v S' H1 locs1 hp hP1 hS1 => kk v S' hp H1 locs1 ls hP1 hS1 h3)
  rcases hr T hT X with h9 | ⟨q, st₀, t, T', L9, E9, ce, e0, X', hL, e1, e2, hf, -⟩
  · exact h9
  · exact hf.elim
theorem sq_lcmp (x : Int64) : lg_cmp x x = 0 := by
  unfold lg_cmp
  simp
