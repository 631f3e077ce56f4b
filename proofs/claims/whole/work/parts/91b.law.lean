/-! THE LAW'S BODY: its rules -/
abbrev mL_law (nm : String) : sj_M := (⟨RL, nm, "([I)Z"⟩, cL_law, 9, ret, 13, 504, 601024, 7293034)
/-- the script: L ints, xs, at the cell b -/
def sj_Scr (X : sj_X) (b L : Nat) (xs : Nat → Int32) : Prop := match X with
  | (_, _, _, _, s, _, _, _, _, _, _, _, A, _, _) => va_X b L xs s s.heap ∧ b < s.heap.size ∧ ¬ A b
theorem sj_xlen {X : sj_X} {M : sj_M} (C : sj_C X M) {S : sj_St} {cl sl : Nat} {L : List (Option Value)} {pc b Lx : Nat} {xs : Nat → Int32} {rest : List Value} (q : Nat) (hq : pc + 1 = q) (hd : decode M.2.1 pc = .ok (.arraylength, 1)) (hT : sj_Scr X b Lx xs) (kk : sj_G X S cl sl L q (.int (nI Lx) :: rest)) : sj_G X S cl sl L pc (.ref b :: rest) := by
  obtain ⟨p, l, e, R, s, m, args, below, meth, c, D, cy, A, nL, Q⟩ := X
  obtain ⟨ym, cc, nL0, ret, fr, lo, mc, ms⟩ := M
  obtain ⟨hx, hb, ⟨hml, hnL⟩, hown, hts, ⟨hlk, hret, hnm⟩, hK, hAm, hA, hRR⟩ := C
  obtain ⟨hX, hbl, hbA⟩ := hT
  subst hq
  intro H locs ls h1 h2 h3
  exact va_slen hx hb hX hbl hbA h2 hd (kk H locs ls h1 h2 h3)
theorem sj_xld {X : sj_X} {M : sj_M} (C : sj_C X M) {S : sj_St} {cl sl : Nat} {L : List (Option Value)} {pc b Lx : Nat} {xs : Nat → Int32} {rest : List Value} {i : Nat} (q : Nat) (hq : pc + 1 = q) (hd : decode M.2.1 pc = .ok (.iaload, 1)) (hT : sj_Scr X b Lx xs) (hi : i < Lx) (hL : Lx < 2 ^ 31) (kk : sj_G X S cl sl L q (.int (xs i) :: rest)) : sj_G X S cl sl L pc (.int (nI i) :: .ref b :: rest) := by
  obtain ⟨p, l, e, R, s, m, args, below, meth, c, D, cy, A, nL, Q⟩ := X
  obtain ⟨ym, cc, nL0, ret, fr, lo, mc, ms⟩ := M
  obtain ⟨hx, hb, ⟨hml, hnL⟩, hown, hts, ⟨hlk, hret, hnm⟩, hK, hAm, hA, hRR⟩ := C
  obtain ⟨hX, hbl, hbA⟩ := hT
  subst hq
  intro H locs ls h1 h2 h3
  refine va_sld hx hb hX hbl hbA h2 (vp_in_nI hi hL) hd ?_
  rw [nI_clamp (by omega)]
  exact kk H locs ls h1 h2 h3
def sj_nL (S : sj_St) (a n : Nat) : sj_St := (sj_up S.1 a (some 11), S.2.1, sj_up S.2.2.1 a n, S.2.2.2.1, S.2.2.2.2.1, S.2.2.2.2.2.1, S.2.2.2.2.2.2.1, sj_up S.2.2.2.2.2.2.2 a (fun _ => 0))
theorem sj_cy3 {D : va_G} {cy : Nat → ClassId} {s : State} {cA : ClassId} (h1 : va_K D vwCl (sj_tys cy) s) (h2 : va_K D vwCl (sj_tys cy ++ [(cA, .long)]) s) : cA = cy 3 := by
  have a1 := (h1.2 3 (cy 3, .long) rfl).2
  have a2 := (h2.2 4 (cA, .long) rfl).2
  exact Option.some.inj (Eq.trans (Eq.symm a2) a1)
theorem sj_newl {X : sj_X} {M : sj_M} (C : sj_C X M) {S : sj_St} {cl sl : Nat} {L : List (Option Value)} {pc n : Nat} {rest : List Value} (q : Nat) (hq : pc + 2 = q) (hd : decode M.2.1 pc = .ok (.newarray .long, 2)) (hw : Cond.arrayClass .long ∈ sj_GT) (hn : n < 100000) (hfit : (Nat.ble (cl + 1) M.2.2.2.2.2.2.1 && Nat.ble (sl + n) M.2.2.2.2.2.2.2) = true) (kk : ∀ a : Nat, sj_kd S a = none → sj_G X (sj_nL S a n) (cl + 1) (sl + n) L q (.ref a :: rest)) : sj_G X S cl sl L pc (.int (nI n) :: rest) := by
  obtain ⟨p, l, e, R, s, m, args, below, meth, c, D, cy, A, nL, Q⟩ := X
  obtain ⟨ym, cc, nL0, ret, fr, lo, mc, ms⟩ := M
  obtain ⟨hx, hb, ⟨hml, hnL⟩, hown, hts, ⟨hlk, hret, hnm⟩, hK, hAm, hA, hRR⟩ := C
  subst hq
  subst hRR
  simp only [Bool.and_eq_true] at hfit
  intro H locs ls g1 g2 g3
  obtain ⟨ws, hP, hD, hWA⟩ := g1
  refine va_newa (atype := .long) hx hb (hts _ hw) (ty := .long) rfl hK hP hD g2 hA (N' := n) (a0 := (n, .inr (.inl (fun _ => 0)))) (fun cA => rfl) (nI_pos (by omega)) (nI_clamp (by omega)) (by show n * 8 ≤ 536870912; omega) (Nat.le_of_ble_eq_true hfit.1) (Nat.le_of_ble_eq_true hfit.2) hd (fun a cA H1 hK1 hP1 hD1 hS1 => ?_)
  have hcA := sj_cy3 hK hK1
  subst hcA
  refine kk a (sj_fresh hWA hD1) H1 locs ls ⟨_, hP1, hD1, ?_⟩ hS1 g3
  have he : sj_ce cy (sj_nL S a n) a 11 = .inl (cy 3, n, .inr (.inl (fun _ => 0))) := by
    show (Sum.inl (cy 3, sj_il (sj_nL S a n) a, Sum.inr (Sum.inl (sj_la (sj_nL S a n) a))) : va_E) = _
    rw [show sj_il (sj_nL S a n) a = n from sj_up_self _ _ _, show sj_la (sj_nL S a n) a = fun _ => 0 from sj_up_self _ _ _]
  rw [← he]
  exact sj_WA_new hWA rfl (fun b cj hba => sj_ce_other (S := S) (S' := sj_nL S a n) rfl rfl rfl (sj_up_ne _ _ hba) rfl rfl (sj_up_ne _ _ hba) cj)
theorem sq_xp_nL {P : Nat → Prop} {S : sj_St} {r n : Nat} (h : sj_kd S r = none) : sq_xp P S (sj_nL S r n) := fun b c hb => by
  have hbr : b ≠ r := fun e => by
    rw [e, h] at hb
    cases hb
  exact ⟨(sj_up_ne _ _ hbr).trans hb, fun _ => ⟨rfl, sj_up_ne _ _ hbr, rfl, rfl, rfl, rfl⟩⟩
theorem sj_ou_nL (S : sj_St) (a : Nat) : sj_ou (sj_nL S a 1) a := ⟨sj_up_self _ _ _, sj_up_self _ _ _⟩
/-- a call of a wrapper -/
def sj_Vw (own : String) (idx : Nat) (M : sj_M) (hh : List (Nat × Nat × Nat × Nat)) (n : Nat) : Prop := match M with
  | (y, cc, nL, ret, _, _, _, _) => Cond.methodLink own idx y ∈ sj_GT ∧ Cond.static y ∈ sj_GT ∧ Cond.initialized y.cls ∈ sj_GT ∧ Cond.codeWith y cc nL ret hh ∈ sj_GT ∧ (y.cls ≠ "java/lang/invoke/MethodHandle" ∧ y.cls ≠ "java/lang/invoke/VarHandle") ∧ (parseMethodDescriptor y.desc).map (fun d => d.parameters.length) = some n
theorem sj_goodW {own : String} {idx : Nat} (y : MethodName) (cc : ByteArray) (nL : Nat) (ret : Option FieldType) (hh : List (Nat × Nat × Nat × Nat)) (h1 : Cond.methodLink own idx y ∈ sj_GT) (h2 : Cond.static y ∈ sj_GT) (h3 : Cond.initialized y.cls ∈ sj_GT) (h : Cond.codeWith y cc nL ret hh ∈ sj_GT) : GoodIn sj_GT (va_wsS own idx y (.codeWith y cc nL ret hh :: sj_GT)) := by
  intro w hw
  unfold va_wsS at hw
  rcases List.mem_append.mp hw with h9 | h9
  · simp only [List.mem_cons, List.not_mem_nil, or_false] at h9
    rcases h9 with rfl | rfl | rfl
    · exact sj_GT_good _ h1
    · exact sj_GT_good _ h2
    · exact sj_GT_good _ h3
  · rcases List.mem_cons.mp h9 with rfl | h9
    · exact sj_GT_good _ h
    · exact sj_GT_good _ h9
/-- what catching wants of the machine -/
def sj_HN (X : sj_X) : Prop := match X with
  | (_, _, _, _, s, _, _, _, _, _, _, _, _, _, _) => sj_N3 s
theorem sj_callSW {X : sj_X} {M N : sj_M} (C : sj_C X M) (hN : sj_HN X) {hh : List (Nat × Nat × Nat × Nat)} {S : sj_St} {cl sl : Nat} {L : List (Option Value)} {pc idx n : Nat} {As st rest : List Value} {Post : Option Value → sj_St → Prop} (q : Nat) (hq : pc + 3 = q) (hd : decode M.2.1 pc = .ok (.invokestatic idx, 3)) (hV : sj_Vw M.1.cls idx N hh n) (hfit : sj_fit M N cl sl = true) (hM : sj_CtW X.2.1 N hh As S Post) (hst : st = As.reverse ++ rest) (hn : As.length = n) (hcat : Nat.ble (rest.map fun v => v.category).sum 8 = true) (kk : ∀ (v : Option Value) (S' : sj_St), Post v S' → sj_G X S' (cl + N.2.2.2.2.2.2.1) (sl + N.2.2.2.2.2.2.2) L q (v.toList ++ rest)) : sj_G X S cl sl L pc st := by
  have hF := sj_fit_of hfit
  obtain ⟨p, l, e, R, s, m, args, below, meth, c, D, cy, A, nL, Q⟩ := X
  obtain ⟨ym, cc, nL0, ret, fr, lo, mc, ms⟩ := M
  obtain ⟨hx, hb, ⟨hml, hnL⟩, hown, hts, ⟨hlk, hret, hnm⟩, hK, hAm, hA, hRR⟩ := C
  obtain ⟨y2, cc2, nL2, ret2, fr2, lo2, mc2, ms2⟩ := N
  subst hq
  subst hst
  obtain ⟨hlink, hstat, hini, hcode, hno, hpar⟩ := hV
  subst hRR
  intro H locs ls h1 h2 h3
  have hM1 := hM D cy A H.size (fun q h => hA q (Nat.le_trans h2.1 h))
  have hG := sj_goodW y2 cc2 nL2 ret2 hh hlink hstat hini hcode
  have hr := vx_runSX (R := { frames := fr, cells := mc, slots := ms, locals := lo }) (As := As) (rest := rest) (H := H) (locs := locs) (below := below) (e := e) (meth := meth) (g := F0 m pc ls (As.reverse ++ rest)) ⟨hx, hb, hml, hown, hts⟩ hM1 (vx_cwSW n hts hG rfl rfl rfl ⟨hno.1, hno.2, hpar⟩ ⟨hF.1, hF.2.1⟩) ⟨sj_blindW, fun U hU hW => ⟨rfl, sj_inOf hK hAm h2 h1 hU hW, sj_N3_moved hW.alike hN⟩⟩ rfl hn h3.1 rfl (lv_room (Nat.le_of_ble_eq_true hcat)) hd (cells := cl) (slots := sl) ⟨hF.2.2.1, hF.2.2.2⟩
  refine sj_goCall (D := D) (cy := cy) (A := A) (Post := Post) (a := As.toArray) (fun T hT X => ?_) h2 (fun v S' H1 locs1 hp hP1 hS1 => kk v S' hp H1 locs1 ls hP1 hS1 h3)
  rcases hr T hT X with h9 | ⟨q, st₀, t, T', L9, E9, ce, e0, X', hL, e1, e2, hf, -⟩
  · exact h9
  · exact hf.elim
theorem sq_lcmp (x : Int64) : lg_cmp x x = 0 := by
  unfold lg_cmp
  simp
/-- the law's own end -/
def sj_RL (X : sj_X) (b : Nat) : Prop := match X with
  | (_, _, _, R, s, _, args, below, meth, _, _, _, A, _, Q) => R = room_1 ∧ args = #[Value.ref b] ∧ Q = lw_Z below #[Value.ref b] s ∧ meth.locks = false ∧ meth.sig.returnType = ret ∧ ∀ q, A q → s.heap.size ≤ q
theorem sj_lret_law {X : sj_X} {nm : String} (C : sj_C X (mL_law nm)) {b : Nat} (hR : sj_RL X b) {S : sj_St} {cl sl : Nat} {L : List (Option Value)} {pc : Nat} (hc : cl ≤ 601024) (hs : sl ≤ 7293034) (hd : decode cL_law pc = .ok (.ireturn, 1)) : sj_G X S cl sl L pc [.int 1] := by
  obtain ⟨p, l, e, R, s, m, args, below, meth, c, D, cy, A, nL, Q⟩ := X
  obtain ⟨hx, hb, ⟨hml, hnL⟩, hown, hts, ⟨hlk, hret, hnm⟩, hK, hAm, hA, hRR⟩ := C
  obtain ⟨rfl, rfl, rfl, hlk2, hret2, hAA⟩ := hR
  intro H locs ls h1 h2 h3
  refine va_forget (fun q hq => hAA _ (h2.2.2 q hq)) ?_
  refine W.widen (k := 601024) (n := 7293034) hc hs ?_
  refine W.base ?_
  exact lw_ret (Drawn.sameBut.refl s.drawn lw_cs) hx hb hret2 hlk2 hd
