/-! THINGS THAT ARE MADE -/
/-- a new object; a new row of numbers; a new row of references -/
def sj_nO (S : sj_St) (a ci : Nat) : sj_St := (sj_up S.1 a (some ci), sj_up S.2.1 a (fun _ => none), S.2.2.1, sj_up S.2.2.2.1 a (fun _ => 0), S.2.2.2.2.1, S.2.2.2.2.2.1, sj_up S.2.2.2.2.2.2.1 a 0, S.2.2.2.2.2.2.2)
def sj_nA (S : sj_St) (a n : Nat) : sj_St := (sj_up S.1 a (some 8), S.2.1, sj_up S.2.2.1 a n, S.2.2.2.1, sj_up S.2.2.2.2.1 a (fun _ => 0), S.2.2.2.2.2)
def sj_nR (S : sj_St) (a ci n : Nat) : sj_St := (sj_up S.1 a (some ci), S.2.1, sj_up S.2.2.1 a n, S.2.2.2.1, S.2.2.2.2.1, sj_up S.2.2.2.2.2.1 a (fun _ => none), S.2.2.2.2.2.2)
theorem sj_fs_nO (S : sj_St) (a ci : Nat) : ∀ (l : List Nat) (j : Nat), sj_fs (sj_nO S a ci) a j l = sj_df l
  | [], _ => rfl
  | t :: ts, j => by
    show sj_fv (sj_nO S a ci) a j t :: sj_fs (sj_nO S a ci) a (j + 1) ts = _ :: sj_df ts
    rw [sj_fs_nO S a ci ts (j + 1)]
    refine congrArg (· :: sj_df ts) ?_
    match t with
    | 0 => exact congrArg (fun f => Value.int (f j)) (sj_up_self (sj_fi S) a (fun _ => 0))
    | 1 => exact congrArg (fun f => va_rf (f j)) (sj_up_self (sj_rf S) a (fun _ => none))
    | _ + 2 => exact congrArg Value.long (sj_up_self (sj_fl S) a 0)
/-- a cell is made: the world -/
theorem sj_WA_new {cy : Nat → ClassId} {S S' : sj_St} {ws : va_W} {a ci : Nat} (h : sj_WA cy S ws) (hkd : sj_kd S' = sj_up (sj_kd S) a (some ci)) (hs : ∀ b cj, b ≠ a → sj_ce cy S' b cj = sj_ce cy S b cj) : sj_WA cy S' (ws ++ [(a, sj_ce cy S' a ci)]) := by
  intro b cj hb
  rw [hkd] at hb
  by_cases hba : b = a
  · subst hba
    rw [sj_up_self] at hb
    cases hb
    exact ⟨ws.length, by rw [List.getElem?_append_right (Nat.le_refl _), Nat.sub_self]; rfl⟩
  · rw [sj_up_ne _ _ hba] at hb
    obtain ⟨q1, h1⟩ := h b cj hb
    have hlt : q1 < ws.length := (List.getElem?_eq_some_iff.mp h1).1
    exact ⟨q1, by rw [List.getElem?_append_left hlt, h1, hs b cj hba]⟩
theorem sj_fresh {cy : Nat → ClassId} {A : Nat → Prop} {S : sj_St} {ws : va_W} {a : Nat} {e : va_E} (h : sj_WA cy S ws) (hD : va_D A (ws ++ [(a, e)])) : sj_kd S a = none := by
  cases hk : sj_kd S a with
  | none => rfl
  | some c =>
    obtain ⟨q1, h1⟩ := h a c hk
    have hlt : q1 < ws.length := (List.getElem?_eq_some_iff.mp h1).1
    have h2 : (ws ++ [(a, e)])[q1]? = some (a, sj_ce cy S a c) := by rw [List.getElem?_append_left hlt, h1]
    have h3 : (ws ++ [(a, e)])[ws.length]? = some (a, e) := by rw [List.getElem?_append_right (Nat.le_refl _), Nat.sub_self]; rfl
    have := hD.1 q1 ws.length _ _ h2 h3 rfl
    omega
theorem sj_new {X : sj_X} {M : sj_M} (C : sj_C X M) {S : sj_St} {cl sl : Nat} {L : List (Option Value)} {pc idx ci N : Nat} {Cn : String} {T : u_T} {ty0 : Nat → FieldType} {rest : List Value} (q : Nat) (hq : pc + 3 = q) (hk : sj_K ci Cn T N ty0) (hd : decode M.2.1 pc = .ok (.new idx, 3)) (hw : Cond.classLink M.1.cls idx Cn ∈ sj_GT ∧ Cond.instantiable Cn N ∈ sj_GT ∧ Cond.initialized Cn ∈ sj_GT) (hfit : (Nat.ble (cl + 1) M.2.2.2.2.2.2.1 && Nat.ble (sl + N) M.2.2.2.2.2.2.2) = true) (kk : ∀ a : Nat, sj_kd S a = none → sj_G X (sj_nO S a ci) (cl + 1) (sl + N) L q (.ref a :: rest)) : sj_G X S cl sl L pc rest := by
  obtain ⟨p, l, e, R, s, m, args, below, meth, c, D, cy, A, nL, Q⟩ := X
  obtain ⟨ym, cc, nL0, ret, fr, lo, mc, ms⟩ := M
  obtain ⟨hx, hb, ⟨hml, hnL⟩, hown, hts, ⟨hlk, hret, hnm⟩, hK, hAm, hA, hRR⟩ := C
  obtain ⟨hc, hlen, h8, hin, hty, hnm9, hdf⟩ := hk
  subst hq
  subst hRR
  simp only [Bool.and_eq_true] at hfit
  intro H locs ls g1 g2 g3
  obtain ⟨ws, hP, hD, hWA⟩ := g1
  refine va_new hx hb hts hin ty0 hty hown (hts _ hw.1) (hts _ hw.2.1) (hts _ hw.2.2) hK hP hD g2 hA hc (fs := sj_df (sj_tyl ci)) hdf (Nat.le_of_ble_eq_true hfit.1) (Nat.le_of_ble_eq_true hfit.2) hd (fun a H1 hP1 hD1 hS1 => ?_)
  refine kk a (sj_fresh hWA hD1) H1 locs ls ⟨_, hP1, hD1, ?_⟩ hS1 g3
  have he : sj_ce cy (sj_nO S a ci) a ci = .inr (ci, sj_df (sj_tyl ci)) := by rw [sj_ce_obj cy _ _ h8, sj_fs_nO]
  rw [← he]
  exact sj_WA_new hWA rfl (fun b cj hba => sj_ce_other (S := S) (S' := sj_nO S a ci) (sj_up_ne _ _ hba) (sj_up_ne _ _ hba) (sj_up_ne _ _ hba) rfl rfl rfl rfl cj)
theorem sj_cy0 {D : va_G} {cy : Nat → ClassId} {s : State} {cA : ClassId} (h1 : va_K D vwCl (sj_tys cy) s) (h2 : va_K D vwCl (sj_tys cy ++ [(cA, .int)]) s) : cA = cy 0 := by
  have a1 := (h1.2 0 (cy 0, .int) rfl).2
  have a2 := (h2.2 3 (cA, .int) rfl).2
  exact Option.some.inj (Eq.trans (Eq.symm a2) a1)
theorem sj_newa {X : sj_X} {M : sj_M} (C : sj_C X M) {S : sj_St} {cl sl : Nat} {L : List (Option Value)} {pc n : Nat} {rest : List Value} (q : Nat) (hq : pc + 2 = q) (hd : decode M.2.1 pc = .ok (.newarray .int, 2)) (hw : Cond.arrayClass .int ∈ sj_GT) (hn : n < 100000) (hfit : (Nat.ble (cl + 1) M.2.2.2.2.2.2.1 && Nat.ble (sl + n) M.2.2.2.2.2.2.2) = true) (kk : ∀ a : Nat, sj_kd S a = none → sj_G X (sj_nA S a n) (cl + 1) (sl + n) L q (.ref a :: rest)) : sj_G X S cl sl L pc (.int (nI n) :: rest) := by
  obtain ⟨p, l, e, R, s, m, args, below, meth, c, D, cy, A, nL, Q⟩ := X
  obtain ⟨ym, cc, nL0, ret, fr, lo, mc, ms⟩ := M
  obtain ⟨hx, hb, ⟨hml, hnL⟩, hown, hts, ⟨hlk, hret, hnm⟩, hK, hAm, hA, hRR⟩ := C
  subst hq
  subst hRR
  simp only [Bool.and_eq_true] at hfit
  intro H locs ls g1 g2 g3
  obtain ⟨ws, hP, hD, hWA⟩ := g1
  refine va_newa (atype := .int) hx hb (hts _ hw) (ty := .int) rfl hK hP hD g2 hA (N' := n) (a0 := (n, .inl (fun _ => 0))) (fun cA => rfl) (nI_pos (by omega)) (nI_clamp (by omega)) (by show n * 4 ≤ 536870912; omega) (Nat.le_of_ble_eq_true hfit.1) (Nat.le_of_ble_eq_true hfit.2) hd (fun a cA H1 hK1 hP1 hD1 hS1 => ?_)
  have hcA := sj_cy0 hK hK1
  subst hcA
  refine kk a (sj_fresh hWA hD1) H1 locs ls ⟨_, hP1, hD1, ?_⟩ hS1 g3
  have he : sj_ce cy (sj_nA S a n) a 8 = .inl (cy 0, n, .inl (fun _ => 0)) := by
    show (Sum.inl (cy 0, sj_il (sj_nA S a n) a, Sum.inl (sj_ia (sj_nA S a n) a)) : va_E) = _
    rw [show sj_il (sj_nA S a n) a = n from sj_up_self _ _ _, show sj_ia (sj_nA S a n) a = fun _ => 0 from sj_up_self _ _ _]
  rw [← he]
  exact sj_WA_new hWA rfl (fun b cj hba => sj_ce_other (S := S) (S' := sj_nA S a n) rfl rfl rfl (sj_up_ne _ _ hba) (sj_up_ne _ _ hba) rfl rfl cj)
theorem sj_cyq {D : va_G} {cy : Nat → ClassId} {s : State} {cA : ClassId} {C : String} {k : Nat} (hk : (sj_tys cy)[k]? = some (cy k, .object C)) (h1 : va_K D vwCl (sj_tys cy) s) (h2 : va_K D vwCl (sj_tys cy ++ [(cA, .object C)]) s) : cA = cy k := by
  obtain ⟨_, _, _, _, _, a1⟩ := (h1.2 k (cy k, .object C) hk).2
  obtain ⟨_, _, _, _, _, a2⟩ := (h2.2 3 (cA, .object C) rfl).2
  exact Option.some.inj (Eq.trans (Eq.symm a2) a1)
def sj_ty9 : Nat → String
  | 9 => "SlantOaths$Sheet"
  | _ => "SlantOaths$Table"
theorem sj_newq {X : sj_X} {M : sj_M} (C : sj_C X M) {S : sj_St} {cl sl : Nat} {L : List (Option Value)} {pc n idx ci : Nat} {rest : List Value} (q : Nat) (hq : pc + 3 = q) (hci : ci = 9 ∨ ci = 10) (hd : decode M.2.1 pc = .ok (.anewarray idx, 3)) (hw : Cond.classLink M.1.cls idx (sj_ty9 ci) ∈ sj_GT) (hn : n < 100000) (hfit : (Nat.ble (cl + 1) M.2.2.2.2.2.2.1 && Nat.ble (sl + n) M.2.2.2.2.2.2.2) = true) (kk : ∀ a : Nat, sj_kd S a = none → sj_G X (sj_nR S a ci n) (cl + 1) (sl + n) L q (.ref a :: rest)) : sj_G X S cl sl L pc (.int (nI n) :: rest) := by
  obtain ⟨p, l, e, R, s, m, args, below, meth, c, D, cy, A, nL, Q⟩ := X
  obtain ⟨ym, cc, nL0, ret, fr, lo, mc, ms⟩ := M
  obtain ⟨hx, hb, ⟨hml, hnL⟩, hown, hts, ⟨hlk, hret, hnm⟩, hK, hAm, hA, hRR⟩ := C
  subst hq
  subst hRR
  simp only [Bool.and_eq_true] at hfit
  intro H locs ls g1 g2 g3
  obtain ⟨ws, hP, hD, hWA⟩ := g1
  have hover : va_AO (sj_ty9 ci) s := by
    rcases hci with rfl | rfl
    · exact hAm.2.2.2.1.1
    · exact hAm.2.2.2.1.2
  refine va_newq hx hb hown (hts _ hw) hover hK hP hD g2 hA (N' := n) (nI_pos (by omega)) (nI_clamp (by omega)) (by omega) (Nat.le_of_ble_eq_true hfit.1) (Nat.le_of_ble_eq_true hfit.2) hd (fun a cA H1 hK1 hP1 hD1 hS1 => ?_)
  have he : (Sum.inl (cA, n, .inr (.inr (.inr (.inr (fun _ => none))))) : va_E) = sj_ce cy (sj_nR S a ci n) a ci := by
    rcases hci with rfl | rfl
    · have hcA := sj_cyq (k := 1) rfl hK hK1
      subst hcA
      show _ = (Sum.inl (cy 1, sj_il (sj_nR S a 9 n) a, .inr (.inr (.inr (.inr (sj_ra (sj_nR S a 9 n) a))))) : va_E)
      rw [show sj_il (sj_nR S a 9 n) a = n from sj_up_self _ _ _, show sj_ra (sj_nR S a 9 n) a = fun _ => none from sj_up_self _ _ _]
    · have hcA := sj_cyq (k := 2) rfl hK hK1
      subst hcA
      show _ = (Sum.inl (cy 2, sj_il (sj_nR S a 10 n) a, .inr (.inr (.inr (.inr (sj_ra (sj_nR S a 10 n) a))))) : va_E)
      rw [show sj_il (sj_nR S a 10 n) a = n from sj_up_self _ _ _, show sj_ra (sj_nR S a 10 n) a = fun _ => none from sj_up_self _ _ _]
  rw [he] at hP1 hD1
  refine kk a (sj_fresh hWA hD1) H1 locs ls ⟨_, hP1, hD1, ?_⟩ hS1 g3
  exact sj_WA_new hWA rfl (fun b cj hba => sj_ce_other (S := S) (S' := sj_nR S a ci n) rfl rfl rfl (sj_up_ne _ _ hba) rfl (sj_up_ne _ _ hba) rfl cj)
theorem sj_objI {X : sj_X} {M : sj_M} (C : sj_C X M) {S : sj_St} {cl sl : Nat} {L : List (Option Value)} {pc idx a : Nat} (q : Nat) (hq : pc + 3 = q) (hd : decode M.2.1 pc = .ok (.invokespecial idx, 3)) (hw : Cond.methodLink M.1.cls idx Lib.objectInit ∈ sj_GT) (hroom : (Nat.ble 1 M.2.2.2.2.1 && Nat.ble 12 M.2.2.2.2.2.1) = true) (kk : sj_G X S cl sl L q []) : sj_G X S cl sl L pc [.ref a] := by
  obtain ⟨p, l, e, R, s, m, args, below, meth, c, D, cy, A, nL, Q⟩ := X
  obtain ⟨ym, cc, nL0, ret, fr, lo, mc, ms⟩ := M
  obtain ⟨hx, hb, ⟨hml, hnL⟩, hown, hts, ⟨hlk, hret, hnm⟩, hK, hAm, hA, hRR⟩ := C
  subst hq
  subst hRR
  simp only [Bool.and_eq_true] at hroom
  intro H locs ls g1 g2 g3
  refine W.objInit hx hb hown (hts _ hw) (hts (.instanceMethod Lib.objectInit) (wr_1 _ (List.mem_of_getElem? (i := 8) (by decide +kernel)))) (hts (.code Lib.objectInit ⟨#[0xb1]⟩ 1 none) (wr_1 _ (List.mem_of_getElem? (i := 9) (by decide +kernel)))) rfl (by show ls.size = c.maxLocals; rw [hml]; exact g3.1) rfl hd (Nat.le_of_ble_eq_true hroom.1) (Nat.le_of_ble_eq_true hroom.2) ?_
  exact kk H locs ls g1 g2 g3
theorem sj_aload_n0 {X : sj_X} {M : sj_M} (C : sj_C X M) {S : sj_St} {cl sl : Nat} {L : List (Option Value)} {pc : Nat} {rest : List Value} {k : Fin 4} {i : Nat} (q : Nat) (hq : pc + 1 = q) (hd : decode M.2.1 pc = .ok (.aload_n k, 1)) (hi : (k : Nat) = i) (hl : L[i]? = some (some .null)) (kk : sj_G X S cl sl L q (.null :: rest)) : sj_G X S cl sl L pc rest := by
  obtain ⟨p, l, e, R, s, m, args, below, meth, c, D, cy, A, nL, Q⟩ := X
  obtain ⟨ym, cc, nL0, ret, fr, lo, mc, ms⟩ := M
  obtain ⟨hx, hb, ⟨hml, hnL⟩, hown, hts, ⟨hlk, hret, hnm⟩, hK, hAm, hA, hRR⟩ := C
  subst hq
  intro H locs ls h1 h2 h3
  have h4 : ls[i]? = some (.val .null) := by
    have h5 := h3.2.2 _ (sj_lv_mem L 0 i _ hl)
    simpa using h5
  exact lv_aload_nN hx hb hd hi h4 (kk H locs ls h1 h2 h3)
