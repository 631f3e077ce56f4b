def sj_Vi (own : String) (idx : Nat) (M : sj_M) (n : Nat) : Prop := match M with
  | (y, cc, nL, ret, _, _, _, _) => Cond.methodLink own idx y ∈ sj_GT ∧ Cond.instanceMethod y ∈ sj_GT ∧ Cond.initialized y.cls ∈ sj_GT ∧ Cond.code y cc nL ret ∈ sj_GT ∧ (y.cls ≠ "java/lang/invoke/MethodHandle" ∧ y.cls ≠ "java/lang/invoke/VarHandle") ∧ (parseMethodDescriptor y.desc).map (fun d => d.parameters.length) = some n
def sj_Vin (own : String) (idx : Nat) (M : sj_M) (n : Nat) : Prop := match M with
  | (y, cc, nL, ret, _, _, _, _) => Cond.methodLinkNest own idx y "SlantOaths" ∈ sj_NWl ∧ Cond.instanceMethod y ∈ sj_GT ∧ Cond.initialized y.cls ∈ sj_GT ∧ Cond.code y cc nL ret ∈ sj_GT ∧ (y.cls ≠ "java/lang/invoke/MethodHandle" ∧ y.cls ≠ "java/lang/invoke/VarHandle") ∧ (parseMethodDescriptor y.desc).map (fun d => d.parameters.length) = some n
-- ===== fields =====
def sj_df : List Nat → List Value := List.map (fun t => match t with | 0 => .int 0 | 1 => .null | _ => .long 0)
/-- what the tables say of a kind -/
def sj_K (ci : Nat) (C : String) (T : u_T) (N : Nat) (ty0 : Nat → FieldType) : Prop := vwCl[ci]? = some (C, T, N) ∧ (sj_tyl ci).length = N ∧ ci < 8 ∧ (∀ w ∈ u_ws C T N, w ∈ sj_GT) ∧ (∀ k, k < N → parseFieldDescriptor (T k).2.2.1 = some (ty0 k)) ∧ (∀ a, a < N → ∀ b, b < N → a ≠ b → (T a).2.1 ≠ (T b).2.1) ∧ (∀ j, j < N → defaultValue (ty0 j) = vp_V (sj_df (sj_tyl ci)) j)
def sj_L (own : String) (idx : Nat) (T : u_T) (k : Nat) : Prop := Cond.fieldLink own idx (T k).1 (T k).2.1 (T k).2.2.1 ∈ sj_GT ∨ Cond.fieldLinkNest own idx (T k).1 (T k).2.1 (T k).2.2.1 "SlantOaths" ∈ sj_NWl
/-- entry idx of own's table is field k of kind ci, of type ft (t: its sort); fin: whether it is final -/
def sj_Fd (own : String) (idx ci k t : Nat) (ft : FieldType) (fin : Bool) : Prop := ∃ (C : String) (T : u_T) (N : Nat) (ty0 : Nat → FieldType), sj_K ci C T N ty0 ∧ sj_L own idx T k ∧ k < N ∧ (sj_tyl ci)[k]? = some t ∧ ty0 k = ft ∧ (T k).2.2.2 = fin ∧ (T k).1 = C
theorem sj_kd_of {D : va_G} {cy : Nat → ClassId} {A : Nat → Prop} {S : sj_St} {H : Heap} {s : State} {a ci : Nat} {r : vw_C} (hK : va_K D vwCl (sj_tys cy) s) (h : sj_HP D cy A S H) (ha : sj_kd S a = some ci) (hc : vwCl[ci]? = some r) (h8 : ci < 8) : ∃ cell : Cell, H[a]? = some cell ∧ cell.vm.isStatics = false ∧ s.vm.findClass r.1 = some cell.cls := by
  obtain ⟨ws, hP, hD, hW⟩ := h
  obtain ⟨q0, hq0⟩ := hW a ci ha
  rw [sj_ce_obj _ _ _ h8] at hq0
  exact va_recv hK hP hc hq0
theorem sj_fv0 (S : sj_St) (a k : Nat) : sj_fv S a (0 + k) 0 = .int (sj_fi S a k) := by rw [Nat.zero_add]; rfl
theorem sj_fv1 (S : sj_St) (a k : Nat) : sj_fv S a (0 + k) 1 = va_rf (sj_rf S a k) := by rw [Nat.zero_add]; rfl
theorem sj_fv2 (S : sj_St) (a k : Nat) : sj_fv S a (0 + k) 2 = .long (sj_fl S a) := rfl
theorem sj_getI {X : sj_X} {M : sj_M} (C : sj_C X M) {S : sj_St} {cl sl : Nat} {L : List (Option Value)} {pc : Nat} {rest : List Value} {a ci k idx : Nat} {ft : FieldType} {fin : Bool} (q : Nat) (hq : pc + 3 = q) (hf : sj_Fd M.1.cls idx ci k 0 ft fin) (hd : decode M.2.1 pc = .ok (.getfield idx, 3)) (ha : sj_kd S a = some ci) (kk : sj_G X S cl sl L q (.int (sj_fi S a k) :: rest)) : sj_G X S cl sl L pc (.ref a :: rest) := by
  obtain ⟨p, l, e, R, s, m, args, below, meth, c, D, cy, A, nL, Q⟩ := X
  obtain ⟨ym, cc, nL0, ret, fr, lo, mc, ms⟩ := M
  obtain ⟨hx, hb, ⟨hml, hnL⟩, hown, hts, ⟨hlk, hret, hnm⟩, hK, hAm, hA, hRR⟩ := C
  subst hq
  obtain ⟨C0, T, N, ty0, ⟨hc, hlen, h8, hin, hty, hnm2, hdf⟩, hl, hk, ht, hft, hfin, hdecl⟩ := hf
  intro H locs ls h1 h2 h3
  have h1' := h1
  obtain ⟨ws, hP, hD, hWA⟩ := h1'
  obtain ⟨q0, hq0⟩ := hWA a ci ha
  rw [sj_ce_obj _ _ _ h8] at hq0
  have hv := sj_fs_get S a (sj_tyl ci) 0 k 0 ht
  rw [sj_fv0] at hv
  rcases hl with hl | hl
  · exact va_get hx hb hts hin hown hK hP q0 hq0 hc k hk (hts _ hl) (fun _ h => h) hv hd (kk H locs ls h1 h2 h3)
  · exact va_getN hx hb hts hin hown hK hP q0 hq0 hc k hk ((hAm.1 _ hl).use rfl) (fun _ h => h) hv hd (kk H locs ls h1 h2 h3)
theorem sj_getR {X : sj_X} {M : sj_M} (C : sj_C X M) {S : sj_St} {cl sl : Nat} {L : List (Option Value)} {pc : Nat} {rest : List Value} {a ci k idx : Nat} {ft : FieldType} {fin : Bool} (q : Nat) (hq : pc + 3 = q) (hf : sj_Fd M.1.cls idx ci k 1 ft fin) (hd : decode M.2.1 pc = .ok (.getfield idx, 3)) (ha : sj_kd S a = some ci) (kk : sj_G X S cl sl L q (va_rf (sj_rf S a k) :: rest)) : sj_G X S cl sl L pc (.ref a :: rest) := by
  obtain ⟨p, l, e, R, s, m, args, below, meth, c, D, cy, A, nL, Q⟩ := X
  obtain ⟨ym, cc, nL0, ret, fr, lo, mc, ms⟩ := M
  obtain ⟨hx, hb, ⟨hml, hnL⟩, hown, hts, ⟨hlk, hret, hnm⟩, hK, hAm, hA, hRR⟩ := C
  subst hq
  obtain ⟨C0, T, N, ty0, ⟨hc, hlen, h8, hin, hty, hnm2, hdf⟩, hl, hk, ht, hft, hfin, hdecl⟩ := hf
  intro H locs ls h1 h2 h3
  have h1' := h1
  obtain ⟨ws, hP, hD, hWA⟩ := h1'
  obtain ⟨q0, hq0⟩ := hWA a ci ha
  rw [sj_ce_obj _ _ _ h8] at hq0
  have hv := sj_fs_get S a (sj_tyl ci) 0 k 1 ht
  rw [sj_fv1] at hv
  rcases hl with hl | hl
  · exact va_get hx hb hts hin hown hK hP q0 hq0 hc k hk (hts _ hl) (fun _ h => h) hv hd (kk H locs ls h1 h2 h3)
  · exact va_getN hx hb hts hin hown hK hP q0 hq0 hc k hk ((hAm.1 _ hl).use rfl) (fun _ h => h) hv hd (kk H locs ls h1 h2 h3)
theorem sj_getJ {X : sj_X} {M : sj_M} (C : sj_C X M) {S : sj_St} {cl sl : Nat} {L : List (Option Value)} {pc : Nat} {rest : List Value} {a ci k idx : Nat} {ft : FieldType} {fin : Bool} (q : Nat) (hq : pc + 3 = q) (hf : sj_Fd M.1.cls idx ci k 2 ft fin) (hd : decode M.2.1 pc = .ok (.getfield idx, 3)) (ha : sj_kd S a = some ci) (kk : sj_G X S cl sl L q (.long (sj_fl S a) :: rest)) : sj_G X S cl sl L pc (.ref a :: rest) := by
  obtain ⟨p, l, e, R, s, m, args, below, meth, c, D, cy, A, nL, Q⟩ := X
  obtain ⟨ym, cc, nL0, ret, fr, lo, mc, ms⟩ := M
  obtain ⟨hx, hb, ⟨hml, hnL⟩, hown, hts, ⟨hlk, hret, hnm⟩, hK, hAm, hA, hRR⟩ := C
  subst hq
  obtain ⟨C0, T, N, ty0, ⟨hc, hlen, h8, hin, hty, hnm2, hdf⟩, hl, hk, ht, hft, hfin, hdecl⟩ := hf
  intro H locs ls h1 h2 h3
  have h1' := h1
  obtain ⟨ws, hP, hD, hWA⟩ := h1'
  obtain ⟨q0, hq0⟩ := hWA a ci ha
  rw [sj_ce_obj _ _ _ h8] at hq0
  have hv := sj_fs_get S a (sj_tyl ci) 0 k 2 ht
  rw [sj_fv2] at hv
  rcases hl with hl | hl
  · exact va_get hx hb hts hin hown hK hP q0 hq0 hc k hk (hts _ hl) (fun _ h => h) hv hd (kk H locs ls h1 h2 h3)
  · exact va_getN hx hb hts hin hown hK hP q0 hq0 hc k hk ((hAm.1 _ hl).use rfl) (fun _ h => h) hv hd (kk H locs ls h1 h2 h3)
theorem sj_getr {X : sj_X} {M : sj_M} (C : sj_C X M) {S : sj_St} {cl sl : Nat} {L : List (Option Value)} {pc : Nat} {rest : List Value} {a b ci k idx : Nat} {ft : FieldType} {fin : Bool} (q : Nat) (hq : pc + 3 = q) (hf : sj_Fd M.1.cls idx ci k 1 ft fin) (hd : decode M.2.1 pc = .ok (.getfield idx, 3)) (ha : sj_kd S a = some ci) (hb : sj_rf S a k = some b) (kk : sj_G X S cl sl L q (.ref b :: rest)) : sj_G X S cl sl L pc (.ref a :: rest) :=
  sj_getR C q hq hf hd ha (by rw [hb]; exact kk)
theorem sj_fs_other {S S' : sj_St} {b : Nat} (h1 : ∀ j, sj_fi S' b j = sj_fi S b j) (h2 : ∀ j, sj_rf S' b j = sj_rf S b j) (h3 : sj_fl S' b = sj_fl S b) (l : List Nat) (j : Nat) : sj_fs S' b j l = sj_fs S b j l := by
  refine sj_fs_congr l j (fun i t _ => ?_)
  match t with
  | 0 => exact congrArg Value.int (h1 _)
  | 1 => exact congrArg va_rf (h2 _)
  | _ + 2 => exact congrArg Value.long h3
theorem sj_ce_other {cy : Nat → ClassId} {S S' : sj_St} {b : Nat} (h1 : sj_fi S' b = sj_fi S b) (h2 : sj_rf S' b = sj_rf S b) (h3 : sj_fl S' b = sj_fl S b) (h4 : sj_il S' b = sj_il S b) (h5 : sj_ia S' b = sj_ia S b) (h6 : sj_ra S' b = sj_ra S b) (h7 : sj_la S' b = sj_la S b) (cj : Nat) : sj_ce cy S' b cj = sj_ce cy S b cj := by
  have h0 : ∀ l j, sj_fs S' b j l = sj_fs S b j l := sj_fs_other (fun j => by rw [h1]) (fun j => by rw [h2]) h3
  unfold sj_ce
  split <;> simp only [h4, h5, h6, h7, h0]
theorem sj_putI {X : sj_X} {M : sj_M} (C : sj_C X M) {S : sj_St} {cl sl : Nat} {L : List (Option Value)} {pc : Nat} {rest : List Value} {a ci k idx : Nat} {ft : FieldType} {v : Int32} (q : Nat) (hq : pc + 3 = q) (hf : sj_Fd M.1.cls idx ci k 0 ft false) (hd : decode M.2.1 pc = .ok (.putfield idx, 3)) (hn : narrow ft (.int v) = .int v) (hfit : fits ft (.int v) = true) (ha : sj_kd S a = some ci) (kk : sj_G X (sj_wFi S a k v) cl sl L q rest) : sj_G X S cl sl L pc (.int v :: .ref a :: rest) := by
  obtain ⟨p, l, e, R, s, m, args, below, meth, c, D, cy, A, nL, Q⟩ := X
  obtain ⟨ym, cc, nL0, ret, fr, lo, mc, ms⟩ := M
  obtain ⟨hx, hb, ⟨hml, hnL⟩, hown, hts, ⟨hlk, hret, hnm⟩, hK, hAm, hA, hRR⟩ := C
  subst hq
  obtain ⟨C0, T, N, ty0, ⟨hc, hlen, h8, hin, hty, hnm2, hdf⟩, hl, hk, ht, hft, hfin, hdecl⟩ := hf
  subst hft
  intro H locs ls h1 h2 h3
  obtain ⟨ws, hP, hD, hWA⟩ := h1
  obtain ⟨q0, hq0⟩ := hWA a ci ha
  rw [sj_ce_obj _ _ _ h8] at hq0
  have hlt : k < (sj_tyl ci).length := by rw [hlen]; exact hk
  have hset : (sj_fs S a 0 (sj_tyl ci)).set k (.int v) = sj_fs (sj_wFi S a k v) a 0 (sj_tyl ci) := by
    refine sj_fs_set (sj_tyl ci) 0 k _ hlt (fun t h => ?_) (fun i t h hne => ?_)
    · cases ht.symm.trans h
      rw [sj_fv0]
      show Value.int (sj_up (sj_fi S) a (sj_up (sj_fi S a) k v) a k) = _
      rw [sj_up_self, sj_up_self]
    · rw [Nat.zero_add]
      match t with
      | 0 =>
        show Value.int (sj_up (sj_fi S) a (sj_up (sj_fi S a) k v) a i) = Value.int (sj_fi S a i)
        rw [sj_up_self, sj_up_ne _ _ hne]
      | 1 => rfl
      | _ + 2 => rfl
  have hWA' : sj_WA cy (sj_wFi S a k v) (ws.set q0 (a, .inr (ci, (sj_fs S a 0 (sj_tyl ci)).set k (.int v)))) := by
    rw [hset, ← sj_ce_obj cy _ _ h8]
    exact sj_WA_set hWA rfl hq0 ha (fun b cj hb => sj_ce_other (S := S) (S' := sj_wFi S a k v) (sj_up_ne _ _ hb) rfl rfl rfl rfl rfl rfl cj)
  rcases hl with hl | hl
  · exact va_put hx hb hts hin ty0 hty hnm2 hown hK hP hD h2 q0 hq0 hc k hk (hts _ hl) (fun _ h => h) hfin (hty k hk) hn hfit (by rw [sj_fs_len]; exact hlt) hd (fun H1 locs1 hP1 hD1 hS1 => kk H1 locs1 ls ⟨_, hP1, hD1, hWA'⟩ hS1 h3)
  · exact va_putN hx hb hts hin ty0 hty hnm2 hown hK hP hD h2 q0 hq0 hc k hk ((hAm.1 _ hl).use rfl) (fun _ h => h) hfin (hty k hk) hn hfit (by rw [sj_fs_len]; exact hlt) hd (fun H1 locs1 hP1 hD1 hS1 => kk H1 locs1 ls ⟨_, hP1, hD1, hWA'⟩ hS1 h3)
theorem sj_putJ {X : sj_X} {M : sj_M} (C : sj_C X M) {S : sj_St} {cl sl : Nat} {L : List (Option Value)} {pc : Nat} {rest : List Value} {a ci k idx : Nat} {ft : FieldType} {v : Int64} (q : Nat) (hq : pc + 3 = q) (hf : sj_Fd M.1.cls idx ci k 2 ft false) (hd : decode M.2.1 pc = .ok (.putfield idx, 3)) (hn : narrow ft (.long v) = .long v) (hfit : fits ft (.long v) = true) (h1only : ∀ i t, (sj_tyl ci)[i]? = some t → i ≠ k → t < 2) (ha : sj_kd S a = some ci) (kk : sj_G X (sj_wFl S a v) cl sl L q rest) : sj_G X S cl sl L pc (.long v :: .ref a :: rest) := by
  obtain ⟨p, l, e, R, s, m, args, below, meth, c, D, cy, A, nL, Q⟩ := X
  obtain ⟨ym, cc, nL0, ret, fr, lo, mc, ms⟩ := M
  obtain ⟨hx, hb, ⟨hml, hnL⟩, hown, hts, ⟨hlk, hret, hnm⟩, hK, hAm, hA, hRR⟩ := C
  subst hq
  obtain ⟨C0, T, N, ty0, ⟨hc, hlen, h8, hin, hty, hnm2, hdf⟩, hl, hk, ht, hft, hfin, hdecl⟩ := hf
  subst hft
  intro H locs ls h1 h2 h3
  obtain ⟨ws, hP, hD, hWA⟩ := h1
  obtain ⟨q0, hq0⟩ := hWA a ci ha
  rw [sj_ce_obj _ _ _ h8] at hq0
  have hlt : k < (sj_tyl ci).length := by rw [hlen]; exact hk
  have hset : (sj_fs S a 0 (sj_tyl ci)).set k (.long v) = sj_fs (sj_wFl S a v) a 0 (sj_tyl ci) := by
    refine sj_fs_set (sj_tyl ci) 0 k _ hlt (fun t h => ?_) (fun i t h hne => ?_)
    · cases ht.symm.trans h
      show Value.long (sj_up (sj_fl S) a v a) = _
      rw [sj_up_self]
    · have h0 := h1only i t h hne
      match t, h0 with
      | 0, _ => rfl
      | 1, _ => rfl
      | _ + 2, h0 => exact absurd h0 (by omega)
  have hWA' : sj_WA cy (sj_wFl S a v) (ws.set q0 (a, .inr (ci, (sj_fs S a 0 (sj_tyl ci)).set k (.long v)))) := by
    rw [hset, ← sj_ce_obj cy _ _ h8]
    exact sj_WA_set hWA rfl hq0 ha (fun b cj hb => sj_ce_other (S := S) (S' := sj_wFl S a v) rfl rfl (sj_up_ne _ _ hb) rfl rfl rfl rfl cj)
  rcases hl with hl | hl
  · exact va_put hx hb hts hin ty0 hty hnm2 hown hK hP hD h2 q0 hq0 hc k hk (hts _ hl) (fun _ h => h) hfin (hty k hk) hn hfit (by rw [sj_fs_len]; exact hlt) hd (fun H1 locs1 hP1 hD1 hS1 => kk H1 locs1 ls ⟨_, hP1, hD1, hWA'⟩ hS1 h3)
  · exact va_putN hx hb hts hin ty0 hty hnm2 hown hK hP hD h2 q0 hq0 hc k hk ((hAm.1 _ hl).use rfl) (fun _ h => h) hfin (hty k hk) hn hfit (by rw [sj_fs_len]; exact hlt) hd (fun H1 locs1 hP1 hD1 hS1 => kk H1 locs1 ls ⟨_, hP1, hD1, hWA'⟩ hS1 h3)
theorem sj_putRF {X : sj_X} {M : sj_M} (C : sj_C X M) {S : sj_St} {cl sl : Nat} {L : List (Option Value)} {pc : Nat} {rest : List Value} {a ci k idx : Nat} {ft : FieldType} {v : Option Nat} (q : Nat) (hq : pc + 3 = q) (hf : sj_Fd M.1.cls idx ci k 1 ft true) (hd : decode M.2.1 pc = .ok (.putfield idx, 3)) (hn : narrow ft (va_rf v) = va_rf v) (hfit : fits ft (va_rf v) = true) (hinit : M.1.name = "<init>") (hown1 : ∀ C1 T1 N1, vwCl[ci]? = some (C1, T1, N1) → C1 = M.1.cls) (hnoN : ∀ a b c e, ¬ Cond.fieldLinkNest M.1.cls idx a b c e ∈ sj_NWl) (ha : sj_kd S a = some ci) (kk : sj_G X (sj_wRf S a k v) cl sl L q rest) : sj_G X S cl sl L pc (va_rf v :: .ref a :: rest) := by
  obtain ⟨p, l, e, R, s, m, args, below, meth, c, D, cy, A, nL, Q⟩ := X
  obtain ⟨ym, cc, nL0, ret, fr, lo, mc, ms⟩ := M
  obtain ⟨hx, hb, ⟨hml, hnL⟩, hown, hts, ⟨hlk, hret, hnm⟩, hK, hAm, hA, hRR⟩ := C
  subst hq
  obtain ⟨C0, T, N, ty0, ⟨hc, hlen, h8, hin, hty, hnm2, hdf⟩, hl, hk, ht, hft, hfin, hdecl⟩ := hf
  subst hft
  intro H locs ls h1 h2 h3
  obtain ⟨ws, hP, hD, hWA⟩ := h1
  obtain ⟨q0, hq0⟩ := hWA a ci ha
  rw [sj_ce_obj _ _ _ h8] at hq0
  have hlt : k < (sj_tyl ci).length := by rw [hlen]; exact hk
  have hset : (sj_fs S a 0 (sj_tyl ci)).set k (va_rf v) = sj_fs (sj_wRf S a k v) a 0 (sj_tyl ci) := by
    refine sj_fs_set (sj_tyl ci) 0 k _ hlt (fun t h => ?_) (fun i t h hne => ?_)
    · cases ht.symm.trans h
      rw [sj_fv1]
      show va_rf (sj_up (sj_rf S) a (sj_up (sj_rf S a) k v) a k) = _
      rw [sj_up_self, sj_up_self]
    · rw [Nat.zero_add]
      match t with
      | 0 => rfl
      | 1 =>
        show va_rf (sj_up (sj_rf S) a (sj_up (sj_rf S a) k v) a i) = va_rf (sj_rf S a i)
        rw [sj_up_self, sj_up_ne _ _ hne]
      | _ + 2 => rfl
  have hWA' : sj_WA cy (sj_wRf S a k v) (ws.set q0 (a, .inr (ci, (sj_fs S a 0 (sj_tyl ci)).set k (va_rf v)))) := by
    rw [hset, ← sj_ce_obj cy _ _ h8]
    exact sj_WA_set hWA rfl hq0 ha (fun b cj hb => sj_ce_other (S := S) (S' := sj_wRf S a k v) rfl (sj_up_ne _ _ hb) rfl rfl rfl rfl rfl cj)
  rcases hl with hl | hl
  · exact va_putF hx hb hts hin ty0 hty hnm2 hown hK hP hD h2 q0 hq0 hc k hk (hts _ hl) (fun _ h => h) hfin (hnm.trans hinit) (hdecl.trans (hown1 _ _ _ hc)) (hty k hk) hn hfit (by rw [sj_fs_len]; exact hlt) hd (fun H1 locs1 hP1 hD1 hS1 => kk H1 locs1 ls ⟨_, hP1, hD1, hWA'⟩ hS1 h3)
  · exact absurd hl (hnoN _ _ _ _)
theorem sj_putIF {X : sj_X} {M : sj_M} (C : sj_C X M) {S : sj_St} {cl sl : Nat} {L : List (Option Value)} {pc : Nat} {rest : List Value} {a ci k idx : Nat} {ft : FieldType} {v : Int32} (q : Nat) (hq : pc + 3 = q) (hf : sj_Fd M.1.cls idx ci k 0 ft true) (hd : decode M.2.1 pc = .ok (.putfield idx, 3)) (hn : narrow ft (.int v) = .int v) (hfit : fits ft (.int v) = true) (hinit : M.1.name = "<init>") (hown1 : ∀ C1 T1 N1, vwCl[ci]? = some (C1, T1, N1) → C1 = M.1.cls) (hnoN : ∀ a b c e, ¬ Cond.fieldLinkNest M.1.cls idx a b c e ∈ sj_NWl) (ha : sj_kd S a = some ci) (kk : sj_G X (sj_wFi S a k v) cl sl L q rest) : sj_G X S cl sl L pc (.int v :: .ref a :: rest) := by
  obtain ⟨p, l, e, R, s, m, args, below, meth, c, D, cy, A, nL, Q⟩ := X
  obtain ⟨ym, cc, nL0, ret, fr, lo, mc, ms⟩ := M
  obtain ⟨hx, hb, ⟨hml, hnL⟩, hown, hts, ⟨hlk, hret, hnm⟩, hK, hAm, hA, hRR⟩ := C
  subst hq
  obtain ⟨C0, T, N, ty0, ⟨hc, hlen, h8, hin, hty, hnm2, hdf⟩, hl, hk, ht, hft, hfin, hdecl⟩ := hf
  subst hft
  intro H locs ls h1 h2 h3
  obtain ⟨ws, hP, hD, hWA⟩ := h1
  obtain ⟨q0, hq0⟩ := hWA a ci ha
  rw [sj_ce_obj _ _ _ h8] at hq0
  have hlt : k < (sj_tyl ci).length := by rw [hlen]; exact hk
  have hset : (sj_fs S a 0 (sj_tyl ci)).set k (.int v) = sj_fs (sj_wFi S a k v) a 0 (sj_tyl ci) := by
    refine sj_fs_set (sj_tyl ci) 0 k _ hlt (fun t h => ?_) (fun i t h hne => ?_)
    · cases ht.symm.trans h
      rw [sj_fv0]
      show Value.int (sj_up (sj_fi S) a (sj_up (sj_fi S a) k v) a k) = _
      rw [sj_up_self, sj_up_self]
    · rw [Nat.zero_add]
      match t with
      | 0 =>
        show Value.int (sj_up (sj_fi S) a (sj_up (sj_fi S a) k v) a i) = Value.int (sj_fi S a i)
        rw [sj_up_self, sj_up_ne _ _ hne]
      | 1 => rfl
      | _ + 2 => rfl
  have hWA' : sj_WA cy (sj_wFi S a k v) (ws.set q0 (a, .inr (ci, (sj_fs S a 0 (sj_tyl ci)).set k (.int v)))) := by
    rw [hset, ← sj_ce_obj cy _ _ h8]
    exact sj_WA_set hWA rfl hq0 ha (fun b cj hb => sj_ce_other (S := S) (S' := sj_wFi S a k v) (sj_up_ne _ _ hb) rfl rfl rfl rfl rfl rfl cj)
  rcases hl with hl | hl
  · exact va_putF hx hb hts hin ty0 hty hnm2 hown hK hP hD h2 q0 hq0 hc k hk (hts _ hl) (fun _ h => h) hfin (hnm.trans hinit) (hdecl.trans (hown1 _ _ _ hc)) (hty k hk) hn hfit (by rw [sj_fs_len]; exact hlt) hd (fun H1 locs1 hP1 hD1 hS1 => kk H1 locs1 ls ⟨_, hP1, hD1, hWA'⟩ hS1 h3)
  · exact absurd hl (hnoN _ _ _ _)
-- ===== rows =====
theorem sj_iald {X : sj_X} {M : sj_M} (C : sj_C X M) {S : sj_St} {cl sl : Nat} {L : List (Option Value)} {pc : Nat} {rest : List Value} {a : Nat} {i : Int32} (q : Nat) (hq : pc + 1 = q) (hd : decode M.2.1 pc = .ok (.iaload, 1)) (ha : sj_kd S a = some 8) (hi : vp_in i (sj_il S a)) (kk : sj_G X S cl sl L q (.int (sj_ia S a i.toNatClampNeg) :: rest)) : sj_G X S cl sl L pc (.int i :: .ref a :: rest) := by
  obtain ⟨p, l, e, R, s, m, args, below, meth, c, D, cy, A, nL, Q⟩ := X
  obtain ⟨ym, cc, nL0, ret, fr, lo, mc, ms⟩ := M
  obtain ⟨hx, hb, ⟨hml, hnL⟩, hown, hts, ⟨hlk, hret, hnm⟩, hK, hAm, hA, hRR⟩ := C
  subst hq
  intro H locs ls h1 h2 h3
  have h1' := h1
  obtain ⟨ws, hP, hD, hWA⟩ := h1'
  obtain ⟨q0, hq0⟩ := hWA a 8 ha
  exact va_iald hx hb hK hP q0 0 hq0 rfl hi hd (kk H locs ls h1 h2 h3)
theorem sj_iast {X : sj_X} {M : sj_M} (C : sj_C X M) {S : sj_St} {cl sl : Nat} {L : List (Option Value)} {pc : Nat} {rest : List Value} {a : Nat} {i v : Int32} (q : Nat) (hq : pc + 1 = q) (hd : decode M.2.1 pc = .ok (.iastore, 1)) (ha : sj_kd S a = some 8) (hi : vp_in i (sj_il S a)) (kk : sj_G X (sj_wIa S a i.toNatClampNeg v) cl sl L q rest) : sj_G X S cl sl L pc (.int v :: .int i :: .ref a :: rest) := by
  obtain ⟨p, l, e, R, s, m, args, below, meth, c, D, cy, A, nL, Q⟩ := X
  obtain ⟨ym, cc, nL0, ret, fr, lo, mc, ms⟩ := M
  obtain ⟨hx, hb, ⟨hml, hnL⟩, hown, hts, ⟨hlk, hret, hnm⟩, hK, hAm, hA, hRR⟩ := C
  subst hq
  intro H locs ls h1 h2 h3
  obtain ⟨ws, hP, hD, hWA⟩ := h1
  obtain ⟨q0, hq0⟩ := hWA a 8 ha
  have hce : sj_ce cy (sj_wIa S a i.toNatClampNeg v) a 8 = .inl (cy 0, sj_il S a, .inl (upd (sj_ia S a) i.toNatClampNeg v)) := by
    show (Sum.inl (cy 0, sj_il S a, .inl (sj_up (sj_ia S) a (upd (sj_ia S a) i.toNatClampNeg v) a)) : va_E) = _
    rw [sj_up_self]
  have hWA' : sj_WA cy (sj_wIa S a i.toNatClampNeg v) (ws.set q0 (a, .inl (cy 0, sj_il S a, .inl (upd (sj_ia S a) i.toNatClampNeg v)))) := by
    rw [← hce]
    exact sj_WA_set hWA rfl hq0 ha (fun b cj hb => sj_ce_other (S := S) (S' := sj_wIa S a i.toNatClampNeg v) rfl rfl rfl rfl (sj_up_ne _ _ hb) rfl rfl cj)
  exact va_iast hx hb hK hP hD h2 q0 0 hq0 rfl hi hd (fun H1 locs1 hP1 hD1 hS1 => kk H1 locs1 ls ⟨_, hP1, hD1, hWA'⟩ hS1 h3)
theorem sj_aald9 {X : sj_X} {M : sj_M} (C : sj_C X M) {S : sj_St} {cl sl : Nat} {L : List (Option Value)} {pc : Nat} {rest : List Value} {a : Nat} {i : Int32} (q : Nat) (hq : pc + 1 = q) (hd : decode M.2.1 pc = .ok (.aaload, 1)) (ha : sj_kd S a = some 9) (hi : vp_in i (sj_il S a)) (kk : sj_G X S cl sl L q (va_rf (sj_ra S a i.toNatClampNeg) :: rest)) : sj_G X S cl sl L pc (.int i :: .ref a :: rest) := by
  obtain ⟨p, l, e, R, s, m, args, below, meth, c, D, cy, A, nL, Q⟩ := X
  obtain ⟨ym, cc, nL0, ret, fr, lo, mc, ms⟩ := M
  obtain ⟨hx, hb, ⟨hml, hnL⟩, hown, hts, ⟨hlk, hret, hnm⟩, hK, hAm, hA, hRR⟩ := C
  subst hq
  intro H locs ls h1 h2 h3
  have h1' := h1
  obtain ⟨ws, hP, hD, hWA⟩ := h1'
  obtain ⟨q0, hq0⟩ := hWA a 9 ha
  exact va_aldq hx hb hK hP q0 1 hq0 rfl hi hd (kk H locs ls h1 h2 h3)
theorem sj_aast9 {X : sj_X} {M : sj_M} (C : sj_C X M) {S : sj_St} {cl sl : Nat} {L : List (Option Value)} {pc : Nat} {rest : List Value} {a : Nat} {i : Int32} {v : Option Nat} (q : Nat) (hq : pc + 1 = q) (hd : decode M.2.1 pc = .ok (.aastore, 1)) (ha : sj_kd S a = some 9) (hi : vp_in i (sj_il S a)) (hv : ∀ b, v = some b → sj_kd S b = some 3) (kk : sj_G X (sj_wRa S a i.toNatClampNeg v) cl sl L q rest) : sj_G X S cl sl L pc (va_rf v :: .int i :: .ref a :: rest) := by
  obtain ⟨p, l, e, R, s, m, args, below, meth, c, D, cy, A, nL, Q⟩ := X
  obtain ⟨ym, cc, nL0, ret, fr, lo, mc, ms⟩ := M
  obtain ⟨hx, hb, ⟨hml, hnL⟩, hown, hts, ⟨hlk, hret, hnm⟩, hK, hAm, hA, hRR⟩ := C
  subst hq
  intro H locs ls h1 h2 h3
  obtain ⟨ws, hP, hD, hWA⟩ := h1
  obtain ⟨q0, hq0⟩ := hWA a 9 ha
  have hce : sj_ce cy (sj_wRa S a i.toNatClampNeg v) a 9 = .inl (cy 1, sj_il S a, .inr (.inr (.inr (.inr (va_up (sj_ra S a) i.toNatClampNeg v))))) := by
    show (Sum.inl (cy 1, sj_il S a, .inr (.inr (.inr (.inr (sj_up (sj_ra S) a (va_up (sj_ra S a) i.toNatClampNeg v) a))))) : va_E) = _
    rw [sj_up_self]
  have hWA' : sj_WA cy (sj_wRa S a i.toNatClampNeg v) (ws.set q0 (a, .inl (cy 1, sj_il S a, .inr (.inr (.inr (.inr (va_up (sj_ra S a) i.toNatClampNeg v))))))) := by
    rw [← hce]
    exact sj_WA_set hWA rfl hq0 ha (fun b cj hb => sj_ce_other (S := S) (S' := sj_wRa S a i.toNatClampNeg v) rfl rfl rfl rfl rfl (sj_up_ne _ _ hb) rfl cj)
  cases v with
  | some b =>
    obtain ⟨qk, hqk⟩ := hWA b 3 (hv b rfl)
    exact va_astq hx hb hK hP hD h2 q0 1 qk 3 hq0 rfl hqk rfl hi hd (fun H1 locs1 hP1 hD1 hS1 => kk H1 locs1 ls ⟨_, hP1, hD1, hWA'⟩ hS1 h3)
  | none => exact va_astqN hx hb hK hP hD h2 q0 1 hq0 rfl hi hd (fun H1 locs1 hP1 hD1 hS1 => kk H1 locs1 ls ⟨_, hP1, hD1, hWA'⟩ hS1 h3)
theorem sj_aald10 {X : sj_X} {M : sj_M} (C : sj_C X M) {S : sj_St} {cl sl : Nat} {L : List (Option Value)} {pc : Nat} {rest : List Value} {a : Nat} {i : Int32} (q : Nat) (hq : pc + 1 = q) (hd : decode M.2.1 pc = .ok (.aaload, 1)) (ha : sj_kd S a = some 10) (hi : vp_in i (sj_il S a)) (kk : sj_G X S cl sl L q (va_rf (sj_ra S a i.toNatClampNeg) :: rest)) : sj_G X S cl sl L pc (.int i :: .ref a :: rest) := by
  obtain ⟨p, l, e, R, s, m, args, below, meth, c, D, cy, A, nL, Q⟩ := X
  obtain ⟨ym, cc, nL0, ret, fr, lo, mc, ms⟩ := M
  obtain ⟨hx, hb, ⟨hml, hnL⟩, hown, hts, ⟨hlk, hret, hnm⟩, hK, hAm, hA, hRR⟩ := C
  subst hq
  intro H locs ls h1 h2 h3
  have h1' := h1
  obtain ⟨ws, hP, hD, hWA⟩ := h1'
  obtain ⟨q0, hq0⟩ := hWA a 10 ha
  exact va_aldq hx hb hK hP q0 2 hq0 rfl hi hd (kk H locs ls h1 h2 h3)
theorem sj_aast10 {X : sj_X} {M : sj_M} (C : sj_C X M) {S : sj_St} {cl sl : Nat} {L : List (Option Value)} {pc : Nat} {rest : List Value} {a : Nat} {i : Int32} {v : Option Nat} (q : Nat) (hq : pc + 1 = q) (hd : decode M.2.1 pc = .ok (.aastore, 1)) (ha : sj_kd S a = some 10) (hi : vp_in i (sj_il S a)) (hv : ∀ b, v = some b → sj_kd S b = some 4) (kk : sj_G X (sj_wRa S a i.toNatClampNeg v) cl sl L q rest) : sj_G X S cl sl L pc (va_rf v :: .int i :: .ref a :: rest) := by
  obtain ⟨p, l, e, R, s, m, args, below, meth, c, D, cy, A, nL, Q⟩ := X
  obtain ⟨ym, cc, nL0, ret, fr, lo, mc, ms⟩ := M
  obtain ⟨hx, hb, ⟨hml, hnL⟩, hown, hts, ⟨hlk, hret, hnm⟩, hK, hAm, hA, hRR⟩ := C
  subst hq
  intro H locs ls h1 h2 h3
  obtain ⟨ws, hP, hD, hWA⟩ := h1
  obtain ⟨q0, hq0⟩ := hWA a 10 ha
  have hce : sj_ce cy (sj_wRa S a i.toNatClampNeg v) a 10 = .inl (cy 2, sj_il S a, .inr (.inr (.inr (.inr (va_up (sj_ra S a) i.toNatClampNeg v))))) := by
    show (Sum.inl (cy 2, sj_il S a, .inr (.inr (.inr (.inr (sj_up (sj_ra S) a (va_up (sj_ra S a) i.toNatClampNeg v) a))))) : va_E) = _
    rw [sj_up_self]
  have hWA' : sj_WA cy (sj_wRa S a i.toNatClampNeg v) (ws.set q0 (a, .inl (cy 2, sj_il S a, .inr (.inr (.inr (.inr (va_up (sj_ra S a) i.toNatClampNeg v))))))) := by
    rw [← hce]
    exact sj_WA_set hWA rfl hq0 ha (fun b cj hb => sj_ce_other (S := S) (S' := sj_wRa S a i.toNatClampNeg v) rfl rfl rfl rfl rfl (sj_up_ne _ _ hb) rfl cj)
  cases v with
  | some b =>
    obtain ⟨qk, hqk⟩ := hWA b 4 (hv b rfl)
    exact va_astq hx hb hK hP hD h2 q0 2 qk 4 hq0 rfl hqk rfl hi hd (fun H1 locs1 hP1 hD1 hS1 => kk H1 locs1 ls ⟨_, hP1, hD1, hWA'⟩ hS1 h3)
  | none => exact va_astqN hx hb hK hP hD h2 q0 2 hq0 rfl hi hd (fun H1 locs1 hP1 hD1 hS1 => kk H1 locs1 ls ⟨_, hP1, hD1, hWA'⟩ hS1 h3)
theorem sj_alen8 {X : sj_X} {M : sj_M} (C : sj_C X M) {S : sj_St} {cl sl : Nat} {L : List (Option Value)} {pc : Nat} {rest : List Value} {a : Nat} (q : Nat) (hq : pc + 1 = q) (hd : decode M.2.1 pc = .ok (.arraylength, 1)) (ha : sj_kd S a = some 8) (kk : sj_G X S cl sl L q (.int (Int32.ofNat (sj_il S a)) :: rest)) : sj_G X S cl sl L pc (.ref a :: rest) := by
  obtain ⟨p, l, e, R, s, m, args, below, meth, c, D, cy, A, nL, Q⟩ := X
  obtain ⟨ym, cc, nL0, ret, fr, lo, mc, ms⟩ := M
  obtain ⟨hx, hb, ⟨hml, hnL⟩, hown, hts, ⟨hlk, hret, hnm⟩, hK, hAm, hA, hRR⟩ := C
  subst hq
  intro H locs ls h1 h2 h3
  have h1' := h1
  obtain ⟨ws, hP, hD, hWA⟩ := h1'
  obtain ⟨q0, hq0⟩ := hWA a 8 ha
  exact va_alen hx hb hK hP q0 0 hq0 rfl rfl hd (kk H locs ls h1 h2 h3)
theorem sj_alen9 {X : sj_X} {M : sj_M} (C : sj_C X M) {S : sj_St} {cl sl : Nat} {L : List (Option Value)} {pc : Nat} {rest : List Value} {a : Nat} (q : Nat) (hq : pc + 1 = q) (hd : decode M.2.1 pc = .ok (.arraylength, 1)) (ha : sj_kd S a = some 9) (kk : sj_G X S cl sl L q (.int (Int32.ofNat (sj_il S a)) :: rest)) : sj_G X S cl sl L pc (.ref a :: rest) := by
  obtain ⟨p, l, e, R, s, m, args, below, meth, c, D, cy, A, nL, Q⟩ := X
  obtain ⟨ym, cc, nL0, ret, fr, lo, mc, ms⟩ := M
  obtain ⟨hx, hb, ⟨hml, hnL⟩, hown, hts, ⟨hlk, hret, hnm⟩, hK, hAm, hA, hRR⟩ := C
  subst hq
  intro H locs ls h1 h2 h3
  have h1' := h1
  obtain ⟨ws, hP, hD, hWA⟩ := h1'
  obtain ⟨q0, hq0⟩ := hWA a 9 ha
  exact va_alen hx hb hK hP q0 1 hq0 rfl rfl hd (kk H locs ls h1 h2 h3)
theorem sj_alen10 {X : sj_X} {M : sj_M} (C : sj_C X M) {S : sj_St} {cl sl : Nat} {L : List (Option Value)} {pc : Nat} {rest : List Value} {a : Nat} (q : Nat) (hq : pc + 1 = q) (hd : decode M.2.1 pc = .ok (.arraylength, 1)) (ha : sj_kd S a = some 10) (kk : sj_G X S cl sl L q (.int (Int32.ofNat (sj_il S a)) :: rest)) : sj_G X S cl sl L pc (.ref a :: rest) := by
  obtain ⟨p, l, e, R, s, m, args, below, meth, c, D, cy, A, nL, Q⟩ := X
  obtain ⟨ym, cc, nL0, ret, fr, lo, mc, ms⟩ := M
  obtain ⟨hx, hb, ⟨hml, hnL⟩, hown, hts, ⟨hlk, hret, hnm⟩, hK, hAm, hA, hRR⟩ := C
  subst hq
  intro H locs ls h1 h2 h3
  have h1' := h1
  obtain ⟨ws, hP, hD, hWA⟩ := h1'
  obtain ⟨q0, hq0⟩ := hWA a 10 ha
  exact va_alen hx hb hK hP q0 2 hq0 rfl rfl hd (kk H locs ls h1 h2 h3)
-- ===== calls =====
theorem sj_goCall {p : Program} {l : Launch} {e : Env} {R : Room} {s : State} {m : MethodId} {args : Array Value} {below : List Frame} {meth : Method} {c : Code} {D : va_G} {cy : Nat → ClassId} {A : Nat → Prop} {Q : State → Prop} {H : Heap} {locs : List Loc} {cl sl mc ms pc : Nat} {ls : Array Slot} {st0 rest : List Value} {Post : Option Value → sj_St → Prop} {a : Array Value}
    (hr : va_Run p l e R s m args below meth c H locs cl sl mc ms (F0 m pc ls st0) rest (sj_Qc D cy A Post a) A) (hS : va_S A s.heap H locs)
    (kk : ∀ (v : Option Value) (S' : sj_St) (H1 : Heap) (locs1 : List Loc), Post v S' → sj_HP D cy A S' H1 → va_S A s.heap H1 locs1 → W p l e R s m args below meth c H1 locs1 (cl + mc) (sl + ms) Q (F0 m (pc + 3) ls (v.toList ++ rest))) : W p l e R s m args below meth c H locs cl sl Q (F0 m pc ls st0) := by
  intro T hT X
  obtain ⟨v, st₀, t, T', L, h0, X', hL, e1, e2, ⟨⟨r, S', hv, hp, hb⟩, hz, hk⟩, st⟩ := hr T hT X
  cases hv
  rw [h0] at hz hk
  obtain ⟨t2, a1, b1⟩ := kk _ S' T'.heap (locs ++ L) hp (by rw [e1]; exact hb)
    ⟨Nat.le_trans hS.1 (by rw [e1]; exact hz), fun q h1 h2 => by rw [e1, hk q (Nat.lt_of_lt_of_le h1 hS.1) h2]; exact hS.2.1 q h1 h2, fun q hq => by
      rcases List.mem_append.mp hq with h | h
      · exact hS.2.2 q h
      · exact hL q h⟩ T' rfl X'
  exact ⟨t2, st t2 a1, b1⟩
theorem sj_inOf {D : va_G} {cy : Nat → ClassId} {A : Nat → Prop} {S : sj_St} {s U : State} {H : Heap} {locs : List Loc} (hK : va_K D vwCl (sj_tys cy) s) (hAm : sj_Am A s s.heap) (hS : va_S A s.heap H locs) (h1 : sj_HP D cy A S H) (hU : U.heap = H) (hW : s.WarmedH U.vm) : sj_In D cy A S H.size U := ⟨by rw [hU], by rw [hU]; exact h1, va_K.moved hW.alike hK, sj_Am_warm hW (by rw [hU]; exact sj_Am_kept hAm hS.2.1)⟩
def sj_is (S : sj_St) (b : Nat) (C : String) : Prop := ∃ (ci : Nat) (r : vw_C), sj_kd S b = some ci ∧ vwCl[ci]? = some r ∧ r.1 = C ∧ ci < 8
theorem sj_recv2 {D : va_G} {cy : Nat → ClassId} {A : Nat → Prop} {S : sj_St} {H : Heap} {s : State} {b : Nat} {C : String} (hK : va_K D vwCl (sj_tys cy) s) (h : sj_HP D cy A S H) (hb : sj_is S b C) : ∃ cell : Cell, H[b]? = some cell ∧ cell.vm.isStatics = false ∧ s.vm.findClass C = some cell.cls := by
  obtain ⟨ci, r, h1, h2, h3, h4⟩ := hb
  rw [← h3]
  exact sj_kd_of hK h h1 h2 h4
theorem sj_callV {X : sj_X} {M N : sj_M} (C : sj_C X M) {S : sj_St} {cl sl : Nat} {L : List (Option Value)} {pc idx n : Nat} {b : Nat} {As st rest : List Value} {Post : Option Value → sj_St → Prop} (q : Nat) (hq : pc + 3 = q) (hd : decode M.2.1 pc = .ok (.invokevirtual idx, 3)) (hV : sj_V M.1.cls idx N n) (hfit : sj_fit M N cl sl = true) (hM : sj_Ctr X.2.1 N (.ref b :: As) S Post) (hst : st = As.reverse ++ .ref b :: rest) (hn : As.length = n) (hcat : Nat.ble (rest.map fun v => v.category).sum 8 = true) (hb8 : sj_is S b N.1.cls) (kk : ∀ (v : Option Value) (S' : sj_St), Post v S' → sj_G X S' (cl + N.2.2.2.2.2.2.1) (sl + N.2.2.2.2.2.2.2) L q (v.toList ++ rest)) : sj_G X S cl sl L pc st := by
  have hF := sj_fit_of hfit
  obtain ⟨p, l, e, R, s, m, args, below, meth, c, D, cy, A, nL, Q⟩ := X
  obtain ⟨ym, cc, nL0, ret, fr, lo, mc, ms⟩ := M
  obtain ⟨hx, hb, ⟨hml, hnL⟩, hown, hts, ⟨hlk, hret, hnm⟩, hK, hAm, hA, hRR⟩ := C
  obtain ⟨y2, cc2, nL2, ret2, fr2, lo2, mc2, ms2⟩ := N
  subst hq
  subst hst
  obtain ⟨hlink, hinst, hsel, hini, hcode, hno, hpar⟩ := hV
  subst hRR
  intro H locs ls h1 h2 h3
  have hM1 := hM D cy A H.size (fun q h => hA q (Nat.le_trans h2.1 h))
  have hG := sj_good y2 cc2 nL2 ret2 hcode
  refine sj_goCall (va_runV (As := As) (rest := rest) ⟨hx, hb, hml, hown, hts⟩ hM1 ⟨(callB_of n hts hG rfl rfl rfl (hts _ hini) (hts _ hlink) ⟨hno.1, hno.2, hpar⟩ ⟨hF.1, hF.2.1⟩), hts _ hinst, hts _ hsel⟩ ⟨sj_blind, sj_recv2 hK h1 hb8, fun U hU hW => ⟨rfl, sj_inOf hK hAm h2 h1 hU hW⟩⟩ rfl hn h3.1 rfl (lv_room (Nat.le_of_ble_eq_true hcat)) hd ⟨hF.2.2.1, hF.2.2.2⟩) h2 (fun v S' H1 locs1 hp hP1 hS1 => kk v S' hp H1 locs1 ls hP1 hS1 h3)
theorem sj_callVN {X : sj_X} {M N : sj_M} (C : sj_C X M) {S : sj_St} {cl sl : Nat} {L : List (Option Value)} {pc idx n : Nat} {b : Nat} {As st rest : List Value} {Post : Option Value → sj_St → Prop} (q : Nat) (hq : pc + 3 = q) (hd : decode M.2.1 pc = .ok (.invokevirtual idx, 3)) (hV : sj_Vn M.1.cls idx N n) (hfit : sj_fit M N cl sl = true) (hM : sj_Ctr X.2.1 N (.ref b :: As) S Post) (hst : st = As.reverse ++ .ref b :: rest) (hn : As.length = n) (hcat : Nat.ble (rest.map fun v => v.category).sum 8 = true) (hb8 : sj_is S b N.1.cls) (kk : ∀ (v : Option Value) (S' : sj_St), Post v S' → sj_G X S' (cl + N.2.2.2.2.2.2.1) (sl + N.2.2.2.2.2.2.2) L q (v.toList ++ rest)) : sj_G X S cl sl L pc st := by
  have hF := sj_fit_of hfit
  obtain ⟨p, l, e, R, s, m, args, below, meth, c, D, cy, A, nL, Q⟩ := X
  obtain ⟨ym, cc, nL0, ret, fr, lo, mc, ms⟩ := M
  obtain ⟨hx, hb, ⟨hml, hnL⟩, hown, hts, ⟨hlk, hret, hnm⟩, hK, hAm, hA, hRR⟩ := C
  obtain ⟨y2, cc2, nL2, ret2, fr2, lo2, mc2, ms2⟩ := N
  subst hq
  subst hst
  obtain ⟨hlink, hinst, hsel, hini, hcode, hno, hpar⟩ := hV
  subst hRR
  intro H locs ls h1 h2 h3
  have hM1 := hM D cy A H.size (fun q h => hA q (Nat.le_trans h2.1 h))
  have hG := sj_good y2 cc2 nL2 ret2 hcode
  refine sj_goCall (va_runVN (As := As) (rest := rest) ⟨hx, hb, hml, hown, hts⟩ hM1 ⟨(va_cnB (host := "SlantOaths") n hts hG rfl rfl rfl (hAm.1 _ hlink) (hts _ hini) ⟨hno.1, hno.2, hpar⟩ ⟨hF.1, hF.2.1⟩), hts _ hinst, hts _ hsel⟩ ⟨sj_blind, sj_recv2 hK h1 hb8, fun U hU hW => ⟨rfl, sj_inOf hK hAm h2 h1 hU hW⟩⟩ rfl hn h3.1 rfl (lv_room (Nat.le_of_ble_eq_true hcat)) hd ⟨hF.2.2.1, hF.2.2.2⟩) h2 (fun v S' H1 locs1 hp hP1 hS1 => kk v S' hp H1 locs1 ls hP1 hS1 h3)
theorem sj_callS {X : sj_X} {M N : sj_M} (C : sj_C X M) {S : sj_St} {cl sl : Nat} {L : List (Option Value)} {pc idx n : Nat} {As st rest : List Value} {Post : Option Value → sj_St → Prop} (q : Nat) (hq : pc + 3 = q) (hd : decode M.2.1 pc = .ok (.invokestatic idx, 3)) (hV : sj_Vs M.1.cls idx N n) (hfit : sj_fit M N cl sl = true) (hM : sj_Ctr X.2.1 N (As) S Post) (hst : st = As.reverse ++ rest) (hn : As.length = n) (hcat : Nat.ble (rest.map fun v => v.category).sum 8 = true) (kk : ∀ (v : Option Value) (S' : sj_St), Post v S' → sj_G X S' (cl + N.2.2.2.2.2.2.1) (sl + N.2.2.2.2.2.2.2) L q (v.toList ++ rest)) : sj_G X S cl sl L pc st := by
  have hF := sj_fit_of hfit
  obtain ⟨p, l, e, R, s, m, args, below, meth, c, D, cy, A, nL, Q⟩ := X
  obtain ⟨ym, cc, nL0, ret, fr, lo, mc, ms⟩ := M
  obtain ⟨hx, hb, ⟨hml, hnL⟩, hown, hts, ⟨hlk, hret, hnm⟩, hK, hAm, hA, hRR⟩ := C
  obtain ⟨y2, cc2, nL2, ret2, fr2, lo2, mc2, ms2⟩ := N
  subst hq
  subst hst
  obtain ⟨hlink, hstat, hini, hcode, hno, hpar⟩ := hV
  subst hRR
  intro H locs ls h1 h2 h3
  have hM1 := hM D cy A H.size (fun q h => hA q (Nat.le_trans h2.1 h))
  have hG := sj_good y2 cc2 nL2 ret2 hcode
  refine sj_goCall (va_runS (As := As) (rest := rest) ⟨hx, hb, hml, hown, hts⟩ hM1 ⟨(callB_of n hts hG rfl rfl rfl (hts _ hini) (hts _ hlink) ⟨hno.1, hno.2, hpar⟩ ⟨hF.1, hF.2.1⟩), hts _ hstat⟩ ⟨sj_blind, fun U hU hW => ⟨rfl, sj_inOf hK hAm h2 h1 hU hW⟩⟩ rfl hn h3.1 rfl (lv_room (Nat.le_of_ble_eq_true hcat)) hd ⟨hF.2.2.1, hF.2.2.2⟩) h2 (fun v S' H1 locs1 hp hP1 hS1 => kk v S' hp H1 locs1 ls hP1 hS1 h3)
theorem sj_callSN {X : sj_X} {M N : sj_M} (C : sj_C X M) {S : sj_St} {cl sl : Nat} {L : List (Option Value)} {pc idx n : Nat} {As st rest : List Value} {Post : Option Value → sj_St → Prop} (q : Nat) (hq : pc + 3 = q) (hd : decode M.2.1 pc = .ok (.invokestatic idx, 3)) (hV : sj_Vsn M.1.cls idx N n) (hfit : sj_fit M N cl sl = true) (hM : sj_Ctr X.2.1 N (As) S Post) (hst : st = As.reverse ++ rest) (hn : As.length = n) (hcat : Nat.ble (rest.map fun v => v.category).sum 8 = true) (kk : ∀ (v : Option Value) (S' : sj_St), Post v S' → sj_G X S' (cl + N.2.2.2.2.2.2.1) (sl + N.2.2.2.2.2.2.2) L q (v.toList ++ rest)) : sj_G X S cl sl L pc st := by
  have hF := sj_fit_of hfit
  obtain ⟨p, l, e, R, s, m, args, below, meth, c, D, cy, A, nL, Q⟩ := X
  obtain ⟨ym, cc, nL0, ret, fr, lo, mc, ms⟩ := M
  obtain ⟨hx, hb, ⟨hml, hnL⟩, hown, hts, ⟨hlk, hret, hnm⟩, hK, hAm, hA, hRR⟩ := C
  obtain ⟨y2, cc2, nL2, ret2, fr2, lo2, mc2, ms2⟩ := N
  subst hq
  subst hst
  obtain ⟨hlink, hstat, hini, hcode, hno, hpar⟩ := hV
  subst hRR
  intro H locs ls h1 h2 h3
  have hM1 := hM D cy A H.size (fun q h => hA q (Nat.le_trans h2.1 h))
  have hG := sj_good y2 cc2 nL2 ret2 hcode
  refine sj_goCall (va_runSN (As := As) (rest := rest) ⟨hx, hb, hml, hown, hts⟩ hM1 ⟨(va_cnB (host := "SlantOaths") n hts hG rfl rfl rfl (hAm.1 _ hlink) (hts _ hini) ⟨hno.1, hno.2, hpar⟩ ⟨hF.1, hF.2.1⟩), hts _ hstat, trivial⟩ ⟨sj_blind, fun U hU hW => ⟨rfl, sj_inOf hK hAm h2 h1 hU hW⟩⟩ rfl hn h3.1 rfl (lv_room (Nat.le_of_ble_eq_true hcat)) hd ⟨hF.2.2.1, hF.2.2.2⟩) h2 (fun v S' H1 locs1 hp hP1 hS1 => kk v S' hp H1 locs1 ls hP1 hS1 h3)
theorem sj_callI {X : sj_X} {M N : sj_M} (C : sj_C X M) {S : sj_St} {cl sl : Nat} {L : List (Option Value)} {pc idx n : Nat} {b : Nat} {As st rest : List Value} {Post : Option Value → sj_St → Prop} (q : Nat) (hq : pc + 3 = q) (hd : decode M.2.1 pc = .ok (.invokespecial idx, 3)) (hV : sj_Vi M.1.cls idx N n) (hfit : sj_fit M N cl sl = true) (hM : sj_Ctr X.2.1 N (.ref b :: As) S Post) (hst : st = As.reverse ++ .ref b :: rest) (hn : As.length = n) (hcat : Nat.ble (rest.map fun v => v.category).sum 8 = true) (hini1 : N.1.name = "<init>") (hret1 : N.2.2.2.1 = none) (kk : ∀ (v : Option Value) (S' : sj_St), Post v S' → sj_G X S' (cl + N.2.2.2.2.2.2.1) (sl + N.2.2.2.2.2.2.2) L q (v.toList ++ rest)) : sj_G X S cl sl L pc st := by
  have hF := sj_fit_of hfit
  obtain ⟨p, l, e, R, s, m, args, below, meth, c, D, cy, A, nL, Q⟩ := X
  obtain ⟨ym, cc, nL0, ret, fr, lo, mc, ms⟩ := M
  obtain ⟨hx, hb, ⟨hml, hnL⟩, hown, hts, ⟨hlk, hret, hnm⟩, hK, hAm, hA, hRR⟩ := C
  obtain ⟨y2, cc2, nL2, ret2, fr2, lo2, mc2, ms2⟩ := N
  subst hq
  dsimp only at hret1
  subst hret1
  subst hst
  obtain ⟨hlink, hinst, hini, hcode, hno, hpar⟩ := hV
  subst hRR
  intro H locs ls h1 h2 h3
  have hM1 := hM D cy A H.size (fun q h => hA q (Nat.le_trans h2.1 h))
  have hG := sj_good y2 cc2 nL2 none hcode
  refine sj_goCall (va_runI (As := As) (rest := rest) ⟨hx, hb, hml, hown, hts⟩ hM1 ⟨(callB_of n hts hG rfl rfl rfl (hts _ hini) (hts _ hlink) ⟨hno.1, hno.2, hpar⟩ ⟨hF.1, hF.2.1⟩), hini1, hts _ hinst⟩ ⟨sj_blind, fun U hU hW => ⟨rfl, sj_inOf hK hAm h2 h1 hU hW⟩⟩ rfl hn h3.1 rfl (lv_room (Nat.le_of_ble_eq_true hcat)) hd ⟨hF.2.2.1, hF.2.2.2⟩) h2 (fun v S' H1 locs1 hp hP1 hS1 => kk v S' hp H1 locs1 ls hP1 hS1 h3)
theorem sj_callIN {X : sj_X} {M N : sj_M} (C : sj_C X M) {S : sj_St} {cl sl : Nat} {L : List (Option Value)} {pc idx n : Nat} {b : Nat} {As st rest : List Value} {Post : Option Value → sj_St → Prop} (q : Nat) (hq : pc + 3 = q) (hd : decode M.2.1 pc = .ok (.invokespecial idx, 3)) (hV : sj_Vin M.1.cls idx N n) (hfit : sj_fit M N cl sl = true) (hM : sj_Ctr X.2.1 N (.ref b :: As) S Post) (hst : st = As.reverse ++ .ref b :: rest) (hn : As.length = n) (hcat : Nat.ble (rest.map fun v => v.category).sum 8 = true) (hini1 : N.1.name = "<init>") (hret1 : N.2.2.2.1 = none) (kk : ∀ (v : Option Value) (S' : sj_St), Post v S' → sj_G X S' (cl + N.2.2.2.2.2.2.1) (sl + N.2.2.2.2.2.2.2) L q (v.toList ++ rest)) : sj_G X S cl sl L pc st := by
  have hF := sj_fit_of hfit
  obtain ⟨p, l, e, R, s, m, args, below, meth, c, D, cy, A, nL, Q⟩ := X
  obtain ⟨ym, cc, nL0, ret, fr, lo, mc, ms⟩ := M
  obtain ⟨hx, hb, ⟨hml, hnL⟩, hown, hts, ⟨hlk, hret, hnm⟩, hK, hAm, hA, hRR⟩ := C
  obtain ⟨y2, cc2, nL2, ret2, fr2, lo2, mc2, ms2⟩ := N
  subst hq
  dsimp only at hret1
  subst hret1
  subst hst
  obtain ⟨hlink, hinst, hini, hcode, hno, hpar⟩ := hV
  subst hRR
  intro H locs ls h1 h2 h3
  have hM1 := hM D cy A H.size (fun q h => hA q (Nat.le_trans h2.1 h))
  have hG := sj_good y2 cc2 nL2 none hcode
  refine sj_goCall (va_runIN (As := As) (rest := rest) ⟨hx, hb, hml, hown, hts⟩ hM1 ⟨(va_cnB (host := "SlantOaths") n hts hG rfl rfl rfl (hAm.1 _ hlink) (hts _ hini) ⟨hno.1, hno.2, hpar⟩ ⟨hF.1, hF.2.1⟩), hini1, hts _ hinst⟩ ⟨sj_blind, fun U hU hW => ⟨rfl, sj_inOf hK hAm h2 h1 hU hW⟩⟩ rfl hn h3.1 rfl (lv_room (Nat.le_of_ble_eq_true hcat)) hd ⟨hF.2.2.1, hF.2.2.2⟩) h2 (fun v S' H1 locs1 hp hP1 hS1 => kk v S' hp H1 locs1 ls hP1 hS1 h3)
-- ===== answers that are one value over one state =====
def sj_eq (r : Option Value) (S2 : sj_St) : Option Value → sj_St → Prop := fun v S' => v = r ∧ S' = S2
theorem sj_iret {X : sj_X} {M : sj_M} (C : sj_C X M) {S : sj_St} {cl sl : Nat} {L : List (Option Value)} {pc : Nat} {Post : Option Value → sj_St → Prop} {v : Int32} (hR : sj_R X M Post) (hret9 : M.2.2.2.1 = some .int) (hfit : (Nat.ble cl M.2.2.2.2.2.2.1 && Nat.ble sl M.2.2.2.2.2.2.2) = true) (hd : decode M.2.1 pc = .ok (.ireturn, 1)) (hp : Post (some (.int v)) S) : sj_G X S cl sl L pc [.int v] := by
  obtain ⟨p, l, e, R, s, m, args, below, meth, c, D, cy, A, nL, Q⟩ := X
  obtain ⟨ym, cc, nL0, ret, fr, lo, mc, ms⟩ := M
  obtain ⟨hx, hb, ⟨hml, hnL⟩, hown, hts, ⟨hlk, hret, hnm⟩, hK, hAm, hA, hRR⟩ := C
  intro H locs ls h1 h2 h3
  dsimp only at hret9 hfit
  subst hret9
  rw [Bool.and_eq_true] at hfit
  have hR' : Q = MQ below (sj_Qc D cy A Post) args s mc ms A := hR
  subst hR'
  refine W.widen (k := mc) (n := ms) (Nat.le_of_ble_eq_true hfit.1) (Nat.le_of_ble_eq_true hfit.2) ?_
  exact W.iret hx hb hret (fun t ht hW => ⟨⟨_, S, rfl, hp, by rw [ht]; exact h1⟩, h2.F ht⟩) h2.2.2 hd hlk
theorem sj_lret {X : sj_X} {M : sj_M} (C : sj_C X M) {S : sj_St} {cl sl : Nat} {L : List (Option Value)} {pc : Nat} {Post : Option Value → sj_St → Prop} {v : Int64} (hR : sj_R X M Post) (hret9 : M.2.2.2.1 = some .long) (hfit : (Nat.ble cl M.2.2.2.2.2.2.1 && Nat.ble sl M.2.2.2.2.2.2.2) = true) (hd : decode M.2.1 pc = .ok (.lreturn, 1)) (hp : Post (some (.long v)) S) : sj_G X S cl sl L pc [.long v] := by
  obtain ⟨p, l, e, R, s, m, args, below, meth, c, D, cy, A, nL, Q⟩ := X
  obtain ⟨ym, cc, nL0, ret, fr, lo, mc, ms⟩ := M
  obtain ⟨hx, hb, ⟨hml, hnL⟩, hown, hts, ⟨hlk, hret, hnm⟩, hK, hAm, hA, hRR⟩ := C
  intro H locs ls h1 h2 h3
  dsimp only at hret9 hfit
  subst hret9
  rw [Bool.and_eq_true] at hfit
  have hR' : Q = MQ below (sj_Qc D cy A Post) args s mc ms A := hR
  subst hR'
  refine W.widen (k := mc) (n := ms) (Nat.le_of_ble_eq_true hfit.1) (Nat.le_of_ble_eq_true hfit.2) ?_
  exact W.lret hx hb hret (fun t ht hW => ⟨⟨_, S, rfl, hp, by rw [ht]; exact h1⟩, h2.F ht⟩) h2.2.2 hd hlk
theorem sj_dret {X : sj_X} {M : sj_M} (C : sj_C X M) {S : sj_St} {cl sl : Nat} {L : List (Option Value)} {pc : Nat} {Post : Option Value → sj_St → Prop} {v : UInt64} (hR : sj_R X M Post) (hret9 : M.2.2.2.1 = some .double) (hfit : (Nat.ble cl M.2.2.2.2.2.2.1 && Nat.ble sl M.2.2.2.2.2.2.2) = true) (hd : decode M.2.1 pc = .ok (.dreturn, 1)) (hp : Post (some (.double v)) S) : sj_G X S cl sl L pc [.double v] := by
  obtain ⟨p, l, e, R, s, m, args, below, meth, c, D, cy, A, nL, Q⟩ := X
  obtain ⟨ym, cc, nL0, ret, fr, lo, mc, ms⟩ := M
  obtain ⟨hx, hb, ⟨hml, hnL⟩, hown, hts, ⟨hlk, hret, hnm⟩, hK, hAm, hA, hRR⟩ := C
  intro H locs ls h1 h2 h3
  dsimp only at hret9 hfit
  subst hret9
  rw [Bool.and_eq_true] at hfit
  have hR' : Q = MQ below (sj_Qc D cy A Post) args s mc ms A := hR
  subst hR'
  refine W.widen (k := mc) (n := ms) (Nat.le_of_ble_eq_true hfit.1) (Nat.le_of_ble_eq_true hfit.2) ?_
  exact W.dret hx hb hret (fun t ht hW => ⟨⟨_, S, rfl, hp, by rw [ht]; exact h1⟩, h2.F ht⟩) h2.2.2 hd hlk
theorem sj_zret {X : sj_X} {M : sj_M} (C : sj_C X M) {S : sj_St} {cl sl : Nat} {L : List (Option Value)} {pc : Nat} {Post : Option Value → sj_St → Prop} {v : Int32} (hR : sj_R X M Post) (hret9 : M.2.2.2.1 = some .boolean) (hv : narrow .boolean (.int v) = .int v) (hfit : (Nat.ble cl M.2.2.2.2.2.2.1 && Nat.ble sl M.2.2.2.2.2.2.2) = true) (hd : decode M.2.1 pc = .ok (.ireturn, 1)) (hp : Post (some (.int v)) S) : sj_G X S cl sl L pc [.int v] := by
  obtain ⟨p, l, e, R, s, m, args, below, meth, c, D, cy, A, nL, Q⟩ := X
  obtain ⟨ym, cc, nL0, ret, fr, lo, mc, ms⟩ := M
  obtain ⟨hx, hb, ⟨hml, hnL⟩, hown, hts, ⟨hlk, hret, hnm⟩, hK, hAm, hA, hRR⟩ := C
  intro H locs ls h1 h2 h3
  dsimp only at hret9 hfit
  subst hret9
  rw [Bool.and_eq_true] at hfit
  have hR' : Q = MQ below (sj_Qc D cy A Post) args s mc ms A := hR
  subst hR'
  refine W.widen (k := mc) (n := ms) (Nat.le_of_ble_eq_true hfit.1) (Nat.le_of_ble_eq_true hfit.2) ?_
  exact W.zret hx hb hret hv (fun t ht hW => ⟨⟨_, S, rfl, hp, by rw [ht]; exact h1⟩, h2.F ht⟩) h2.2.2 hd hlk
theorem sj_vret {X : sj_X} {M : sj_M} (C : sj_C X M) {S : sj_St} {cl sl : Nat} {L : List (Option Value)} {pc : Nat} {Post : Option Value → sj_St → Prop} (hR : sj_R X M Post) (hret9 : M.2.2.2.1 = none) (hfit : (Nat.ble cl M.2.2.2.2.2.2.1 && Nat.ble sl M.2.2.2.2.2.2.2) = true) (hd : decode M.2.1 pc = .ok (.return_, 1)) (hp : Post none S) : sj_G X S cl sl L pc [] := by
  obtain ⟨p, l, e, R, s, m, args, below, meth, c, D, cy, A, nL, Q⟩ := X
  obtain ⟨ym, cc, nL0, ret, fr, lo, mc, ms⟩ := M
  obtain ⟨hx, hb, ⟨hml, hnL⟩, hown, hts, ⟨hlk, hret, hnm⟩, hK, hAm, hA, hRR⟩ := C
  intro H locs ls h1 h2 h3
  dsimp only at hret9 hfit
  subst hret9
  rw [Bool.and_eq_true] at hfit
  have hR' : Q = MQ below (sj_Qc D cy A Post) args s mc ms A := hR
  subst hR'
  refine W.widen (k := mc) (n := ms) (Nat.le_of_ble_eq_true hfit.1) (Nat.le_of_ble_eq_true hfit.2) ?_
  exact W.vret hx hb hret (fun t ht hW => ⟨⟨_, S, rfl, hp, by rw [ht]; exact h1⟩, h2.F ht⟩) h2.2.2 hd hlk
theorem sj_aret {X : sj_X} {M : sj_M} (C : sj_C X M) {S : sj_St} {cl sl : Nat} {L : List (Option Value)} {pc : Nat} {Post : Option Value → sj_St → Prop} {o : Option Nat} {rt : FieldType} (hR : sj_R X M Post) (hret9 : M.2.2.2.1 = some rt) (hrt : (∃ n, rt = .object n) ∨ ∃ t, rt = .array t) (hfit : (Nat.ble cl M.2.2.2.2.2.2.1 && Nat.ble sl M.2.2.2.2.2.2.2) = true) (hd : decode M.2.1 pc = .ok (.areturn, 1)) (hp : Post (some (va_rf o)) S) : sj_G X S cl sl L pc [va_rf o] := by
  obtain ⟨p, l, e, R, s, m, args, below, meth, c, D, cy, A, nL, Q⟩ := X
  obtain ⟨ym, cc, nL0, ret, fr, lo, mc, ms⟩ := M
  obtain ⟨hx, hb, ⟨hml, hnL⟩, hown, hts, ⟨hlk, hret, hnm⟩, hK, hAm, hA, hRR⟩ := C
  intro H locs ls h1 h2 h3
  dsimp only at hret9 hfit
  subst hret9
  rw [Bool.and_eq_true] at hfit
  have hR' : Q = MQ below (sj_Qc D cy A Post) args s mc ms A := hR
  subst hR'
  refine W.widen (k := mc) (n := ms) (Nat.le_of_ble_eq_true hfit.1) (Nat.le_of_ble_eq_true hfit.2) ?_
  exact W.aret hx hb hret hrt (by cases o with | none => exact Or.inl rfl | some a => exact Or.inr ⟨a, rfl⟩) (fun t ht hW => ⟨⟨_, S, rfl, hp, by rw [ht]; exact h1⟩, h2.F ht⟩) h2.2.2 hd hlk
theorem sj_callVd {X : sj_X} {M N : sj_M} (C : sj_C X M) {S S2 : sj_St} {cl sl : Nat} {L : List (Option Value)} {pc idx n : Nat} {b : Nat} {r : Value} {As st rest : List Value} (q : Nat) (hq : pc + 3 = q) (hd : decode M.2.1 pc = .ok (.invokevirtual idx, 3)) (hV : sj_V M.1.cls idx N n) (hfit : sj_fit M N cl sl = true) (hM : sj_Ctr X.2.1 N (.ref b :: As) S (sj_eq (some r) S2)) (hst : st = As.reverse ++ .ref b :: rest) (hn : As.length = n) (hcat : Nat.ble (rest.map fun v => v.category).sum 8 = true) (hb8 : sj_is S b N.1.cls) (h00 : N.2.2.2.2.2.2.1 = 0 ∧ N.2.2.2.2.2.2.2 = 0) (kk : sj_G X S2 cl sl L q (r :: rest)) : sj_G X S cl sl L pc st := by
  refine sj_callV C q hq hd hV hfit hM hst hn hcat hb8 (fun v S' hp => ?_)
  obtain ⟨rfl, rfl⟩ := hp
  rw [h00.1, h00.2]
  exact kk
theorem sj_callVv {X : sj_X} {M N : sj_M} (C : sj_C X M) {S S2 : sj_St} {cl sl : Nat} {L : List (Option Value)} {pc idx n : Nat} {b : Nat} {As st rest : List Value} (q : Nat) (hq : pc + 3 = q) (hd : decode M.2.1 pc = .ok (.invokevirtual idx, 3)) (hV : sj_V M.1.cls idx N n) (hfit : sj_fit M N cl sl = true) (hM : sj_Ctr X.2.1 N (.ref b :: As) S (sj_eq none S2)) (hst : st = As.reverse ++ .ref b :: rest) (hn : As.length = n) (hcat : Nat.ble (rest.map fun v => v.category).sum 8 = true) (hb8 : sj_is S b N.1.cls) (h00 : N.2.2.2.2.2.2.1 = 0 ∧ N.2.2.2.2.2.2.2 = 0) (kk : sj_G X S2 cl sl L q (rest)) : sj_G X S cl sl L pc st := by
  refine sj_callV C q hq hd hV hfit hM hst hn hcat hb8 (fun v S' hp => ?_)
  obtain ⟨rfl, rfl⟩ := hp
  rw [h00.1, h00.2]
  exact kk
theorem sj_callVNd {X : sj_X} {M N : sj_M} (C : sj_C X M) {S S2 : sj_St} {cl sl : Nat} {L : List (Option Value)} {pc idx n : Nat} {b : Nat} {r : Value} {As st rest : List Value} (q : Nat) (hq : pc + 3 = q) (hd : decode M.2.1 pc = .ok (.invokevirtual idx, 3)) (hV : sj_Vn M.1.cls idx N n) (hfit : sj_fit M N cl sl = true) (hM : sj_Ctr X.2.1 N (.ref b :: As) S (sj_eq (some r) S2)) (hst : st = As.reverse ++ .ref b :: rest) (hn : As.length = n) (hcat : Nat.ble (rest.map fun v => v.category).sum 8 = true) (hb8 : sj_is S b N.1.cls) (h00 : N.2.2.2.2.2.2.1 = 0 ∧ N.2.2.2.2.2.2.2 = 0) (kk : sj_G X S2 cl sl L q (r :: rest)) : sj_G X S cl sl L pc st := by
  refine sj_callVN C q hq hd hV hfit hM hst hn hcat hb8 (fun v S' hp => ?_)
  obtain ⟨rfl, rfl⟩ := hp
  rw [h00.1, h00.2]
  exact kk
theorem sj_callVNv {X : sj_X} {M N : sj_M} (C : sj_C X M) {S S2 : sj_St} {cl sl : Nat} {L : List (Option Value)} {pc idx n : Nat} {b : Nat} {As st rest : List Value} (q : Nat) (hq : pc + 3 = q) (hd : decode M.2.1 pc = .ok (.invokevirtual idx, 3)) (hV : sj_Vn M.1.cls idx N n) (hfit : sj_fit M N cl sl = true) (hM : sj_Ctr X.2.1 N (.ref b :: As) S (sj_eq none S2)) (hst : st = As.reverse ++ .ref b :: rest) (hn : As.length = n) (hcat : Nat.ble (rest.map fun v => v.category).sum 8 = true) (hb8 : sj_is S b N.1.cls) (h00 : N.2.2.2.2.2.2.1 = 0 ∧ N.2.2.2.2.2.2.2 = 0) (kk : sj_G X S2 cl sl L q (rest)) : sj_G X S cl sl L pc st := by
  refine sj_callVN C q hq hd hV hfit hM hst hn hcat hb8 (fun v S' hp => ?_)
  obtain ⟨rfl, rfl⟩ := hp
  rw [h00.1, h00.2]
  exact kk
theorem sj_callSd {X : sj_X} {M N : sj_M} (C : sj_C X M) {S S2 : sj_St} {cl sl : Nat} {L : List (Option Value)} {pc idx n : Nat} {r : Value} {As st rest : List Value} (q : Nat) (hq : pc + 3 = q) (hd : decode M.2.1 pc = .ok (.invokestatic idx, 3)) (hV : sj_Vs M.1.cls idx N n) (hfit : sj_fit M N cl sl = true) (hM : sj_Ctr X.2.1 N (As) S (sj_eq (some r) S2)) (hst : st = As.reverse ++ rest) (hn : As.length = n) (hcat : Nat.ble (rest.map fun v => v.category).sum 8 = true) (h00 : N.2.2.2.2.2.2.1 = 0 ∧ N.2.2.2.2.2.2.2 = 0) (kk : sj_G X S2 cl sl L q (r :: rest)) : sj_G X S cl sl L pc st := by
  refine sj_callS C q hq hd hV hfit hM hst hn hcat (fun v S' hp => ?_)
  obtain ⟨rfl, rfl⟩ := hp
  rw [h00.1, h00.2]
  exact kk
theorem sj_callSv {X : sj_X} {M N : sj_M} (C : sj_C X M) {S S2 : sj_St} {cl sl : Nat} {L : List (Option Value)} {pc idx n : Nat} {As st rest : List Value} (q : Nat) (hq : pc + 3 = q) (hd : decode M.2.1 pc = .ok (.invokestatic idx, 3)) (hV : sj_Vs M.1.cls idx N n) (hfit : sj_fit M N cl sl = true) (hM : sj_Ctr X.2.1 N (As) S (sj_eq none S2)) (hst : st = As.reverse ++ rest) (hn : As.length = n) (hcat : Nat.ble (rest.map fun v => v.category).sum 8 = true) (h00 : N.2.2.2.2.2.2.1 = 0 ∧ N.2.2.2.2.2.2.2 = 0) (kk : sj_G X S2 cl sl L q (rest)) : sj_G X S cl sl L pc st := by
  refine sj_callS C q hq hd hV hfit hM hst hn hcat (fun v S' hp => ?_)
  obtain ⟨rfl, rfl⟩ := hp
  rw [h00.1, h00.2]
  exact kk
theorem sj_callSNd {X : sj_X} {M N : sj_M} (C : sj_C X M) {S S2 : sj_St} {cl sl : Nat} {L : List (Option Value)} {pc idx n : Nat} {r : Value} {As st rest : List Value} (q : Nat) (hq : pc + 3 = q) (hd : decode M.2.1 pc = .ok (.invokestatic idx, 3)) (hV : sj_Vsn M.1.cls idx N n) (hfit : sj_fit M N cl sl = true) (hM : sj_Ctr X.2.1 N (As) S (sj_eq (some r) S2)) (hst : st = As.reverse ++ rest) (hn : As.length = n) (hcat : Nat.ble (rest.map fun v => v.category).sum 8 = true) (h00 : N.2.2.2.2.2.2.1 = 0 ∧ N.2.2.2.2.2.2.2 = 0) (kk : sj_G X S2 cl sl L q (r :: rest)) : sj_G X S cl sl L pc st := by
  refine sj_callSN C q hq hd hV hfit hM hst hn hcat (fun v S' hp => ?_)
  obtain ⟨rfl, rfl⟩ := hp
  rw [h00.1, h00.2]
  exact kk
theorem sj_callSNv {X : sj_X} {M N : sj_M} (C : sj_C X M) {S S2 : sj_St} {cl sl : Nat} {L : List (Option Value)} {pc idx n : Nat} {As st rest : List Value} (q : Nat) (hq : pc + 3 = q) (hd : decode M.2.1 pc = .ok (.invokestatic idx, 3)) (hV : sj_Vsn M.1.cls idx N n) (hfit : sj_fit M N cl sl = true) (hM : sj_Ctr X.2.1 N (As) S (sj_eq none S2)) (hst : st = As.reverse ++ rest) (hn : As.length = n) (hcat : Nat.ble (rest.map fun v => v.category).sum 8 = true) (h00 : N.2.2.2.2.2.2.1 = 0 ∧ N.2.2.2.2.2.2.2 = 0) (kk : sj_G X S2 cl sl L q (rest)) : sj_G X S cl sl L pc st := by
  refine sj_callSN C q hq hd hV hfit hM hst hn hcat (fun v S' hp => ?_)
  obtain ⟨rfl, rfl⟩ := hp
  rw [h00.1, h00.2]
  exact kk
theorem sj_callId {X : sj_X} {M N : sj_M} (C : sj_C X M) {S S2 : sj_St} {cl sl : Nat} {L : List (Option Value)} {pc idx n : Nat} {b : Nat} {r : Value} {As st rest : List Value} (q : Nat) (hq : pc + 3 = q) (hd : decode M.2.1 pc = .ok (.invokespecial idx, 3)) (hV : sj_Vi M.1.cls idx N n) (hfit : sj_fit M N cl sl = true) (hM : sj_Ctr X.2.1 N (.ref b :: As) S (sj_eq (some r) S2)) (hst : st = As.reverse ++ .ref b :: rest) (hn : As.length = n) (hcat : Nat.ble (rest.map fun v => v.category).sum 8 = true) (hini1 : N.1.name = "<init>") (hret1 : N.2.2.2.1 = none) (h00 : N.2.2.2.2.2.2.1 = 0 ∧ N.2.2.2.2.2.2.2 = 0) (kk : sj_G X S2 cl sl L q (r :: rest)) : sj_G X S cl sl L pc st := by
  refine sj_callI C q hq hd hV hfit hM hst hn hcat hini1 hret1 (fun v S' hp => ?_)
  obtain ⟨rfl, rfl⟩ := hp
  rw [h00.1, h00.2]
  exact kk
theorem sj_callIv {X : sj_X} {M N : sj_M} (C : sj_C X M) {S S2 : sj_St} {cl sl : Nat} {L : List (Option Value)} {pc idx n : Nat} {b : Nat} {As st rest : List Value} (q : Nat) (hq : pc + 3 = q) (hd : decode M.2.1 pc = .ok (.invokespecial idx, 3)) (hV : sj_Vi M.1.cls idx N n) (hfit : sj_fit M N cl sl = true) (hM : sj_Ctr X.2.1 N (.ref b :: As) S (sj_eq none S2)) (hst : st = As.reverse ++ .ref b :: rest) (hn : As.length = n) (hcat : Nat.ble (rest.map fun v => v.category).sum 8 = true) (hini1 : N.1.name = "<init>") (hret1 : N.2.2.2.1 = none) (h00 : N.2.2.2.2.2.2.1 = 0 ∧ N.2.2.2.2.2.2.2 = 0) (kk : sj_G X S2 cl sl L q (rest)) : sj_G X S cl sl L pc st := by
  refine sj_callI C q hq hd hV hfit hM hst hn hcat hini1 hret1 (fun v S' hp => ?_)
  obtain ⟨rfl, rfl⟩ := hp
  rw [h00.1, h00.2]
  exact kk
theorem sj_callINd {X : sj_X} {M N : sj_M} (C : sj_C X M) {S S2 : sj_St} {cl sl : Nat} {L : List (Option Value)} {pc idx n : Nat} {b : Nat} {r : Value} {As st rest : List Value} (q : Nat) (hq : pc + 3 = q) (hd : decode M.2.1 pc = .ok (.invokespecial idx, 3)) (hV : sj_Vin M.1.cls idx N n) (hfit : sj_fit M N cl sl = true) (hM : sj_Ctr X.2.1 N (.ref b :: As) S (sj_eq (some r) S2)) (hst : st = As.reverse ++ .ref b :: rest) (hn : As.length = n) (hcat : Nat.ble (rest.map fun v => v.category).sum 8 = true) (hini1 : N.1.name = "<init>") (hret1 : N.2.2.2.1 = none) (h00 : N.2.2.2.2.2.2.1 = 0 ∧ N.2.2.2.2.2.2.2 = 0) (kk : sj_G X S2 cl sl L q (r :: rest)) : sj_G X S cl sl L pc st := by
  refine sj_callIN C q hq hd hV hfit hM hst hn hcat hini1 hret1 (fun v S' hp => ?_)
  obtain ⟨rfl, rfl⟩ := hp
  rw [h00.1, h00.2]
  exact kk
theorem sj_callINv {X : sj_X} {M N : sj_M} (C : sj_C X M) {S S2 : sj_St} {cl sl : Nat} {L : List (Option Value)} {pc idx n : Nat} {b : Nat} {As st rest : List Value} (q : Nat) (hq : pc + 3 = q) (hd : decode M.2.1 pc = .ok (.invokespecial idx, 3)) (hV : sj_Vin M.1.cls idx N n) (hfit : sj_fit M N cl sl = true) (hM : sj_Ctr X.2.1 N (.ref b :: As) S (sj_eq none S2)) (hst : st = As.reverse ++ .ref b :: rest) (hn : As.length = n) (hcat : Nat.ble (rest.map fun v => v.category).sum 8 = true) (hini1 : N.1.name = "<init>") (hret1 : N.2.2.2.1 = none) (h00 : N.2.2.2.2.2.2.1 = 0 ∧ N.2.2.2.2.2.2.2 = 0) (kk : sj_G X S2 cl sl L q (rest)) : sj_G X S cl sl L pc st := by
  refine sj_callIN C q hq hd hV hfit hM hst hn hcat hini1 hret1 (fun v S' hp => ?_)
  obtain ⟨rfl, rfl⟩ := hp
  rw [h00.1, h00.2]
  exact kk
theorem sj_mmax {X : sj_X} {M : sj_M} (C : sj_C X M) {S : sj_St} {cl sl : Nat} {L : List (Option Value)} {pc : Nat} {rest : List Value} {x y : Int32} {idx : Nat} (q : Nat) (hq : pc + 3 = q) (hd : decode M.2.1 pc = .ok (.invokestatic idx, 3)) (hV : Cond.methodLink M.1.cls idx Lib.Math.max.name ∈ sj_GT ∧ Cond.static Lib.Math.max.name ∈ sj_GT ∧ Cond.initialized "java/lang/Math" ∈ sj_GT ∧ Cond.code Lib.Math.max.name Lib.Math.max.code 2 (some .int) ∈ sj_GT) (hfit : (Nat.ble 1 M.2.2.2.2.1 && (Nat.ble ((rest.map fun v => v.category).sum + 13) M.2.2.2.2.2.1 && (Nat.ble cl M.2.2.2.2.2.2.1 && Nat.ble sl M.2.2.2.2.2.2.2))) = true) (kk : sj_G X S cl sl L q (.int (if x < y then y else x) :: rest)) : sj_G X S cl sl L pc (.int y :: .int x :: rest) := by
  obtain ⟨p, l, e, R, s, m, args, below, meth, c, D, cy, A, nL, Q⟩ := X
  obtain ⟨ym, cc, nL0, ret, fr, lo, mc, ms⟩ := M
  obtain ⟨hx, hb, ⟨hml, hnL⟩, hown, hts, ⟨hlk, hret, hnm⟩, hK, hAm, hA, hRR⟩ := C
  subst hq
  subst hRR
  intro H locs ls h1 h2 h3
  simp only [Bool.and_eq_true] at hfit
  exact va_mmax hx hb (hml.trans h3.1.symm) hown (hts _ hV.1) (hts _ hV.2.1) (hts _ hV.2.2.1) (hts _ hV.2.2.2) (Nat.le_of_ble_eq_true hfit.1) (Nat.le_of_ble_eq_true hfit.2.1) (Nat.le_of_ble_eq_true hfit.2.2.1) (Nat.le_of_ble_eq_true hfit.2.2.2) hd (kk H locs ls h1 h2 h3)
theorem sj_mmin {X : sj_X} {M : sj_M} (C : sj_C X M) {S : sj_St} {cl sl : Nat} {L : List (Option Value)} {pc : Nat} {rest : List Value} {x y : Int32} {idx : Nat} (q : Nat) (hq : pc + 3 = q) (hd : decode M.2.1 pc = .ok (.invokestatic idx, 3)) (hV : Cond.methodLink M.1.cls idx Lib.Math.min.name ∈ sj_GT ∧ Cond.static Lib.Math.min.name ∈ sj_GT ∧ Cond.initialized "java/lang/Math" ∈ sj_GT ∧ Cond.code Lib.Math.min.name Lib.Math.min.code 2 (some .int) ∈ sj_GT) (hfit : (Nat.ble 1 M.2.2.2.2.1 && (Nat.ble ((rest.map fun v => v.category).sum + 13) M.2.2.2.2.2.1 && (Nat.ble cl M.2.2.2.2.2.2.1 && Nat.ble sl M.2.2.2.2.2.2.2))) = true) (kk : sj_G X S cl sl L q (.int (if y < x then y else x) :: rest)) : sj_G X S cl sl L pc (.int y :: .int x :: rest) := by
  obtain ⟨p, l, e, R, s, m, args, below, meth, c, D, cy, A, nL, Q⟩ := X
  obtain ⟨ym, cc, nL0, ret, fr, lo, mc, ms⟩ := M
  obtain ⟨hx, hb, ⟨hml, hnL⟩, hown, hts, ⟨hlk, hret, hnm⟩, hK, hAm, hA, hRR⟩ := C
  subst hq
  subst hRR
  intro H locs ls h1 h2 h3
  simp only [Bool.and_eq_true] at hfit
  exact va_mmin hx hb (hml.trans h3.1.symm) hown (hts _ hV.1) (hts _ hV.2.1) (hts _ hV.2.2.1) (hts _ hV.2.2.2) (Nat.le_of_ble_eq_true hfit.1) (Nat.le_of_ble_eq_true hfit.2.1) (Nat.le_of_ble_eq_true hfit.2.2.1) (Nat.le_of_ble_eq_true hfit.2.2.2) hd (kk H locs ls h1 h2 h3)
theorem sj_mabs {X : sj_X} {M : sj_M} (C : sj_C X M) {S : sj_St} {cl sl : Nat} {L : List (Option Value)} {pc : Nat} {rest : List Value} {x : Int32} {idx : Nat} (q : Nat) (hq : pc + 3 = q) (hd : decode M.2.1 pc = .ok (.invokestatic idx, 3)) (hV : Cond.methodLink M.1.cls idx Lib.Math.abs.name ∈ sj_GT ∧ Cond.static Lib.Math.abs.name ∈ sj_GT ∧ Cond.initialized "java/lang/Math" ∈ sj_GT ∧ Cond.code Lib.Math.abs.name Lib.Math.abs.code 1 (some .int) ∈ sj_GT) (hfit : (Nat.ble 1 M.2.2.2.2.1 && (Nat.ble ((rest.map fun v => v.category).sum + 13) M.2.2.2.2.2.1 && (Nat.ble cl M.2.2.2.2.2.2.1 && Nat.ble sl M.2.2.2.2.2.2.2))) = true) (kk : sj_G X S cl sl L q (.int (if 0 ≤ x then x else 0 - x) :: rest)) : sj_G X S cl sl L pc (.int x :: rest) := by
  obtain ⟨p, l, e, R, s, m, args, below, meth, c, D, cy, A, nL, Q⟩ := X
  obtain ⟨ym, cc, nL0, ret, fr, lo, mc, ms⟩ := M
  obtain ⟨hx, hb, ⟨hml, hnL⟩, hown, hts, ⟨hlk, hret, hnm⟩, hK, hAm, hA, hRR⟩ := C
  subst hq
  subst hRR
  intro H locs ls h1 h2 h3
  simp only [Bool.and_eq_true] at hfit
  exact va_mabs hx hb (hml.trans h3.1.symm) hown (hts _ hV.1) (hts _ hV.2.1) (hts _ hV.2.2.1) (hts _ hV.2.2.2) (Nat.le_of_ble_eq_true hfit.1) (Nat.le_of_ble_eq_true hfit.2.1) (Nat.le_of_ble_eq_true hfit.2.2.1) (Nat.le_of_ble_eq_true hfit.2.2.2) hd (kk H locs ls h1 h2 h3)
/-- one of the two static rows -/
def sj_Tab (X : sj_X) (which : Bool) (t : Nat) : Prop := match X with
  | (_, _, _, _, s, _, _, _, _, _, _, _, A, _, _) => va_T .int t 9 (fun j => .int ((if which then sj_t2 else sj_t1) j)) A s s.heap
theorem sj_getsR {X : sj_X} {M : sj_M} (C : sj_C X M) {S : sj_St} {cl sl : Nat} {L : List (Option Value)} {pc idx : Nat} {rest : List Value} (which : Bool) (q : Nat) (hq : pc + 3 = q) (hd : decode M.2.1 pc = .ok (.getstatic idx, 3)) (hl : Cond.fieldLink M.1.cls idx "SlantOaths" (if which then "MOST_OF_SETTING" else "FIRST_SETTINGS") "[I" ∈ sj_GT ∨ Cond.fieldLinkNest M.1.cls idx "SlantOaths" (if which then "MOST_OF_SETTING" else "FIRST_SETTINGS") "[I" "SlantOaths" ∈ sj_NWl) (kk : ∀ t : Nat, sj_Tab X which t → sj_G X S cl sl L q (.ref t :: rest)) : sj_G X S cl sl L pc rest := by
  obtain ⟨p, l, e, R, s, m, args, below, meth, c, D, cy, A, nL, Q⟩ := X
  obtain ⟨ym, cc, nL0, ret, fr, lo, mc, ms⟩ := M
  obtain ⟨hx, hb, ⟨hml, hnL⟩, hown, hts, ⟨hlk, hret, hnm⟩, hK, hAm, hA, hRR⟩ := C
  subst hq
  intro H locs ls h1 h2 h3
  obtain ⟨t1, t2, z1, z2, z3, z4⟩ := hAm.2.1
  cases which with
  | false =>
    rcases hl with hl | hl
    · exact va_gets hx hb z1 h2 hown (hts _ hl) (fun _ h => h) hd (kk t1 z2 H locs ls h1 h2 h3)
    · exact va_getsN hx hb z1 h2 hown ((hAm.1 _ hl).use rfl) (fun _ h => h) hd (kk t1 z2 H locs ls h1 h2 h3)
  | true =>
    rcases hl with hl | hl
    · exact va_gets hx hb z3 h2 hown (hts _ hl) (fun _ h => h) hd (kk t2 z4 H locs ls h1 h2 h3)
    · exact va_getsN hx hb z3 h2 hown ((hAm.1 _ hl).use rfl) (fun _ h => h) hd (kk t2 z4 H locs ls h1 h2 h3)
theorem sj_tld {X : sj_X} {M : sj_M} (C : sj_C X M) {S : sj_St} {cl sl : Nat} {L : List (Option Value)} {pc t : Nat} {rest : List Value} {which : Bool} {i : Int32} (q : Nat) (hq : pc + 1 = q) (hd : decode M.2.1 pc = .ok (.iaload, 1)) (hT : sj_Tab X which t) (hi : vp_in i 9) (kk : sj_G X S cl sl L q (.int ((if which then sj_t2 else sj_t1) i.toNatClampNeg) :: rest)) : sj_G X S cl sl L pc (.int i :: .ref t :: rest) := by
  obtain ⟨p, l, e, R, s, m, args, below, meth, c, D, cy, A, nL, Q⟩ := X
  obtain ⟨ym, cc, nL0, ret, fr, lo, mc, ms⟩ := M
  obtain ⟨hx, hb, ⟨hml, hnL⟩, hown, hts, ⟨hlk, hret, hnm⟩, hK, hAm, hA, hRR⟩ := C
  subst hq
  intro H locs ls h1 h2 h3
  cases which with
  | false => exact va_ti hx hb hT h2 hi rfl hd (kk H locs ls h1 h2 h3)
  | true => exact va_ti hx hb hT h2 hi rfl hd (kk H locs ls h1 h2 h3)
theorem sj_tlen {X : sj_X} {M : sj_M} (C : sj_C X M) {S : sj_St} {cl sl : Nat} {L : List (Option Value)} {pc t : Nat} {rest : List Value} {which : Bool} (q : Nat) (hq : pc + 1 = q) (hd : decode M.2.1 pc = .ok (.arraylength, 1)) (hT : sj_Tab X which t) (kk : sj_G X S cl sl L q (.int 9 :: rest)) : sj_G X S cl sl L pc (.ref t :: rest) := by
  obtain ⟨p, l, e, R, s, m, args, below, meth, c, D, cy, A, nL, Q⟩ := X
  obtain ⟨ym, cc, nL0, ret, fr, lo, mc, ms⟩ := M
  obtain ⟨hx, hb, ⟨hml, hnL⟩, hown, hts, ⟨hlk, hret, hnm⟩, hK, hAm, hA, hRR⟩ := C
  subst hq
  intro H locs ls h1 h2 h3
  exact va_tlen hx hb hT h2 rfl hd (kk H locs ls h1 h2 h3)
