/-! THE LAW'S TABLE: its words -/
theorem sp_vp {S : sj_St} {a n i : Nat} (h : sj_il S a = n) (hi : i < n) (hn : n < 1000) : vp_in (nI i) (sj_il S a) := by
  rw [h]
  exact vp_in_nI hi (by omega)
def sp_low (v n : Int32) : Int32 := (v &&& 2147483647) - (v &&& 2147483647) / n * n
theorem sp_low_in (v : Int32) {n : Nat} (h0 : 0 < n) (hn : n < 2 ^ 31) : ∃ j, j < n ∧ sp_low v (nI n) = nI j := by
  obtain ⟨j, hj, ej⟩ := pk_andE v (m := 2147483647) 31 (by decide)
  refine ⟨j % n, Nat.mod_lt _ h0, ?_⟩
  unfold sp_low
  rw [ej]
  exact pk_rem hj h0 hn
/-- a stroke's numbers in one -/
def sp_tk (m : Nat → Int32) (i e : Nat) (T : Int32) : Prop := ∃ x0 x1 x2 x3 x4 : Nat, (x0 ≤ 90 ∧ x1 ≤ 60 ∧ x2 ≤ 1 ∧ x3 ≤ 9 ∧ x4 ≤ 9) ∧ (sj_os m i e 0 = nI x0 - 45 ∧ sj_os m i e 1 = nI x1 ∧ sj_os m i e 2 = nI x2 ∧ sj_os m i e 3 = nI x3 ∧ sj_os m i e 4 = nI x4) ∧ T = nI (x0 + 128 * x1 + 8192 * x2 + 16384 * x3 + 262144 * x4)
theorem sp_tk_0 {m : Nat → Int32} {i e : Nat} {T : Int32} (h : sp_tk m i e T) : (T &&& 127) - 45 = sj_os m i e 0 := by
  obtain ⟨x0, x1, x2, x3, x4, ⟨b0, b1, b2, b3, b4⟩, ⟨e0, e1, e2, e3, e4⟩, rfl⟩ := h
  rw [e0, pk_andN (by omega) 7 (by decide), show (x0 + 128 * x1 + 8192 * x2 + 16384 * x3 + 262144 * x4) % 2 ^ 7 = x0 by omega]
theorem sp_tk_1 {m : Nat → Int32} {i e : Nat} {T : Int32} (h : sp_tk m i e T) : (T >>> (7 &&& 31)) &&& 63 = sj_os m i e 1 := by
  obtain ⟨x0, x1, x2, x3, x4, ⟨b0, b1, b2, b3, b4⟩, ⟨e0, e1, e2, e3, e4⟩, rfl⟩ := h
  rw [e1, pk_shrN (by omega) _ 7 (by decide), pk_andN (by omega) 6 (by decide), show (x0 + 128 * x1 + 8192 * x2 + 16384 * x3 + 262144 * x4) / 2 ^ 7 % 2 ^ 6 = x1 by omega]
theorem sp_tk_2 {m : Nat → Int32} {i e : Nat} {T : Int32} (h : sp_tk m i e T) : (T >>> (13 &&& 31)) &&& 1 = sj_os m i e 2 := by
  obtain ⟨x0, x1, x2, x3, x4, ⟨b0, b1, b2, b3, b4⟩, ⟨e0, e1, e2, e3, e4⟩, rfl⟩ := h
  rw [e2, pk_shrN (by omega) _ 13 (by decide), pk_andN (by omega) 1 (by decide), show (x0 + 128 * x1 + 8192 * x2 + 16384 * x3 + 262144 * x4) / 2 ^ 13 % 2 ^ 1 = x2 by omega]
theorem sp_tk_3 {m : Nat → Int32} {i e : Nat} {T : Int32} (h : sp_tk m i e T) : (T >>> (14 &&& 31)) &&& 15 = sj_os m i e 3 := by
  obtain ⟨x0, x1, x2, x3, x4, ⟨b0, b1, b2, b3, b4⟩, ⟨e0, e1, e2, e3, e4⟩, rfl⟩ := h
  rw [e3, pk_shrN (by omega) _ 14 (by decide), pk_andN (by omega) 4 (by decide), show (x0 + 128 * x1 + 8192 * x2 + 16384 * x3 + 262144 * x4) / 2 ^ 14 % 2 ^ 4 = x3 by omega]
theorem sp_tk_4 {m : Nat → Int32} {i e : Nat} {T : Int32} (h : sp_tk m i e T) : T >>> (18 &&& 31) = sj_os m i e 4 := by
  obtain ⟨x0, x1, x2, x3, x4, ⟨b0, b1, b2, b3, b4⟩, ⟨e0, e1, e2, e3, e4⟩, rfl⟩ := h
  rw [e4, pk_shrN (by omega) _ 18 (by decide), show (x0 + 128 * x1 + 8192 * x2 + 16384 * x3 + 262144 * x4) / 2 ^ 18 = x4 by omega]
/-- an oath in one number -/
def sp_pn (m : Nat → Int32) (k : Nat) : Nat := sj_tn (sj_oa m k 0) + 16 * sj_tn (sj_oa m k 1) + 256 * sj_tn (sj_oa m k 2)
/-- what the law's rows hold beside the state m -/
def sp_R (q a n t p : Nat → Int32) (m : Nat → Int32) : Prop := (∀ j, j < 12 → q j = m j) ∧ (∀ i, i < sj_tn (m 9) → a i = sj_of m i 0 ∧ n i = sj_of m i 1 ∧ ∀ e, e < sj_ns m i → sp_tk m i e (t (8 * i + e))) ∧ ∀ k, k < sj_tn (m 10) → p k = nI (sp_pn m k)
/-- the law's five rows -/
def sp_B (S : sj_St) (rq ra rn rt rp : Nat) (m : Nat → Int32) : Prop := (sj_kd S rq = some 8 ∧ sj_il S rq = 12) ∧ (sj_kd S ra = some 8 ∧ sj_il S ra = 9) ∧ (sj_kd S rn = some 8 ∧ sj_il S rn = 9) ∧ (sj_kd S rt = some 8 ∧ sj_il S rt = 64) ∧ (sj_kd S rp = some 8 ∧ sj_il S rp = 29) ∧ sp_R (sj_ia S rq) (sj_ia S ra) (sj_ia S rn) (sj_ia S rt) (sj_ia S rp) m
theorem sp_ns {m : Nat → Int32} (hI : sj_inv m) {i : Nat} (hi : i < sj_tn (m 9)) : sj_of m i 1 = nI (sj_ns m i) ∧ 1 ≤ sj_ns m i ∧ sj_ns m i ≤ 8 := (hI.2.2.2.1 i hi).2.1
/-- the least, the greatest, the unrest, as the law goes -/
def sp_mn (m : Nat → Int32) (i : Nat) : Nat → Int32
  | 0 => 99
  | k + 1 => if sp_mn m i k ≤ sj_os m i k 0 then sp_mn m i k else sj_os m i k 0
def sp_mx (m : Nat → Int32) (i : Nat) : Nat → Int32
  | 0 => -99
  | k + 1 => if sj_os m i k 0 ≤ sp_mx m i k then sp_mx m i k else sj_os m i k 0
def sp_by (m : Nat → Int32) (i k : Nat) : Int32 := if k = 0 then 0 else sj_os m i k 3 - sj_os m i (k - 1) 3
def sp_ur (m : Nat → Int32) (i : Nat) (k : Nat) : Int32 := sj_sum (fun e => if 0 ≤ sp_by m i e then sp_by m i e else -sp_by m i e) k
