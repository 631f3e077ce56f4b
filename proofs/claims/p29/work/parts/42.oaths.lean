/-! THE CLASS: the oaths and the hands that they join -/
abbrev sq_C : Type := Int32 × Int32 × (Nat → Int32) × (Nat → Int32) × (Nat → Int32) × (Nat → Int32)
def sq_ol (S : sj_St) (o : Nat) (d : Nat → Nat) : Prop := sj_kd S o = some 1 ∧ (sj_rf S o 2 = some (d 1) ∧ sj_rw S (d 1) (d 2) 28) ∧ (sj_rf S o 3 = some (d 3) ∧ sj_rw S (d 3) (d 4) 28) ∧ (sj_rf S o 4 = some (d 5) ∧ sj_rw S (d 5) (d 6) 28) ∧ (sj_rf S o 5 = some (d 7) ∧ sj_rw S (d 7) (d 8) 8) ∧ ∀ i j, i < 9 → j < 9 → d i = d j → i = j
theorem sq_ol_ne {S : sj_St} {o : Nat} {d : Nat → Nat} (h : sq_ol S o d) {i j : Nat} (hij : i ≠ j) (hi : i < 9 := by omega) (hj : j < 9 := by omega) : d i ≠ d j := fun e => hij (h.2.2.2.2.2 i j hi hj e)
def sq_os (S : sj_St) (o : Nat) (d : Nat → Nat) (c : sq_C) : sj_St := sj_sIa (sj_sIa (sj_sIa (sj_sIa (sj_wFi (sj_wFi S o 0 c.1) o 1 c.2.1) (d 2) c.2.2.1) (d 4) c.2.2.2.1) (d 6) c.2.2.2.2.1) (d 8) c.2.2.2.2.2
def sq_or (S : sj_St) (o : Nat) (d : Nat → Nat) : sq_C := (sj_fi S o 0, sj_fi S o 1, sj_ia S (d 2), sj_ia S (d 4), sj_ia S (d 6), sj_ia S (d 8))
theorem sj_sIa_comm (S : sj_St) {a b : Nat} (h : a ≠ b) (f g : Nat → Int32) : sj_sIa (sj_sIa S a f) b g = sj_sIa (sj_sIa S b g) a f := by
  unfold sj_sIa
  dsimp only
  rw [sj_up_comm _ h]
theorem sq_fcomm (S : sj_St) (o : Nat) (u v : Int32) : sj_wFi (sj_wFi S o 1 v) o 0 u = sj_wFi (sj_wFi S o 0 u) o 1 v := by
  unfold sj_wFi
  dsimp only
  rw [sj_up_up, sj_up_up, sj_up_self, sj_up_self, sj_up_comm _ (show (1 : Nat) ≠ 0 by omega)]
theorem sj_sIa_idv {S : sj_St} {a : Nat} {f : Nat → Int32} (h : sj_ia S a = f) : sj_sIa S a f = S := by
  rw [← h]
  exact sj_sIa_id S a
section
variable {S : sj_St} {o : Nat} {d : Nat → Nat} {n w : Int32} {f1 f2 f3 f7 : Nat → Int32}
theorem sq_r8 : sj_ia (sq_os S o d (n, w, f1, f2, f3, f7)) (d 8) = f7 := sj_ia_sIa _ _ _
theorem sq_r6 (h : sq_ol S o d) : sj_ia (sq_os S o d (n, w, f1, f2, f3, f7)) (d 6) = f3 := (sj_ia_sIa_ne _ _ (sq_ol_ne h (by omega))).trans (sj_ia_sIa _ _ _)
theorem sq_r4 (h : sq_ol S o d) : sj_ia (sq_os S o d (n, w, f1, f2, f3, f7)) (d 4) = f2 := (sj_ia_sIa_ne _ _ (sq_ol_ne h (by omega))).trans ((sj_ia_sIa_ne _ _ (sq_ol_ne h (by omega))).trans (sj_ia_sIa _ _ _))
theorem sq_r2 (h : sq_ol S o d) : sj_ia (sq_os S o d (n, w, f1, f2, f3, f7)) (d 2) = f1 := (sj_ia_sIa_ne _ _ (sq_ol_ne h (by omega))).trans ((sj_ia_sIa_ne _ _ (sq_ol_ne h (by omega))).trans ((sj_ia_sIa_ne _ _ (sq_ol_ne h (by omega))).trans (sj_ia_sIa _ _ _)))
theorem sq_f1 : sj_fi (sq_os S o d (n, w, f1, f2, f3, f7)) o 1 = w := sj_fi_wFi (sj_wFi S o 0 n) o 1 w
theorem sq_f0 : sj_fi (sq_os S o d (n, w, f1, f2, f3, f7)) o 0 = n := (sj_fi_wFi_k (sj_wFi S o 0 n) o w (show (0 : Nat) ≠ 1 by omega)).trans (sj_fi_wFi S o 0 n)
theorem sq_w8 (g : Nat → Int32) : sj_sIa (sq_os S o d (n, w, f1, f2, f3, f7)) (d 8) g = sq_os S o d (n, w, f1, f2, f3, g) := sj_sIa_sIa _ _ _ _
theorem sq_w6 (h : sq_ol S o d) (g : Nat → Int32) : sj_sIa (sq_os S o d (n, w, f1, f2, f3, f7)) (d 6) g = sq_os S o d (n, w, f1, f2, g, f7) := by
  unfold sq_os
  dsimp only
  rw [sj_sIa_comm _ (sq_ol_ne h (i := 8) (j := 6) (by omega)), sj_sIa_sIa]
theorem sq_w4 (h : sq_ol S o d) (g : Nat → Int32) : sj_sIa (sq_os S o d (n, w, f1, f2, f3, f7)) (d 4) g = sq_os S o d (n, w, f1, g, f3, f7) := by
  unfold sq_os
  dsimp only
  rw [sj_sIa_comm _ (sq_ol_ne h (i := 8) (j := 4) (by omega)), sj_sIa_comm _ (sq_ol_ne h (i := 6) (j := 4) (by omega)), sj_sIa_sIa]
theorem sq_w2 (h : sq_ol S o d) (g : Nat → Int32) : sj_sIa (sq_os S o d (n, w, f1, f2, f3, f7)) (d 2) g = sq_os S o d (n, w, g, f2, f3, f7) := by
  unfold sq_os
  dsimp only
  rw [sj_sIa_comm _ (sq_ol_ne h (i := 8) (j := 2) (by omega)), sj_sIa_comm _ (sq_ol_ne h (i := 6) (j := 2) (by omega)), sj_sIa_comm _ (sq_ol_ne h (i := 4) (j := 2) (by omega)), sj_sIa_sIa]
theorem sq_v1 (v : Int32) : sj_wFi (sq_os S o d (n, w, f1, f2, f3, f7)) o 1 v = sq_os S o d (n, v, f1, f2, f3, f7) := by
  unfold sq_os
  dsimp only
  rw [← sj_sIa_wFi, ← sj_sIa_wFi, ← sj_sIa_wFi, ← sj_sIa_wFi, sj_wFi_wFi]
theorem sq_v0 (v : Int32) : sj_wFi (sq_os S o d (n, w, f1, f2, f3, f7)) o 0 v = sq_os S o d (v, w, f1, f2, f3, f7) := by
  unfold sq_os
  dsimp only
  rw [← sj_sIa_wFi, ← sj_sIa_wFi, ← sj_sIa_wFi, ← sj_sIa_wFi, sq_fcomm, sj_wFi_wFi]
theorem sq_os_id (S : sj_St) (o : Nat) (d : Nat → Nat) : sq_os S o d (sq_or S o d) = S := by
  have e1 : sj_wFi (sj_wFi S o 0 (sj_fi S o 0)) o 1 (sj_fi S o 1) = S := (congrArg (fun T => sj_wFi T o 1 (sj_fi S o 1)) (sj_wFi_id (S := S) (a := o) (k := 0) rfl)).trans (sj_wFi_id (S := S) (a := o) (k := 1) rfl)
  unfold sq_os sq_or
  dsimp only
  rw [e1, sj_sIa_id, sj_sIa_id, sj_sIa_id, sj_sIa_id]
theorem sq_os_os (S : sj_St) (o : Nat) (d : Nat → Nat) (c c' : sq_C) (h : sq_ol S o d) : sq_os (sq_os S o d c) o d c' = sq_os S o d c' := by
  obtain ⟨n, w, f1, f2, f3, f7⟩ := c
  obtain ⟨n', w', g1, g2, g3, g7⟩ := c'
  show sj_sIa (sj_sIa (sj_sIa (sj_sIa (sj_wFi (sj_wFi (sq_os S o d (n, w, f1, f2, f3, f7)) o 0 n') o 1 w') (d 2) g1) (d 4) g2) (d 6) g3) (d 8) g7 = _
  rw [sq_v0, sq_v1, sq_w2 h, sq_w4 h, sq_w6 h, sq_w8]
end
/-- is oath k of the sheet s -/
def sq_of (f1 f2 : Nat → Int32) (k : Nat) (s : Int32) : Bool := decide (f1 k = s) || decide (f2 k = s)
def sq_po (f1 f2 : Nat → Int32) (n : Nat) (s e : Int32) : Int32 := sj_fst (fun k => !decide (s = e) && (sq_of f1 f2 k s && sq_of f1 f2 k e)) n 0
def sq_ko (f1 f2 f3 : Nat → Int32) (n : Nat) (s e : Int32) : Int32 := if sq_po f1 f2 n s e = -1 then -1 else sj_at 28 f3 (sq_po f1 f2 n s e)
def sq_inH (f7 : Nat → Int32) (s a b : Int32) : Bool := decide (sj_at 8 f7 s = sj_at 8 f7 a) || decide (sj_at 8 f7 s = sj_at 8 f7 b)
/-- is there a place from k on, of j places, where p holds -/
def sq_ex (p : Nat → Bool) : Nat → Nat → Bool
  | 0, _ => false
  | j + 1, k => p k || sq_ex p j (k + 1)
theorem sq_ex_s {p : Nat → Bool} {n k : Nat} (h : k < n) : sq_ex p (n - k) k = (p k || sq_ex p (n - (k + 1)) (k + 1)) := by
  obtain ⟨j, hj⟩ : ∃ j, n - k = j + 1 := ⟨n - k - 1, by omega⟩
  rw [hj, show n - (k + 1) = j by omega]
  rfl
def sq_fbp (f1 f2 f3 f7 : Nat → Int32) (a b : Int32) (k : Nat) : Bool := decide (f3 k = 0) && (sq_inH f7 (f1 k) a b && sq_inH f7 (f2 k) a b)
/-- the sheets that an oath is of, as a mask; the masks that the oaths lead to -/
def sq_en (f1 f2 : Nat → Int32) (k : Nat) : Int32 := (1 <<< (f1 k &&& 31)) ||| (1 <<< (f2 k &&& 31))
def sq_sw (f1 f2 f3 : Nat → Int32) (q x : Int32) : Nat → Int32
  | 0 => x
  | k + 1 => if ¬ nI k = q ∧ f3 k = 1 ∧ ¬ sq_sw f1 f2 f3 q x k &&& sq_en f1 f2 k = 0 then sq_sw f1 f2 f3 q x k ||| sq_en f1 f2 k else sq_sw f1 f2 f3 q x k
def sq_ldr (f1 f2 f3 : Nat → Int32) (n : Nat) (q : Int32) : Nat → Int32 → Int32
  | 0, x => x
  | j + 1, x => if sq_sw f1 f2 f3 q x n = x then x else sq_ldr f1 f2 f3 n q j (sq_sw f1 f2 f3 q x n)
def sq_lds (f1 f2 f3 : Nat → Int32) (n : Nat) (a b q : Int32) : Bool := !decide (sq_ldr f1 f2 f3 n q 8 (1 <<< (a &&& 31)) &&& (1 <<< (b &&& 31)) = 0)
def sq_hlt (f1 f2 f3 : Nat → Int32) (n k : Nat) : Bool := decide (f3 k = 1) && !sq_lds f1 f2 f3 n (f1 k) (f2 k) (nI k)
def sq_no (f1 f2 f3 : Nat → Int32) (n k : Nat) : Nat → Int32
  | 0 => f1 k
  | 1 => f2 k
  | 2 => f3 k
  | _ => sj_bi (sq_hlt f1 f2 f3 n k)
/-- the hands behind k oaths -/
def sq_hn (f1 f2 f3 : Nat → Int32) : Nat → Nat → Int32
  | 0 => nI
  | k + 1 => if f3 k = 1 then sj_jn 8 (sq_hn f1 f2 f3 k) (sj_at 8 (sq_hn f1 f2 f3 k) (f1 k)) (sj_at 8 (sq_hn f1 f2 f3 k) (f2 k)) else sq_hn f1 f2 f3 k
def sq_nw (g v : Int32) : Int32 := if g < v then v - 1 else v
set_option maxRecDepth 100000 in
set_option maxHeartbeats 150000 in
theorem ct_X1_isOf (l : Launch) {S : sj_St} {o : Nat} {d : Nat → Nat} (h : sq_ol S o d) {n : Nat} (hn : n ≤ 28) {w : Int32} {f1 f2 f3 f7 : Nat → Int32} (k : Nat) (hk : k < 28) (s : Int32) : sj_Ctr l mX1_isOf [.ref o, .int (nI k), .int s] (sq_os S o d (nI n, w, f1, f2, f3, f7)) (sj_eq (some (.int (sj_bi (sq_of f1 f2 k s)))) (sq_os S o d (nI n, w, f1, f2, f3, f7))) := by
  refine sj_start ([some (.ref o), some (.int (nI k)), some (.int s)]) (by decide +kernel) rfl rfl (fun X hX C hR => ?_)
  subst hX
  have hV : sq_ol (sq_os S o d (nI n, w, f1, f2, f3, f7)) o d := h
  obtain ⟨kd_o, ⟨rf_o_2, hr1⟩, ⟨rf_o_3, hr3⟩, ⟨rf_o_4, hr5⟩, ⟨rf_o_5, hr7⟩, hinj⟩ := hV
  have kd_r1 := hr1.1
  have kd_r3 := hr3.1
  have kd_r5 := hr5.1
  have kd_r7 := hr7.1
  refine sj_aload_n C 1 rfl dX1_isOf_0 rfl rfl ?_
  refine sj_getr C 4 rfl fd_X1_14 dX1_isOf_1 kd_o rf_o_2 ?_
  refine sj_iload_n C 5 rfl dX1_isOf_4 rfl rfl ?_
  refine sj_callVd C 8 rfl dX1_isOf_5 cv_X1_54 rfl (ct_X2_at _ hr1 _) rfl rfl rfl ⟨_, _, kd_r1, rfl, rfl, by decide⟩ ⟨rfl, rfl⟩ ?_
  rw [sq_r2 h, sj_at_nI (j := k) _ hk (by omega)]
  refine sj_iload_n C 9 rfl dX1_isOf_8 rfl rfl ?_
  refine sj_icmp_eq C 24 12 rfl rfl dX1_isOf_9 (fun c_9 => ?_) (fun c_9 => ?_)
  · refine sj_iconstv C (1) 25 rfl dX1_isOf_24 rfl ?_
    refine sj_goto C 29 rfl dX1_isOf_25 ?_
    refine sj_zret C hR rfl rfl rfl dX1_isOf_29 ?_
    refine ⟨congrArg (fun z => some (Value.int z)) ?_, rfl⟩
    unfold sq_of
    rw [decide_eq_true c_9, Bool.true_or]
    rfl
  · refine sj_aload_n C 13 rfl dX1_isOf_12 rfl rfl ?_
    refine sj_getr C 16 rfl fd_X1_20 dX1_isOf_13 kd_o rf_o_3 ?_
    refine sj_iload_n C 17 rfl dX1_isOf_16 rfl rfl ?_
    refine sj_callVd C 20 rfl dX1_isOf_17 cv_X1_54 rfl (ct_X2_at _ hr3 _) rfl rfl rfl ⟨_, _, kd_r3, rfl, rfl, by decide⟩ ⟨rfl, rfl⟩ ?_
    rw [sq_r4 h, sj_at_nI (j := k) _ hk (by omega)]
    refine sj_iload_n C 21 rfl dX1_isOf_20 rfl rfl ?_
    refine sj_icmp_ne C 28 24 rfl rfl dX1_isOf_21 (fun c_21 => ?_) (fun c_21 => ?_)
    · refine sj_iconstv C (0) 29 rfl dX1_isOf_28 rfl ?_
      refine sj_zret C hR rfl rfl rfl dX1_isOf_29 ?_
      refine ⟨congrArg (fun z => some (Value.int z)) ?_, rfl⟩
      unfold sq_of
      rw [decide_eq_false c_9, decide_eq_false c_21]
      rfl
    · refine sj_iconstv C (1) 25 rfl dX1_isOf_24 rfl ?_
      refine sj_goto C 29 rfl dX1_isOf_25 ?_
      refine sj_zret C hR rfl rfl rfl dX1_isOf_29 ?_
      refine ⟨congrArg (fun z => some (Value.int z)) ?_, rfl⟩
      unfold sq_of
      rw [decide_eq_false c_9, decide_eq_true c_21]
      rfl
set_option maxRecDepth 100000 in
set_option maxHeartbeats 150000 in
theorem ct_X1_isInHands (l : Launch) {S : sj_St} {o : Nat} {d : Nat → Nat} (h : sq_ol S o d) {n : Nat} (hn : n ≤ 28) {w : Int32} {f1 f2 f3 f7 : Nat → Int32} (s a b : Int32) : sj_Ctr l mX1_isInHands [.ref o, .int s, .int a, .int b] (sq_os S o d (nI n, w, f1, f2, f3, f7)) (sj_eq (some (.int (sj_bi (sq_inH f7 s a b)))) (sq_os S o d (nI n, w, f1, f2, f3, f7))) := by
  refine sj_start ([some (.ref o), some (.int s), some (.int a), some (.int b), none]) (by decide +kernel) rfl rfl (fun X hX C hR => ?_)
  subst hX
  have hV : sq_ol (sq_os S o d (nI n, w, f1, f2, f3, f7)) o d := h
  obtain ⟨kd_o, ⟨rf_o_2, hr1⟩, ⟨rf_o_3, hr3⟩, ⟨rf_o_4, hr5⟩, ⟨rf_o_5, hr7⟩, hinj⟩ := hV
  have kd_r1 := hr1.1
  have kd_r3 := hr3.1
  have kd_r5 := hr5.1
  have kd_r7 := hr7.1
  refine sj_aload_n C 1 rfl dX1_isInHands_0 rfl rfl ?_
  refine sj_getr C 4 rfl fd_X1_26 dX1_isInHands_1 kd_o rf_o_5 ?_
  refine sj_iload_n C 5 rfl dX1_isInHands_4 rfl rfl ?_
  refine sj_callVd C 8 rfl dX1_isInHands_5 cv_X1_54 rfl (ct_X2_at _ hr7 _) rfl rfl rfl ⟨_, _, kd_r7, rfl, rfl, by decide⟩ ⟨rfl, rfl⟩ ?_
  rw [sq_r8]
  refine sj_istore_4 C 10 rfl dX1_isInHands_8 rfl rfl ?_
  refine sj_iload C 12 rfl dX1_isInHands_10 rfl ?_
  refine sj_aload_n C 13 rfl dX1_isInHands_12 rfl rfl ?_
  refine sj_getr C 16 rfl fd_X1_26 dX1_isInHands_13 kd_o rf_o_5 ?_
  refine sj_iload_n C 17 rfl dX1_isInHands_16 rfl rfl ?_
  refine sj_callVd C 20 rfl dX1_isInHands_17 cv_X1_54 rfl (ct_X2_at _ hr7 _) rfl rfl rfl ⟨_, _, kd_r7, rfl, rfl, by decide⟩ ⟨rfl, rfl⟩ ?_
  rw [sq_r8]
  refine sj_icmp_eq C 36 23 rfl rfl dX1_isInHands_20 (fun c_20 => ?_) (fun c_20 => ?_)
  · refine sj_iconstv C (1) 37 rfl dX1_isInHands_36 rfl ?_
    refine sj_goto C 41 rfl dX1_isInHands_37 ?_
    refine sj_zret C hR rfl rfl rfl dX1_isInHands_41 ?_
    refine ⟨congrArg (fun z => some (Value.int z)) ?_, rfl⟩
    unfold sq_inH
    rw [decide_eq_true c_20, Bool.true_or]
    rfl
  · refine sj_iload C 25 rfl dX1_isInHands_23 rfl ?_
    refine sj_aload_n C 26 rfl dX1_isInHands_25 rfl rfl ?_
    refine sj_getr C 29 rfl fd_X1_26 dX1_isInHands_26 kd_o rf_o_5 ?_
    refine sj_iload_n C 30 rfl dX1_isInHands_29 rfl rfl ?_
    refine sj_callVd C 33 rfl dX1_isInHands_30 cv_X1_54 rfl (ct_X2_at _ hr7 _) rfl rfl rfl ⟨_, _, kd_r7, rfl, rfl, by decide⟩ ⟨rfl, rfl⟩ ?_
    rw [sq_r8]
    refine sj_icmp_ne C 40 36 rfl rfl dX1_isInHands_33 (fun c_33 => ?_) (fun c_33 => ?_)
    · refine sj_iconstv C (0) 41 rfl dX1_isInHands_40 rfl ?_
      refine sj_zret C hR rfl rfl rfl dX1_isInHands_41 ?_
      refine ⟨congrArg (fun z => some (Value.int z)) ?_, rfl⟩
      unfold sq_inH
      rw [decide_eq_false c_20, decide_eq_false c_33]
      rfl
    · refine sj_iconstv C (1) 37 rfl dX1_isInHands_36 rfl ?_
      refine sj_goto C 41 rfl dX1_isInHands_37 ?_
      refine sj_zret C hR rfl rfl rfl dX1_isInHands_41 ?_
      refine ⟨congrArg (fun z => some (Value.int z)) ?_, rfl⟩
      unfold sq_inH
      rw [decide_eq_false c_20, decide_eq_true c_33]
      rfl
set_option maxRecDepth 100000 in
set_option maxHeartbeats 150000 in
theorem ct_X1_handOf (l : Launch) {S : sj_St} {o : Nat} {d : Nat → Nat} (h : sq_ol S o d) {n : Nat} (hn : n ≤ 28) {w : Int32} {f1 f2 f3 f7 : Nat → Int32} (s : Int32) : sj_Ctr l mX1_handOf [.ref o, .int s] (sq_os S o d (nI n, w, f1, f2, f3, f7)) (sj_eq (some (.int (sj_at 8 f7 s))) (sq_os S o d (nI n, w, f1, f2, f3, f7))) := by
  refine sj_start ([some (.ref o), some (.int s)]) (by decide +kernel) rfl rfl (fun X hX C hR => ?_)
  subst hX
  have hV : sq_ol (sq_os S o d (nI n, w, f1, f2, f3, f7)) o d := h
  obtain ⟨kd_o, ⟨rf_o_2, hr1⟩, ⟨rf_o_3, hr3⟩, ⟨rf_o_4, hr5⟩, ⟨rf_o_5, hr7⟩, hinj⟩ := hV
  have kd_r1 := hr1.1
  have kd_r3 := hr3.1
  have kd_r5 := hr5.1
  have kd_r7 := hr7.1
  refine sj_aload_n C 1 rfl dX1_handOf_0 rfl rfl ?_
  refine sj_getr C 4 rfl fd_X1_26 dX1_handOf_1 kd_o rf_o_5 ?_
  refine sj_iload_n C 5 rfl dX1_handOf_4 rfl rfl ?_
  refine sj_callVd C 8 rfl dX1_handOf_5 cv_X1_54 rfl (ct_X2_at _ hr7 _) rfl rfl rfl ⟨_, _, kd_r7, rfl, rfl, by decide⟩ ⟨rfl, rfl⟩ ?_
  rw [sq_r8]
  refine sj_iret C hR rfl rfl dX1_handOf_8 ?_
  exact ⟨rfl, rfl⟩
set_option maxRecDepth 100000 in
set_option maxHeartbeats 150000 in
theorem ct_X1_numberWithout (l : Launch) (S : sj_St) (g v : Int32) : sj_Ctr l mX1_numberWithout [.int g, .int v] S (sj_eq (some (.int (sq_nw g v))) S) := by
  refine sj_start ([some (.int g), some (.int v)]) (by decide +kernel) rfl rfl (fun X hX C hR => ?_)
  subst hX
  refine sj_iload_n C 1 rfl dX1_numberWithout_0 rfl rfl ?_
  refine sj_iload_n C 2 rfl dX1_numberWithout_1 rfl rfl ?_
  refine sj_icmp_le C 11 5 rfl rfl dX1_numberWithout_2 (fun c_2 => ?_) (fun c_2 => ?_)
  · refine sj_iload_n C 12 rfl dX1_numberWithout_11 rfl rfl ?_
    refine sj_iret C hR rfl rfl dX1_numberWithout_12 ?_
    refine ⟨congrArg (fun z => some (Value.int z)) ?_, rfl⟩
    unfold sq_nw
    rw [if_neg (sj_nlt.mpr c_2)]
  · refine sj_iload_n C 6 rfl dX1_numberWithout_5 rfl rfl ?_
    refine sj_iconstv C (1) 7 rfl dX1_numberWithout_6 rfl ?_
    refine sj_isub C 8 rfl dX1_numberWithout_7 ?_
    refine sj_goto C 12 rfl dX1_numberWithout_8 ?_
    refine sj_iret C hR rfl rfl dX1_numberWithout_12 ?_
    refine ⟨congrArg (fun z => some (Value.int z)) ?_, rfl⟩
    unfold sq_nw
    rw [if_pos (sj_nle.mp c_2)]
set_option maxRecDepth 100000 in
set_option maxHeartbeats 150000 in
theorem ct_X1_placeOf (l : Launch) {S : sj_St} {o : Nat} {d : Nat → Nat} (h : sq_ol S o d) {n : Nat} (hn : n ≤ 28) {w : Int32} {f1 f2 f3 f7 : Nat → Int32} (s e : Int32) : sj_Ctr l mX1_placeOf [.ref o, .int s, .int e] (sq_os S o d (nI n, w, f1, f2, f3, f7)) (sj_eq (some (.int (sq_po f1 f2 n s e))) (sq_os S o d (nI n, w, f1, f2, f3, f7))) := by
  refine sj_start ([some (.ref o), some (.int s), some (.int e), none]) (by decide +kernel) rfl rfl (fun X hX C hR => ?_)
  subst hX
  have hV : sq_ol (sq_os S o d (nI n, w, f1, f2, f3, f7)) o d := h
  obtain ⟨kd_o, ⟨rf_o_2, hr1⟩, ⟨rf_o_3, hr3⟩, ⟨rf_o_4, hr5⟩, ⟨rf_o_5, hr7⟩, hinj⟩ := hV
  have kd_r1 := hr1.1
  have kd_r3 := hr3.1
  have kd_r5 := hr5.1
  have kd_r7 := hr7.1
  have cut_2 : sj_fst (fun k => !decide (s = e) && (sq_of f1 f2 k s && sq_of f1 f2 k e)) n 0 = sq_po f1 f2 n s e → sj_G X (sq_os S o d (nI n, w, f1, f2, f3, f7)) 0 0 [some (.ref o), some (.int s), some (.int e), some (.int (nI (0)))] 2 [] := by
    refine sj_down (fun k => sj_fst (fun k => !decide (s = e) && (sq_of f1 f2 k s && sq_of f1 f2 k e)) (n - k) k = sq_po f1 f2 n s e → sj_G X (sq_os S o d (nI n, w, f1, f2, f3, f7)) 0 0 [some (.ref o), some (.int s), some (.int e), some (.int (nI (k)))] 2 []) n (fun k hk ih hr => ?_)
    refine sj_iload_n C 3 rfl dX1_placeOf_2 rfl rfl ?_
    refine sj_aload_n C 4 rfl dX1_placeOf_3 rfl rfl ?_
    refine sj_getI C 7 rfl fd_X1_29 dX1_placeOf_4 kd_o ?_
    rw [sq_f0]
    refine sj_icmp_ge C 41 10 rfl rfl dX1_placeOf_7 (fun c_7 => ?_) (fun c_7 => ?_)
    · refine sj_iconstv C (-1) 42 rfl dX1_placeOf_41 rfl ?_
      refine sj_iret C hR rfl rfl dX1_placeOf_42 ?_
      refine ⟨congrArg (fun z => some (Value.int z)) ?_, rfl⟩
      have hkn : k = n := by
        have h8 : ¬ k < n := fun h7 => nI_ge h7 (by omega) c_7
        omega
      subst hkn
      rw [show k - k = 0 by omega] at hr
      exact hr
    · have hlt : k < n := Nat.not_le.mp fun h8 => c_7 (nI_le h8 (by omega))
      refine sj_iload_n C 11 rfl dX1_placeOf_10 rfl rfl ?_
      refine sj_iload_n C 12 rfl dX1_placeOf_11 rfl rfl ?_
      refine sj_icmp_eq C 35 15 rfl rfl dX1_placeOf_12 (fun c_12 => ?_) (fun c_12 => ?_)
      · refine sj_iinc_3 C 38 rfl dX1_placeOf_35 rfl rfl ?_
        refine sj_goto C 2 rfl dX1_placeOf_38 ?_
        have pk : (!decide (s = e) && (sq_of f1 f2 k s && sq_of f1 f2 k e)) = false := by
          rw [decide_eq_true c_12, Bool.not_true, Bool.false_and]
        rw [sj_n1]
        refine ih hlt ?_
        rw [sj_fst_s hlt, pk] at hr
        exact hr
      · refine sj_aload_n C 16 rfl dX1_placeOf_15 rfl rfl ?_
        refine sj_iload_n C 17 rfl dX1_placeOf_16 rfl rfl ?_
        refine sj_iload_n C 18 rfl dX1_placeOf_17 rfl rfl ?_
        refine sj_callVd C 21 rfl dX1_placeOf_18 cv_X1_50 rfl (ct_X1_isOf _ h hn k (by omega) s) rfl rfl rfl ⟨_, _, kd_o, rfl, rfl, by decide⟩ ⟨rfl, rfl⟩ ?_
        refine sj_if_eq C 35 24 rfl rfl dX1_placeOf_21 (fun c_21 => ?_) (fun c_21 => ?_)
        · refine sj_iinc_3 C 38 rfl dX1_placeOf_35 rfl rfl ?_
          refine sj_goto C 2 rfl dX1_placeOf_38 ?_
          have pk : (!decide (s = e) && (sq_of f1 f2 k s && sq_of f1 f2 k e)) = false := by
            rw [sj_bi0.mp c_21, Bool.false_and, Bool.and_false]
          rw [sj_n1]
          refine ih hlt ?_
          rw [sj_fst_s hlt, pk] at hr
          exact hr
        · refine sj_aload_n C 25 rfl dX1_placeOf_24 rfl rfl ?_
          refine sj_iload_n C 26 rfl dX1_placeOf_25 rfl rfl ?_
          refine sj_iload_n C 27 rfl dX1_placeOf_26 rfl rfl ?_
          refine sj_callVd C 30 rfl dX1_placeOf_27 cv_X1_50 rfl (ct_X1_isOf _ h hn k (by omega) e) rfl rfl rfl ⟨_, _, kd_o, rfl, rfl, by decide⟩ ⟨rfl, rfl⟩ ?_
          refine sj_if_eq C 35 33 rfl rfl dX1_placeOf_30 (fun c_30 => ?_) (fun c_30 => ?_)
          · refine sj_iinc_3 C 38 rfl dX1_placeOf_35 rfl rfl ?_
            refine sj_goto C 2 rfl dX1_placeOf_38 ?_
            have pk : (!decide (s = e) && (sq_of f1 f2 k s && sq_of f1 f2 k e)) = false := by
              rw [sj_bi0.mp c_30, Bool.and_false, Bool.and_false]
            rw [sj_n1]
            refine ih hlt ?_
            rw [sj_fst_s hlt, pk] at hr
            exact hr
          · refine sj_iload_n C 34 rfl dX1_placeOf_33 rfl rfl ?_
            refine sj_iret C hR rfl rfl dX1_placeOf_34 ?_
            refine ⟨congrArg (fun z => some (Value.int z)) ?_, rfl⟩
            have pk : (!decide (s = e) && (sq_of f1 f2 k s && sq_of f1 f2 k e)) = true := by
              rw [decide_eq_false c_12, sj_bin.mp c_21, sj_bin.mp c_30]
              rfl
            rw [sj_fst_s hlt, pk] at hr
            exact hr
  refine sj_iconstv C (0) 1 rfl dX1_placeOf_0 rfl ?_
  refine sj_istore_n_3 C 2 rfl dX1_placeOf_1 rfl rfl ?_
  exact cut_2 rfl
set_option maxRecDepth 100000 in
set_option maxHeartbeats 150000 in
theorem ct_X1_kindOf (l : Launch) {S : sj_St} {o : Nat} {d : Nat → Nat} (h : sq_ol S o d) {n : Nat} (hn : n ≤ 28) {w : Int32} {f1 f2 f3 f7 : Nat → Int32} (s e : Int32) : sj_Ctr l mX1_kindOf [.ref o, .int s, .int e] (sq_os S o d (nI n, w, f1, f2, f3, f7)) (sj_eq (some (.int (sq_ko f1 f2 f3 n s e))) (sq_os S o d (nI n, w, f1, f2, f3, f7))) := by
  refine sj_start ([some (.ref o), some (.int s), some (.int e), none]) (by decide +kernel) rfl rfl (fun X hX C hR => ?_)
  subst hX
  have hV : sq_ol (sq_os S o d (nI n, w, f1, f2, f3, f7)) o d := h
  obtain ⟨kd_o, ⟨rf_o_2, hr1⟩, ⟨rf_o_3, hr3⟩, ⟨rf_o_4, hr5⟩, ⟨rf_o_5, hr7⟩, hinj⟩ := hV
  have kd_r1 := hr1.1
  have kd_r3 := hr3.1
  have kd_r5 := hr5.1
  have kd_r7 := hr7.1
  refine sj_aload_n C 1 rfl dX1_kindOf_0 rfl rfl ?_
  refine sj_iload_n C 2 rfl dX1_kindOf_1 rfl rfl ?_
  refine sj_iload_n C 3 rfl dX1_kindOf_2 rfl rfl ?_
  refine sj_callVd C 6 rfl dX1_kindOf_3 cv_X1_62 rfl (ct_X1_placeOf _ h hn s e) rfl rfl rfl ⟨_, _, kd_o, rfl, rfl, by decide⟩ ⟨rfl, rfl⟩ ?_
  refine sj_istore_n_3 C 7 rfl dX1_kindOf_6 rfl rfl ?_
  refine sj_iload_n C 8 rfl dX1_kindOf_7 rfl rfl ?_
  refine sj_iconstv C (-1) 9 rfl dX1_kindOf_8 rfl ?_
  refine sj_icmp_ne C 16 12 rfl rfl dX1_kindOf_9 (fun c_9 => ?_) (fun c_9 => ?_)
  · refine sj_aload_n C 17 rfl dX1_kindOf_16 rfl rfl ?_
    refine sj_getr C 20 rfl fd_X1_23 dX1_kindOf_17 kd_o rf_o_4 ?_
    refine sj_iload_n C 21 rfl dX1_kindOf_20 rfl rfl ?_
    refine sj_callVd C 24 rfl dX1_kindOf_21 cv_X1_54 rfl (ct_X2_at _ hr5 _) rfl rfl rfl ⟨_, _, kd_r5, rfl, rfl, by decide⟩ ⟨rfl, rfl⟩ ?_
    rw [sq_r6 h]
    refine sj_iret C hR rfl rfl dX1_kindOf_24 ?_
    refine ⟨congrArg (fun z => some (Value.int z)) ?_, rfl⟩
    unfold sq_ko
    rw [if_neg c_9]
  · refine sj_iconstv C (-1) 13 rfl dX1_kindOf_12 rfl ?_
    refine sj_goto C 24 rfl dX1_kindOf_13 ?_
    refine sj_iret C hR rfl rfl dX1_kindOf_24 ?_
    refine ⟨congrArg (fun z => some (Value.int z)) ?_, rfl⟩
    unfold sq_ko
    rw [if_pos c_9]
set_option maxRecDepth 100000 in
set_option maxHeartbeats 150000 in
theorem ct_X1_ofSheet (l : Launch) {S : sj_St} {o : Nat} {d : Nat → Nat} (h : sq_ol S o d) {n : Nat} (hn : n ≤ 28) {w : Int32} {f1 f2 f3 f7 : Nat → Int32} (s : Int32) : sj_Ctr l mX1_ofSheet [.ref o, .int s] (sq_os S o d (nI n, w, f1, f2, f3, f7)) (sj_eq (some (.int (sj_sum (fun k => sj_bi (sq_of f1 f2 k s)) n))) (sq_os S o d (nI n, w, f1, f2, f3, f7))) := by
  refine sj_start ([some (.ref o), some (.int s), none, none]) (by decide +kernel) rfl rfl (fun X hX C hR => ?_)
  subst hX
  have hV : sq_ol (sq_os S o d (nI n, w, f1, f2, f3, f7)) o d := h
  obtain ⟨kd_o, ⟨rf_o_2, hr1⟩, ⟨rf_o_3, hr3⟩, ⟨rf_o_4, hr5⟩, ⟨rf_o_5, hr7⟩, hinj⟩ := hV
  have kd_r1 := hr1.1
  have kd_r3 := hr3.1
  have kd_r5 := hr5.1
  have kd_r7 := hr7.1
  have cut_4 : sj_G X (sq_os S o d (nI n, w, f1, f2, f3, f7)) 0 0 [some (.ref o), some (.int s), some (.int (sj_sum (fun k => sj_bi (sq_of f1 f2 k s)) (0))), some (.int (nI (0)))] 4 [] := by
    refine sj_down (fun k => sj_G X (sq_os S o d (nI n, w, f1, f2, f3, f7)) 0 0 [some (.ref o), some (.int s), some (.int (sj_sum (fun k => sj_bi (sq_of f1 f2 k s)) (k))), some (.int (nI (k)))] 4 []) n (fun k hk ih => ?_)
    refine sj_iload_n C 5 rfl dX1_ofSheet_4 rfl rfl ?_
    refine sj_aload_n C 6 rfl dX1_ofSheet_5 rfl rfl ?_
    refine sj_getI C 9 rfl fd_X1_29 dX1_ofSheet_6 kd_o ?_
    rw [sq_f0]
    refine sj_icmp_ge C 35 12 rfl rfl dX1_ofSheet_9 (fun c_9 => ?_) (fun c_9 => ?_)
    · have hkn : k = n := by
        have h8 : ¬ k < n := fun h7 => nI_ge h7 (by omega) c_9
        omega
      subst hkn
      refine sj_iload_n C 36 rfl dX1_ofSheet_35 rfl rfl ?_
      refine sj_iret C hR rfl rfl dX1_ofSheet_36 ?_
      exact ⟨rfl, rfl⟩
    · have hlt : k < n := Nat.not_le.mp fun h8 => c_9 (nI_le h8 (by omega))
      refine sj_iload_n C 13 rfl dX1_ofSheet_12 rfl rfl ?_
      refine sj_aload_n C 14 rfl dX1_ofSheet_13 rfl rfl ?_
      refine sj_iload_n C 15 rfl dX1_ofSheet_14 rfl rfl ?_
      refine sj_iload_n C 16 rfl dX1_ofSheet_15 rfl rfl ?_
      refine sj_callVd C 19 rfl dX1_ofSheet_16 cv_X1_50 rfl (ct_X1_isOf _ h hn k (by omega) s) rfl rfl rfl ⟨_, _, kd_o, rfl, rfl, by decide⟩ ⟨rfl, rfl⟩ ?_
      refine sj_if_eq C 26 22 rfl rfl dX1_ofSheet_19 (fun c_19 => ?_) (fun c_19 => ?_)
      · refine sj_iconstv C (0) 27 rfl dX1_ofSheet_26 rfl ?_
        refine sj_iadd C 28 rfl dX1_ofSheet_27 ?_
        refine sj_istore_n_2 C 29 rfl dX1_ofSheet_28 rfl rfl ?_
        refine sj_iinc_3 C 32 rfl dX1_ofSheet_29 rfl rfl ?_
        refine sj_goto C 4 rfl dX1_ofSheet_32 ?_
        have e9 : sj_sum (fun k => sj_bi (sq_of f1 f2 k s)) (k + 1) = sj_sum (fun k => sj_bi (sq_of f1 f2 k s)) k + 0 := congrArg (fun z => sj_sum (fun k => sj_bi (sq_of f1 f2 k s)) k + z) (by show sj_bi (sq_of f1 f2 k s) = 0; rw [sj_bi0.mp c_19]; rfl)
        have ih' := ih hlt
        rw [e9] at ih'
        rw [sj_n1]
        exact ih'
      · refine sj_iconstv C (1) 23 rfl dX1_ofSheet_22 rfl ?_
        refine sj_goto C 27 rfl dX1_ofSheet_23 ?_
        refine sj_iadd C 28 rfl dX1_ofSheet_27 ?_
        refine sj_istore_n_2 C 29 rfl dX1_ofSheet_28 rfl rfl ?_
        refine sj_iinc_3 C 32 rfl dX1_ofSheet_29 rfl rfl ?_
        refine sj_goto C 4 rfl dX1_ofSheet_32 ?_
        have e9 : sj_sum (fun k => sj_bi (sq_of f1 f2 k s)) (k + 1) = sj_sum (fun k => sj_bi (sq_of f1 f2 k s)) k + 1 := congrArg (fun z => sj_sum (fun k => sj_bi (sq_of f1 f2 k s)) k + z) (by show sj_bi (sq_of f1 f2 k s) = 1; rw [sj_bin.mp c_19]; rfl)
        have ih' := ih hlt
        rw [e9] at ih'
        rw [sj_n1]
        exact ih'
  refine sj_iconstv C (0) 1 rfl dX1_ofSheet_0 rfl ?_
  refine sj_istore_n_2 C 2 rfl dX1_ofSheet_1 rfl rfl ?_
  refine sj_iconstv C (0) 3 rfl dX1_ofSheet_2 rfl ?_
  refine sj_istore_n_3 C 4 rfl dX1_ofSheet_3 rfl rfl ?_
  exact cut_4
set_option maxRecDepth 100000 in
set_option maxHeartbeats 150000 in
theorem ct_X1_ofOneHand (l : Launch) {S : sj_St} {o : Nat} {d : Nat → Nat} (h : sq_ol S o d) {n : Nat} (hn : n ≤ 28) {w : Int32} {f1 f2 f3 f7 : Nat → Int32} : sj_Ctr l mX1_ofOneHand [.ref o] (sq_os S o d (nI n, w, f1, f2, f3, f7)) (sj_eq (some (.int (sj_sum f3 n))) (sq_os S o d (nI n, w, f1, f2, f3, f7))) := by
  refine sj_start ([some (.ref o), none, none]) (by decide +kernel) rfl rfl (fun X hX C hR => ?_)
  subst hX
  have hV : sq_ol (sq_os S o d (nI n, w, f1, f2, f3, f7)) o d := h
  obtain ⟨kd_o, ⟨rf_o_2, hr1⟩, ⟨rf_o_3, hr3⟩, ⟨rf_o_4, hr5⟩, ⟨rf_o_5, hr7⟩, hinj⟩ := hV
  have kd_r1 := hr1.1
  have kd_r3 := hr3.1
  have kd_r5 := hr5.1
  have kd_r7 := hr7.1
  have cut_4 : sj_G X (sq_os S o d (nI n, w, f1, f2, f3, f7)) 0 0 [some (.ref o), some (.int (sj_sum f3 (0))), some (.int (nI (0)))] 4 [] := by
    refine sj_down (fun k => sj_G X (sq_os S o d (nI n, w, f1, f2, f3, f7)) 0 0 [some (.ref o), some (.int (sj_sum f3 (k))), some (.int (nI (k)))] 4 []) n (fun k hk ih => ?_)
    refine sj_iload_n C 5 rfl dX1_ofOneHand_4 rfl rfl ?_
    refine sj_aload_n C 6 rfl dX1_ofOneHand_5 rfl rfl ?_
    refine sj_getI C 9 rfl fd_X1_29 dX1_ofOneHand_6 kd_o ?_
    rw [sq_f0]
    refine sj_icmp_ge C 29 12 rfl rfl dX1_ofOneHand_9 (fun c_9 => ?_) (fun c_9 => ?_)
    · have hkn : k = n := by
        have h8 : ¬ k < n := fun h7 => nI_ge h7 (by omega) c_9
        omega
      subst hkn
      refine sj_iload_n C 30 rfl dX1_ofOneHand_29 rfl rfl ?_
      refine sj_iret C hR rfl rfl dX1_ofOneHand_30 ?_
      exact ⟨rfl, rfl⟩
    · have hlt : k < n := Nat.not_le.mp fun h8 => c_9 (nI_le h8 (by omega))
      refine sj_iload_n C 13 rfl dX1_ofOneHand_12 rfl rfl ?_
      refine sj_aload_n C 14 rfl dX1_ofOneHand_13 rfl rfl ?_
      refine sj_getr C 17 rfl fd_X1_23 dX1_ofOneHand_14 kd_o rf_o_4 ?_
      refine sj_iload_n C 18 rfl dX1_ofOneHand_17 rfl rfl ?_
      refine sj_callVd C 21 rfl dX1_ofOneHand_18 cv_X1_54 rfl (ct_X2_at _ hr5 _) rfl rfl rfl ⟨_, _, kd_r5, rfl, rfl, by decide⟩ ⟨rfl, rfl⟩ ?_
      rw [sq_r6 h, sj_at_nI (j := k) _ (by omega) (by omega)]
      refine sj_iadd C 22 rfl dX1_ofOneHand_21 ?_
      refine sj_istore_n_1 C 23 rfl dX1_ofOneHand_22 rfl rfl ?_
      refine sj_iinc_2 C 26 rfl dX1_ofOneHand_23 rfl rfl ?_
      refine sj_goto C 4 rfl dX1_ofOneHand_26 ?_
      rw [sj_n1]
      exact ih hlt
  refine sj_iconstv C (0) 1 rfl dX1_ofOneHand_0 rfl ?_
  refine sj_istore_n_1 C 2 rfl dX1_ofOneHand_1 rfl rfl ?_
  refine sj_iconstv C (0) 3 rfl dX1_ofOneHand_2 rfl ?_
  refine sj_istore_n_2 C 4 rfl dX1_ofOneHand_3 rfl rfl ?_
  exact cut_4
set_option maxRecDepth 100000 in
set_option maxHeartbeats 150000 in
theorem ct_X1_forbidJoining (l : Launch) {S : sj_St} {o : Nat} {d : Nat → Nat} (h : sq_ol S o d) {n : Nat} (hn : n ≤ 28) {w : Int32} {f1 f2 f3 f7 : Nat → Int32} (a b : Int32) : sj_Ctr l mX1_forbidJoining [.ref o, .int a, .int b] (sq_os S o d (nI n, w, f1, f2, f3, f7)) (sj_eq (some (.int (sj_bi (sq_ex (sq_fbp f1 f2 f3 f7 a b) n 0)))) (sq_os S o d (nI n, w, f1, f2, f3, f7))) := by
  refine sj_start ([some (.ref o), some (.int a), some (.int b), none]) (by decide +kernel) rfl rfl (fun X hX C hR => ?_)
  subst hX
  have hV : sq_ol (sq_os S o d (nI n, w, f1, f2, f3, f7)) o d := h
  obtain ⟨kd_o, ⟨rf_o_2, hr1⟩, ⟨rf_o_3, hr3⟩, ⟨rf_o_4, hr5⟩, ⟨rf_o_5, hr7⟩, hinj⟩ := hV
  have kd_r1 := hr1.1
  have kd_r3 := hr3.1
  have kd_r5 := hr5.1
  have kd_r7 := hr7.1
  have cut_2 : sq_ex (sq_fbp f1 f2 f3 f7 a b) n 0 = sq_ex (sq_fbp f1 f2 f3 f7 a b) n 0 → sj_G X (sq_os S o d (nI n, w, f1, f2, f3, f7)) 0 0 [some (.ref o), some (.int a), some (.int b), some (.int (nI (0)))] 2 [] := by
    refine sj_down (fun k => sq_ex (sq_fbp f1 f2 f3 f7 a b) (n - k) k = sq_ex (sq_fbp f1 f2 f3 f7 a b) n 0 → sj_G X (sq_os S o d (nI n, w, f1, f2, f3, f7)) 0 0 [some (.ref o), some (.int a), some (.int b), some (.int (nI (k)))] 2 []) n (fun k hk ih hr => ?_)
    refine sj_iload_n C 3 rfl dX1_forbidJoining_2 rfl rfl ?_
    refine sj_aload_n C 4 rfl dX1_forbidJoining_3 rfl rfl ?_
    refine sj_getI C 7 rfl fd_X1_29 dX1_forbidJoining_4 kd_o ?_
    rw [sq_f0]
    refine sj_icmp_ge C 63 10 rfl rfl dX1_forbidJoining_7 (fun c_7 => ?_) (fun c_7 => ?_)
    · refine sj_iconstv C (0) 64 rfl dX1_forbidJoining_63 rfl ?_
      refine sj_zret C hR rfl rfl rfl dX1_forbidJoining_64 ?_
      refine ⟨congrArg (fun z => some (Value.int z)) ?_, rfl⟩
      have hkn : k = n := by
        have h8 : ¬ k < n := fun h7 => nI_ge h7 (by omega) c_7
        omega
      subst hkn
      rw [show k - k = 0 by omega] at hr
      exact congrArg sj_bi hr
    · have hlt : k < n := Nat.not_le.mp fun h8 => c_7 (nI_le h8 (by omega))
      refine sj_aload_n C 11 rfl dX1_forbidJoining_10 rfl rfl ?_
      refine sj_getr C 14 rfl fd_X1_23 dX1_forbidJoining_11 kd_o rf_o_4 ?_
      refine sj_iload_n C 15 rfl dX1_forbidJoining_14 rfl rfl ?_
      refine sj_callVd C 18 rfl dX1_forbidJoining_15 cv_X1_54 rfl (ct_X2_at _ hr5 _) rfl rfl rfl ⟨_, _, kd_r5, rfl, rfl, by decide⟩ ⟨rfl, rfl⟩ ?_
      rw [sq_r6 h, sj_at_nI (j := k) _ (by omega) (by omega)]
      refine sj_if_ne C 57 21 rfl rfl dX1_forbidJoining_18 (fun c_18 => ?_) (fun c_18 => ?_)
      · refine sj_iinc_3 C 60 rfl dX1_forbidJoining_57 rfl rfl ?_
        refine sj_goto C 2 rfl dX1_forbidJoining_60 ?_
        have pk : (sq_fbp f1 f2 f3 f7 a b) k = false := by
          unfold sq_fbp
          rw [decide_eq_false c_18, Bool.false_and]
        rw [sj_n1]
        exact ih hlt (by rw [sq_ex_s hlt, pk, Bool.false_or] at hr; exact hr)
      · refine sj_aload_n C 22 rfl dX1_forbidJoining_21 rfl rfl ?_
        refine sj_aload_n C 23 rfl dX1_forbidJoining_22 rfl rfl ?_
        refine sj_getr C 26 rfl fd_X1_14 dX1_forbidJoining_23 kd_o rf_o_2 ?_
        refine sj_iload_n C 27 rfl dX1_forbidJoining_26 rfl rfl ?_
        refine sj_callVd C 30 rfl dX1_forbidJoining_27 cv_X1_54 rfl (ct_X2_at _ hr1 _) rfl rfl rfl ⟨_, _, kd_r1, rfl, rfl, by decide⟩ ⟨rfl, rfl⟩ ?_
        rw [sq_r2 h, sj_at_nI (j := k) _ (by omega) (by omega)]
        refine sj_iload_n C 31 rfl dX1_forbidJoining_30 rfl rfl ?_
        refine sj_iload_n C 32 rfl dX1_forbidJoining_31 rfl rfl ?_
        refine sj_callVd C 35 rfl dX1_forbidJoining_32 cv_X1_69 rfl (ct_X1_isInHands _ h hn _ a b) rfl rfl rfl ⟨_, _, kd_o, rfl, rfl, by decide⟩ ⟨rfl, rfl⟩ ?_
        refine sj_if_eq C 57 38 rfl rfl dX1_forbidJoining_35 (fun c_35 => ?_) (fun c_35 => ?_)
        · refine sj_iinc_3 C 60 rfl dX1_forbidJoining_57 rfl rfl ?_
          refine sj_goto C 2 rfl dX1_forbidJoining_60 ?_
          have pk : (sq_fbp f1 f2 f3 f7 a b) k = false := by
            unfold sq_fbp
            rw [sj_bi0.mp c_35, Bool.false_and, Bool.and_false]
          rw [sj_n1]
          exact ih hlt (by rw [sq_ex_s hlt, pk, Bool.false_or] at hr; exact hr)
        · refine sj_aload_n C 39 rfl dX1_forbidJoining_38 rfl rfl ?_
          refine sj_aload_n C 40 rfl dX1_forbidJoining_39 rfl rfl ?_
          refine sj_getr C 43 rfl fd_X1_20 dX1_forbidJoining_40 kd_o rf_o_3 ?_
          refine sj_iload_n C 44 rfl dX1_forbidJoining_43 rfl rfl ?_
          refine sj_callVd C 47 rfl dX1_forbidJoining_44 cv_X1_54 rfl (ct_X2_at _ hr3 _) rfl rfl rfl ⟨_, _, kd_r3, rfl, rfl, by decide⟩ ⟨rfl, rfl⟩ ?_
          rw [sq_r4 h, sj_at_nI (j := k) _ (by omega) (by omega)]
          refine sj_iload_n C 48 rfl dX1_forbidJoining_47 rfl rfl ?_
          refine sj_iload_n C 49 rfl dX1_forbidJoining_48 rfl rfl ?_
          refine sj_callVd C 52 rfl dX1_forbidJoining_49 cv_X1_69 rfl (ct_X1_isInHands _ h hn _ a b) rfl rfl rfl ⟨_, _, kd_o, rfl, rfl, by decide⟩ ⟨rfl, rfl⟩ ?_
          refine sj_if_eq C 57 55 rfl rfl dX1_forbidJoining_52 (fun c_52 => ?_) (fun c_52 => ?_)
          · refine sj_iinc_3 C 60 rfl dX1_forbidJoining_57 rfl rfl ?_
            refine sj_goto C 2 rfl dX1_forbidJoining_60 ?_
            have pk : (sq_fbp f1 f2 f3 f7 a b) k = false := by
              unfold sq_fbp
              rw [sj_bi0.mp c_52, Bool.and_false, Bool.and_false]
            rw [sj_n1]
            exact ih hlt (by rw [sq_ex_s hlt, pk, Bool.false_or] at hr; exact hr)
          · refine sj_iconstv C (1) 56 rfl dX1_forbidJoining_55 rfl ?_
            refine sj_zret C hR rfl rfl rfl dX1_forbidJoining_56 ?_
            refine ⟨congrArg (fun z => some (Value.int z)) ?_, rfl⟩
            have pk : (sq_fbp f1 f2 f3 f7 a b) k = true := by
              unfold sq_fbp
              rw [decide_eq_true c_18, sj_bin.mp c_35, sj_bin.mp c_52]
              rfl
            rw [sq_ex_s hlt, pk, Bool.true_or] at hr
            exact congrArg sj_bi hr
  refine sj_iconstv C (0) 1 rfl dX1_forbidJoining_0 rfl ?_
  refine sj_istore_n_3 C 2 rfl dX1_forbidJoining_1 rfl rfl ?_
  exact cut_2 rfl
set_option maxRecDepth 100000 in
set_option maxHeartbeats 200000 in
theorem ct_X1_leads (l : Launch) {S : sj_St} {o : Nat} {d : Nat → Nat} (h : sq_ol S o d) {n : Nat} (hn : n ≤ 28) {w : Int32} {f1 f2 f3 f7 : Nat → Int32} (a b q : Int32) : sj_Ctr l mX1_leads [.ref o, .int a, .int b, .int q] (sq_os S o d (nI n, w, f1, f2, f3, f7)) (sj_eq (some (.int (sj_bi (sq_lds f1 f2 f3 n a b q)))) (sq_os S o d (nI n, w, f1, f2, f3, f7))) := by
  refine sj_start ([some (.ref o), some (.int a), some (.int b), some (.int q), none, none, none, none, none]) (by decide +kernel) rfl rfl (fun X hX C hR => ?_)
  subst hX
  have hV : sq_ol (sq_os S o d (nI n, w, f1, f2, f3, f7)) o d := h
  obtain ⟨kd_o, ⟨rf_o_2, hr1⟩, ⟨rf_o_3, hr3⟩, ⟨rf_o_4, hr5⟩, ⟨rf_o_5, hr7⟩, hinj⟩ := hV
  have kd_r1 := hr1.1
  have kd_r3 := hr3.1
  have kd_r5 := hr5.1
  have kd_r7 := hr7.1
  have cut_112 : ∀ (o5 o6 o7 o8 : Option Value) (x : Int32), x = (sq_ldr f1 f2 f3 n q 8 (1 <<< (a &&& 31))) → sj_G X (sq_os S o d (nI n, w, f1, f2, f3, f7)) 0 0 [some (.ref o), some (.int a), some (.int b), some (.int q), some (.int x), o5, o6, o7, o8] 112 [] := by
    intro o5 o6 o7 o8 x hx
    refine sj_iload C 114 rfl dX1_leads_112 rfl ?_
    refine sj_iconstv C (1) 115 rfl dX1_leads_114 rfl ?_
    refine sj_iload_n C 116 rfl dX1_leads_115 rfl rfl ?_
    refine sj_ishl C 117 rfl dX1_leads_116 ?_
    refine sj_iand C 118 rfl dX1_leads_117 ?_
    refine sj_if_eq C 125 121 rfl rfl dX1_leads_118 (fun c_118 => ?_) (fun c_118 => ?_)
    · refine sj_iconstv C (0) 126 rfl dX1_leads_125 rfl ?_
      refine sj_zret C hR rfl rfl rfl dX1_leads_126 ?_
      refine ⟨congrArg (fun z => some (Value.int z)) ?_, rfl⟩
      subst hx
      unfold sq_lds
      rw [decide_eq_true c_118]
      rfl
    · refine sj_iconstv C (1) 122 rfl dX1_leads_121 rfl ?_
      refine sj_goto C 126 rfl dX1_leads_122 ?_
      refine sj_zret C hR rfl rfl rfl dX1_leads_126 ?_
      refine ⟨congrArg (fun z => some (Value.int z)) ?_, rfl⟩
      subst hx
      unfold sq_lds
      rw [decide_eq_false c_118]
      rfl
  have cut_22 : ∀ (j : Nat) (x : Int32), j < 8 → sq_ldr f1 f2 f3 n q (8 - j) x = (sq_ldr f1 f2 f3 n q 8 (1 <<< (a &&& 31))) → (∀ (x' : Int32) (o6 o7 o8 : Option Value), sq_ldr f1 f2 f3 n q (8 - (j + 1)) x' = (sq_ldr f1 f2 f3 n q 8 (1 <<< (a &&& 31))) → sj_G X (sq_os S o d (nI n, w, f1, f2, f3, f7)) 0 0 [some (.ref o), some (.int a), some (.int b), some (.int q), some (.int x'), some (.int (nI (j + 1))), o6, o7, o8] 8 []) → ∀ (o8 : Option Value), sj_G X (sq_os S o d (nI n, w, f1, f2, f3, f7)) 0 0 [some (.ref o), some (.int a), some (.int b), some (.int q), some (.int (sq_sw f1 f2 f3 q x 0)), some (.int (nI j)), some (.int (x)), some (.int (nI 0)), o8] 22 [] := by
    intro j x hj hx hnext
    refine sj_down (fun k => ∀ (o8 : Option Value), sj_G X (sq_os S o d (nI n, w, f1, f2, f3, f7)) 0 0 [some (.ref o), some (.int a), some (.int b), some (.int q), some (.int (sq_sw f1 f2 f3 q x k)), some (.int (nI j)), some (.int (x)), some (.int (nI k)), o8] 22 []) n (fun k hk ih => ?_)
    intro o8
    refine sj_iload C 24 rfl dX1_leads_22 rfl ?_
    refine sj_aload_n C 25 rfl dX1_leads_24 rfl rfl ?_
    refine sj_getI C 28 rfl fd_X1_29 dX1_leads_25 kd_o ?_
    rw [sq_f0]
    refine sj_icmp_ge C 96 31 rfl rfl dX1_leads_28 (fun c_28 => ?_) (fun c_28 => ?_)
    · refine sj_iload C 98 rfl dX1_leads_96 rfl ?_
      refine sj_iload C 100 rfl dX1_leads_98 rfl ?_
      refine sj_icmp_ne C 106 103 rfl rfl dX1_leads_100 (fun c_100 => ?_) (fun c_100 => ?_)
      · refine sj_iinc_5 C 109 rfl dX1_leads_106 rfl rfl ?_
        refine sj_goto C 8 rfl dX1_leads_109 ?_
        have hfx : sq_ldr f1 f2 f3 n q (8 - j) x = (if sq_sw f1 f2 f3 q x n = x then x else sq_ldr f1 f2 f3 n q (8 - (j + 1)) (sq_sw f1 f2 f3 q x n)) := by
          rw [show 8 - j = (8 - (j + 1)) + 1 by omega]
          rfl
        rw [hfx] at hx
        have hkn : k = n := by
          have h8 : ¬ k < n := fun h7 => nI_ge h7 (by omega) c_28
          omega
        subst hkn
        rw [if_neg c_100] at hx
        rw [sj_n1]
        exact hnext _ _ _ _ hx
      · refine sj_goto C 112 rfl dX1_leads_103 ?_
        have hfx : sq_ldr f1 f2 f3 n q (8 - j) x = (if sq_sw f1 f2 f3 q x n = x then x else sq_ldr f1 f2 f3 n q (8 - (j + 1)) (sq_sw f1 f2 f3 q x n)) := by
          rw [show 8 - j = (8 - (j + 1)) + 1 by omega]
          rfl
        rw [hfx] at hx
        have hkn : k = n := by
          have h8 : ¬ k < n := fun h7 => nI_ge h7 (by omega) c_28
          omega
        subst hkn
        rw [if_pos c_100] at hx
        exact cut_112 _ _ _ _ _ (c_100.trans hx)
    · have hlt : k < n := Nat.not_le.mp fun h8 => c_28 (nI_le h8 (by omega))
      refine sj_iconstv C (1) 32 rfl dX1_leads_31 rfl ?_
      refine sj_aload_n C 33 rfl dX1_leads_32 rfl rfl ?_
      refine sj_getr C 36 rfl fd_X1_14 dX1_leads_33 kd_o rf_o_2 ?_
      refine sj_iload C 38 rfl dX1_leads_36 rfl ?_
      refine sj_callVd C 41 rfl dX1_leads_38 cv_X1_54 rfl (ct_X2_at _ hr1 _) rfl rfl rfl ⟨_, _, kd_r1, rfl, rfl, by decide⟩ ⟨rfl, rfl⟩ ?_
      rw [sq_r2 h, sj_at_nI (j := k) _ (by omega) (by omega)]
      refine sj_ishl C 42 rfl dX1_leads_41 ?_
      refine sj_iconstv C (1) 43 rfl dX1_leads_42 rfl ?_
      refine sj_aload_n C 44 rfl dX1_leads_43 rfl rfl ?_
      refine sj_getr C 47 rfl fd_X1_20 dX1_leads_44 kd_o rf_o_3 ?_
      refine sj_iload C 49 rfl dX1_leads_47 rfl ?_
      refine sj_callVd C 52 rfl dX1_leads_49 cv_X1_54 rfl (ct_X2_at _ hr3 _) rfl rfl rfl ⟨_, _, kd_r3, rfl, rfl, by decide⟩ ⟨rfl, rfl⟩ ?_
      rw [sq_r4 h, sj_at_nI (j := k) _ (by omega) (by omega)]
      refine sj_ishl C 53 rfl dX1_leads_52 ?_
      refine sj_ior C 54 rfl dX1_leads_53 ?_
      refine sj_istore_8 C 56 rfl dX1_leads_54 rfl rfl ?_
      rw [show (1 <<< (f1 k &&& 31)) ||| (1 <<< (f2 k &&& 31)) = sq_en f1 f2 k from rfl]
      refine sj_iload C 58 rfl dX1_leads_56 rfl ?_
      refine sj_iload_n C 59 rfl dX1_leads_58 rfl rfl ?_
      refine sj_icmp_eq C 90 62 rfl rfl dX1_leads_59 (fun c_59 => ?_) (fun c_59 => ?_)
      · refine sj_iinc_7 C 93 rfl dX1_leads_90 rfl rfl ?_
        refine sj_goto C 22 rfl dX1_leads_93 ?_
        have e9 : (sq_sw f1 f2 f3 q x (k + 1)) = (sq_sw f1 f2 f3 q x k) := if_neg (fun e9 => e9.1 c_59)
        have ih' := ih hlt
        rw [e9] at ih'
        rw [sj_n1]
        exact ih' _
      · refine sj_aload_n C 63 rfl dX1_leads_62 rfl rfl ?_
        refine sj_getr C 66 rfl fd_X1_23 dX1_leads_63 kd_o rf_o_4 ?_
        refine sj_iload C 68 rfl dX1_leads_66 rfl ?_
        refine sj_callVd C 71 rfl dX1_leads_68 cv_X1_54 rfl (ct_X2_at _ hr5 _) rfl rfl rfl ⟨_, _, kd_r5, rfl, rfl, by decide⟩ ⟨rfl, rfl⟩ ?_
        rw [sq_r6 h, sj_at_nI (j := k) _ (by omega) (by omega)]
        refine sj_iconstv C (1) 72 rfl dX1_leads_71 rfl ?_
        refine sj_icmp_ne C 90 75 rfl rfl dX1_leads_72 (fun c_72 => ?_) (fun c_72 => ?_)
        · refine sj_iinc_7 C 93 rfl dX1_leads_90 rfl rfl ?_
          refine sj_goto C 22 rfl dX1_leads_93 ?_
          have e9 : (sq_sw f1 f2 f3 q x (k + 1)) = (sq_sw f1 f2 f3 q x k) := if_neg (fun e9 => c_72 e9.2.1)
          have ih' := ih hlt
          rw [e9] at ih'
          rw [sj_n1]
          exact ih' _
        · refine sj_iload C 77 rfl dX1_leads_75 rfl ?_
          refine sj_iload C 79 rfl dX1_leads_77 rfl ?_
          refine sj_iand C 80 rfl dX1_leads_79 ?_
          refine sj_if_eq C 90 83 rfl rfl dX1_leads_80 (fun c_80 => ?_) (fun c_80 => ?_)
          · refine sj_iinc_7 C 93 rfl dX1_leads_90 rfl rfl ?_
            refine sj_goto C 22 rfl dX1_leads_93 ?_
            have e9 : (sq_sw f1 f2 f3 q x (k + 1)) = (sq_sw f1 f2 f3 q x k) := if_neg (fun e9 => e9.2.2 c_80)
            have ih' := ih hlt
            rw [e9] at ih'
            rw [sj_n1]
            exact ih' _
          · refine sj_iload C 85 rfl dX1_leads_83 rfl ?_
            refine sj_iload C 87 rfl dX1_leads_85 rfl ?_
            refine sj_ior C 88 rfl dX1_leads_87 ?_
            refine sj_istore_4 C 90 rfl dX1_leads_88 rfl rfl ?_
            refine sj_iinc_7 C 93 rfl dX1_leads_90 rfl rfl ?_
            refine sj_goto C 22 rfl dX1_leads_93 ?_
            have e9 : (sq_sw f1 f2 f3 q x (k + 1)) = (sq_sw f1 f2 f3 q x k) ||| sq_en f1 f2 k := if_pos ⟨c_59, c_72, c_80⟩
            have ih' := ih hlt
            rw [e9] at ih'
            rw [sj_n1]
            exact ih' _
  have cut_8 : ∀ (x : Int32) (o6 o7 o8 : Option Value), sq_ldr f1 f2 f3 n q (8 - 0) x = (sq_ldr f1 f2 f3 n q 8 (1 <<< (a &&& 31))) → sj_G X (sq_os S o d (nI n, w, f1, f2, f3, f7)) 0 0 [some (.ref o), some (.int a), some (.int b), some (.int q), some (.int x), some (.int (nI 0)), o6, o7, o8] 8 [] := by
    refine sj_down (fun j => ∀ (x : Int32) (o6 o7 o8 : Option Value), sq_ldr f1 f2 f3 n q (8 - j) x = (sq_ldr f1 f2 f3 n q 8 (1 <<< (a &&& 31))) → sj_G X (sq_os S o d (nI n, w, f1, f2, f3, f7)) 0 0 [some (.ref o), some (.int a), some (.int b), some (.int q), some (.int x), some (.int (nI j)), o6, o7, o8] 8 []) 8 (fun j hj ih => ?_)
    intro x o6 o7 o8 hx
    refine sj_iload C 10 rfl dX1_leads_8 rfl ?_
    refine sj_bipush C (8) 12 rfl dX1_leads_10 (by decide) ?_
    refine sj_icmp_ge C 112 15 rfl rfl dX1_leads_12 (fun c_12 => ?_) (fun c_12 => ?_)
    · have hj8 : j = 8 := by
        have h8 : ¬ j < 8 := fun h7 => nI_ge (b := 8) h7 (by omega) c_12
        omega
      subst hj8
      exact cut_112 _ _ _ _ _ hx
    · have hlj : j < 8 := Nat.not_le.mp fun h8 => c_12 (nI_le (a := 8) h8 (by omega))
      refine sj_iload C 17 rfl dX1_leads_15 rfl ?_
      refine sj_istore_6 C 19 rfl dX1_leads_17 rfl rfl ?_
      refine sj_iconstv C (0) 20 rfl dX1_leads_19 rfl ?_
      refine sj_istore_7 C 22 rfl dX1_leads_20 rfl rfl ?_
      exact cut_22 j x hlj hx (fun x' o6 o7 o8 e => ih hlj x' o6 o7 o8 e) _
  refine sj_iconstv C (1) 1 rfl dX1_leads_0 rfl ?_
  refine sj_iload_n C 2 rfl dX1_leads_1 rfl rfl ?_
  refine sj_ishl C 3 rfl dX1_leads_2 ?_
  refine sj_istore_4 C 5 rfl dX1_leads_3 rfl rfl ?_
  refine sj_iconstv C (0) 6 rfl dX1_leads_5 rfl ?_
  refine sj_istore_5 C 8 rfl dX1_leads_6 rfl rfl ?_
  exact cut_8 _ _ _ _ rfl
set_option maxRecDepth 100000 in
set_option maxHeartbeats 150000 in
theorem ct_X1_holdsTogether (l : Launch) {S : sj_St} {o : Nat} {d : Nat → Nat} (h : sq_ol S o d) {n : Nat} (hn : n ≤ 28) {w : Int32} {f1 f2 f3 f7 : Nat → Int32} (k : Nat) (hk : k < 28) : sj_Ctr l mX1_holdsTogether [.ref o, .int (nI k)] (sq_os S o d (nI n, w, f1, f2, f3, f7)) (sj_eq (some (.int (sj_bi (sq_hlt f1 f2 f3 n k)))) (sq_os S o d (nI n, w, f1, f2, f3, f7))) := by
  refine sj_start ([some (.ref o), some (.int (nI k))]) (by decide +kernel) rfl rfl (fun X hX C hR => ?_)
  subst hX
  have hV : sq_ol (sq_os S o d (nI n, w, f1, f2, f3, f7)) o d := h
  obtain ⟨kd_o, ⟨rf_o_2, hr1⟩, ⟨rf_o_3, hr3⟩, ⟨rf_o_4, hr5⟩, ⟨rf_o_5, hr7⟩, hinj⟩ := hV
  have kd_r1 := hr1.1
  have kd_r3 := hr3.1
  have kd_r5 := hr5.1
  have kd_r7 := hr7.1
  refine sj_aload_n C 1 rfl dX1_holdsTogether_0 rfl rfl ?_
  refine sj_getr C 4 rfl fd_X1_23 dX1_holdsTogether_1 kd_o rf_o_4 ?_
  refine sj_iload_n C 5 rfl dX1_holdsTogether_4 rfl rfl ?_
  refine sj_callVd C 8 rfl dX1_holdsTogether_5 cv_X1_54 rfl (ct_X2_at _ hr5 _) rfl rfl rfl ⟨_, _, kd_r5, rfl, rfl, by decide⟩ ⟨rfl, rfl⟩ ?_
  rw [sq_r6 h, sj_at_nI (j := k) _ hk (by omega)]
  refine sj_iconstv C (1) 9 rfl dX1_holdsTogether_8 rfl ?_
  refine sj_icmp_ne C 40 12 rfl rfl dX1_holdsTogether_9 (fun c_9 => ?_) (fun c_9 => ?_)
  · refine sj_iconstv C (0) 41 rfl dX1_holdsTogether_40 rfl ?_
    refine sj_zret C hR rfl rfl rfl dX1_holdsTogether_41 ?_
    refine ⟨congrArg (fun z => some (Value.int z)) ?_, rfl⟩
    unfold sq_hlt
    rw [decide_eq_false c_9]
    rfl
  · refine sj_aload_n C 13 rfl dX1_holdsTogether_12 rfl rfl ?_
    refine sj_aload_n C 14 rfl dX1_holdsTogether_13 rfl rfl ?_
    refine sj_getr C 17 rfl fd_X1_14 dX1_holdsTogether_14 kd_o rf_o_2 ?_
    refine sj_iload_n C 18 rfl dX1_holdsTogether_17 rfl rfl ?_
    refine sj_callVd C 21 rfl dX1_holdsTogether_18 cv_X1_54 rfl (ct_X2_at _ hr1 _) rfl rfl rfl ⟨_, _, kd_r1, rfl, rfl, by decide⟩ ⟨rfl, rfl⟩ ?_
    rw [sq_r2 h, sj_at_nI (j := k) _ hk (by omega)]
    refine sj_aload_n C 22 rfl dX1_holdsTogether_21 rfl rfl ?_
    refine sj_getr C 25 rfl fd_X1_20 dX1_holdsTogether_22 kd_o rf_o_3 ?_
    refine sj_iload_n C 26 rfl dX1_holdsTogether_25 rfl rfl ?_
    refine sj_callVd C 29 rfl dX1_holdsTogether_26 cv_X1_54 rfl (ct_X2_at _ hr3 _) rfl rfl rfl ⟨_, _, kd_r3, rfl, rfl, by decide⟩ ⟨rfl, rfl⟩ ?_
    rw [sq_r4 h, sj_at_nI (j := k) _ hk (by omega)]
    refine sj_iload_n C 30 rfl dX1_holdsTogether_29 rfl rfl ?_
    refine sj_callVd C 33 rfl dX1_holdsTogether_30 cv_X1_73 rfl (ct_X1_leads _ h hn _ _ _) rfl rfl rfl ⟨_, _, kd_o, rfl, rfl, by decide⟩ ⟨rfl, rfl⟩ ?_
    refine sj_if_ne C 40 36 rfl rfl dX1_holdsTogether_33 (fun c_33 => ?_) (fun c_33 => ?_)
    · refine sj_iconstv C (0) 41 rfl dX1_holdsTogether_40 rfl ?_
      refine sj_zret C hR rfl rfl rfl dX1_holdsTogether_41 ?_
      refine ⟨congrArg (fun z => some (Value.int z)) ?_, rfl⟩
      unfold sq_hlt
      rw [decide_eq_true c_9, sj_bin.mp c_33]
      rfl
    · refine sj_iconstv C (1) 37 rfl dX1_holdsTogether_36 rfl ?_
      refine sj_goto C 41 rfl dX1_holdsTogether_37 ?_
      refine sj_zret C hR rfl rfl rfl dX1_holdsTogether_41 ?_
      refine ⟨congrArg (fun z => some (Value.int z)) ?_, rfl⟩
      unfold sq_hlt
      rw [decide_eq_true c_9, sj_bi0.mp c_33]
      rfl
set_option maxRecDepth 100000 in
set_option maxHeartbeats 150000 in
theorem ct_X1_numberOf (l : Launch) {S : sj_St} {o : Nat} {d : Nat → Nat} (h : sq_ol S o d) {n : Nat} (hn : n ≤ 28) {w : Int32} {f1 f2 f3 f7 : Nat → Int32} (k q : Nat) (hk : k < 28) (hq : q < 4) : sj_Ctr l mX1_numberOf [.ref o, .int (nI k), .int (nI q)] (sq_os S o d (nI n, w, f1, f2, f3, f7)) (sj_eq (some (.int (sq_no f1 f2 f3 n k q))) (sq_os S o d (nI n, w, f1, f2, f3, f7))) := by
  refine sj_start ([some (.ref o), some (.int (nI k)), some (.int (nI q))]) (by decide +kernel) rfl rfl (fun X hX C hR => ?_)
  subst hX
  have hV : sq_ol (sq_os S o d (nI n, w, f1, f2, f3, f7)) o d := h
  obtain ⟨kd_o, ⟨rf_o_2, hr1⟩, ⟨rf_o_3, hr3⟩, ⟨rf_o_4, hr5⟩, ⟨rf_o_5, hr7⟩, hinj⟩ := hV
  have kd_r1 := hr1.1
  have kd_r3 := hr3.1
  have kd_r5 := hr5.1
  have kd_r7 := hr7.1
  refine sj_iload_n C 1 rfl dX1_numberOf_0 rfl rfl ?_
  obtain rfl | rfl | rfl | rfl : q = 0 ∨ q = 1 ∨ q = 2 ∨ q = 3 := by omega
  · refine sj_tableIn C 28 dX1_numberOf_1 (by decide) (by decide) rfl rfl ?_
    refine sj_aload_n C 29 rfl dX1_numberOf_28 rfl rfl ?_
    refine sj_getr C 32 rfl fd_X1_14 dX1_numberOf_29 kd_o rf_o_2 ?_
    refine sj_iload_n C 33 rfl dX1_numberOf_32 rfl rfl ?_
    refine sj_callVd C 36 rfl dX1_numberOf_33 cv_X1_54 rfl (ct_X2_at _ hr1 _) rfl rfl rfl ⟨_, _, kd_r1, rfl, rfl, by decide⟩ ⟨rfl, rfl⟩ ?_
    rw [sq_r2 h, sj_at_nI (j := k) _ hk (by omega)]
    refine sj_iret C hR rfl rfl dX1_numberOf_36 ?_
    refine ⟨congrArg (fun z => some (Value.int z)) ?_, rfl⟩
    rfl
  · refine sj_tableIn C 37 dX1_numberOf_1 (by decide) (by decide) rfl rfl ?_
    refine sj_aload_n C 38 rfl dX1_numberOf_37 rfl rfl ?_
    refine sj_getr C 41 rfl fd_X1_20 dX1_numberOf_38 kd_o rf_o_3 ?_
    refine sj_iload_n C 42 rfl dX1_numberOf_41 rfl rfl ?_
    refine sj_callVd C 45 rfl dX1_numberOf_42 cv_X1_54 rfl (ct_X2_at _ hr3 _) rfl rfl rfl ⟨_, _, kd_r3, rfl, rfl, by decide⟩ ⟨rfl, rfl⟩ ?_
    rw [sq_r4 h, sj_at_nI (j := k) _ hk (by omega)]
    refine sj_iret C hR rfl rfl dX1_numberOf_45 ?_
    refine ⟨congrArg (fun z => some (Value.int z)) ?_, rfl⟩
    rfl
  · refine sj_tableIn C 46 dX1_numberOf_1 (by decide) (by decide) rfl rfl ?_
    refine sj_aload_n C 47 rfl dX1_numberOf_46 rfl rfl ?_
    refine sj_getr C 50 rfl fd_X1_23 dX1_numberOf_47 kd_o rf_o_4 ?_
    refine sj_iload_n C 51 rfl dX1_numberOf_50 rfl rfl ?_
    refine sj_callVd C 54 rfl dX1_numberOf_51 cv_X1_54 rfl (ct_X2_at _ hr5 _) rfl rfl rfl ⟨_, _, kd_r5, rfl, rfl, by decide⟩ ⟨rfl, rfl⟩ ?_
    rw [sq_r6 h, sj_at_nI (j := k) _ hk (by omega)]
    refine sj_iret C hR rfl rfl dX1_numberOf_54 ?_
    refine ⟨congrArg (fun z => some (Value.int z)) ?_, rfl⟩
    rfl
  · refine sj_tableOut C 55 dX1_numberOf_1 (by decide) rfl ?_
    refine sj_aload_n C 56 rfl dX1_numberOf_55 rfl rfl ?_
    refine sj_iload_n C 57 rfl dX1_numberOf_56 rfl rfl ?_
    refine sj_callVd C 60 rfl dX1_numberOf_57 cv_X1_65 rfl (ct_X1_holdsTogether _ h hn k hk) rfl rfl rfl ⟨_, _, kd_o, rfl, rfl, by decide⟩ ⟨rfl, rfl⟩ ?_
    refine sj_if_eq C 67 63 rfl rfl dX1_numberOf_60 (fun c_60 => ?_) (fun c_60 => ?_)
    · refine sj_iconstv C (0) 68 rfl dX1_numberOf_67 rfl ?_
      refine sj_iret C hR rfl rfl dX1_numberOf_68 ?_
      refine ⟨congrArg (fun z => some (Value.int z)) ?_, rfl⟩
      show 0 = sj_bi (sq_hlt f1 f2 f3 n k)
      rw [sj_bi0.mp c_60]
      rfl
    · refine sj_iconstv C (1) 64 rfl dX1_numberOf_63 rfl ?_
      refine sj_goto C 68 rfl dX1_numberOf_64 ?_
      refine sj_iret C hR rfl rfl dX1_numberOf_68 ?_
      refine ⟨congrArg (fun z => some (Value.int z)) ?_, rfl⟩
      show 1 = sj_bi (sq_hlt f1 f2 f3 n k)
      rw [sj_bin.mp c_60]
      rfl
