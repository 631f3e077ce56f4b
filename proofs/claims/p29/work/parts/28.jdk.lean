/-! THE LIBRARY: the methods of the JDK that are called -/
theorem dJ6_bitCount_0f7a4_0 : decode cJ6_bitCount_0f7a4 0 = .ok (.iload_n 0, 1) := by decide +kernel
theorem dJ6_bitCount_0f7a4_1 : decode cJ6_bitCount_0f7a4 1 = .ok (.iload_n 0, 1) := by decide +kernel
theorem dJ6_bitCount_0f7a4_2 : decode cJ6_bitCount_0f7a4 2 = .ok (.iconst 1, 1) := by decide +kernel
theorem dJ6_bitCount_0f7a4_3 : decode cJ6_bitCount_0f7a4 3 = .ok (.iushr, 1) := by decide +kernel
theorem dJ6_bitCount_0f7a4_4 : decode cJ6_bitCount_0f7a4 4 = .ok (.ldc_w 265, 3) := by decide +kernel
theorem dJ6_bitCount_0f7a4_7 : decode cJ6_bitCount_0f7a4 7 = .ok (.iand, 1) := by decide +kernel
theorem dJ6_bitCount_0f7a4_8 : decode cJ6_bitCount_0f7a4 8 = .ok (.isub, 1) := by decide +kernel
theorem dJ6_bitCount_0f7a4_9 : decode cJ6_bitCount_0f7a4 9 = .ok (.istore_n 0, 1) := by decide +kernel
theorem dJ6_bitCount_0f7a4_10 : decode cJ6_bitCount_0f7a4 10 = .ok (.iload_n 0, 1) := by decide +kernel
theorem dJ6_bitCount_0f7a4_11 : decode cJ6_bitCount_0f7a4 11 = .ok (.ldc_w 266, 3) := by decide +kernel
theorem dJ6_bitCount_0f7a4_14 : decode cJ6_bitCount_0f7a4 14 = .ok (.iand, 1) := by decide +kernel
theorem dJ6_bitCount_0f7a4_15 : decode cJ6_bitCount_0f7a4 15 = .ok (.iload_n 0, 1) := by decide +kernel
theorem dJ6_bitCount_0f7a4_16 : decode cJ6_bitCount_0f7a4 16 = .ok (.iconst 2, 1) := by decide +kernel
theorem dJ6_bitCount_0f7a4_17 : decode cJ6_bitCount_0f7a4 17 = .ok (.iushr, 1) := by decide +kernel
theorem dJ6_bitCount_0f7a4_18 : decode cJ6_bitCount_0f7a4 18 = .ok (.ldc_w 266, 3) := by decide +kernel
theorem dJ6_bitCount_0f7a4_21 : decode cJ6_bitCount_0f7a4 21 = .ok (.iand, 1) := by decide +kernel
theorem dJ6_bitCount_0f7a4_22 : decode cJ6_bitCount_0f7a4 22 = .ok (.iadd, 1) := by decide +kernel
theorem dJ6_bitCount_0f7a4_23 : decode cJ6_bitCount_0f7a4 23 = .ok (.istore_n 0, 1) := by decide +kernel
theorem dJ6_bitCount_0f7a4_24 : decode cJ6_bitCount_0f7a4 24 = .ok (.iload_n 0, 1) := by decide +kernel
theorem dJ6_bitCount_0f7a4_25 : decode cJ6_bitCount_0f7a4 25 = .ok (.iload_n 0, 1) := by decide +kernel
theorem dJ6_bitCount_0f7a4_26 : decode cJ6_bitCount_0f7a4 26 = .ok (.iconst 4, 1) := by decide +kernel
theorem dJ6_bitCount_0f7a4_27 : decode cJ6_bitCount_0f7a4 27 = .ok (.iushr, 1) := by decide +kernel
theorem dJ6_bitCount_0f7a4_28 : decode cJ6_bitCount_0f7a4 28 = .ok (.iadd, 1) := by decide +kernel
theorem dJ6_bitCount_0f7a4_29 : decode cJ6_bitCount_0f7a4 29 = .ok (.ldc_w 267, 3) := by decide +kernel
theorem dJ6_bitCount_0f7a4_32 : decode cJ6_bitCount_0f7a4 32 = .ok (.iand, 1) := by decide +kernel
theorem dJ6_bitCount_0f7a4_33 : decode cJ6_bitCount_0f7a4 33 = .ok (.istore_n 0, 1) := by decide +kernel
theorem dJ6_bitCount_0f7a4_34 : decode cJ6_bitCount_0f7a4 34 = .ok (.iload_n 0, 1) := by decide +kernel
theorem dJ6_bitCount_0f7a4_35 : decode cJ6_bitCount_0f7a4 35 = .ok (.iload_n 0, 1) := by decide +kernel
theorem dJ6_bitCount_0f7a4_36 : decode cJ6_bitCount_0f7a4 36 = .ok (.bipush 8, 2) := by decide +kernel
theorem dJ6_bitCount_0f7a4_38 : decode cJ6_bitCount_0f7a4 38 = .ok (.iushr, 1) := by decide +kernel
theorem dJ6_bitCount_0f7a4_39 : decode cJ6_bitCount_0f7a4 39 = .ok (.iadd, 1) := by decide +kernel
theorem dJ6_bitCount_0f7a4_40 : decode cJ6_bitCount_0f7a4 40 = .ok (.istore_n 0, 1) := by decide +kernel
theorem dJ6_bitCount_0f7a4_41 : decode cJ6_bitCount_0f7a4 41 = .ok (.iload_n 0, 1) := by decide +kernel
theorem dJ6_bitCount_0f7a4_42 : decode cJ6_bitCount_0f7a4 42 = .ok (.iload_n 0, 1) := by decide +kernel
theorem dJ6_bitCount_0f7a4_43 : decode cJ6_bitCount_0f7a4 43 = .ok (.bipush 16, 2) := by decide +kernel
theorem dJ6_bitCount_0f7a4_45 : decode cJ6_bitCount_0f7a4 45 = .ok (.iushr, 1) := by decide +kernel
theorem dJ6_bitCount_0f7a4_46 : decode cJ6_bitCount_0f7a4 46 = .ok (.iadd, 1) := by decide +kernel
theorem dJ6_bitCount_0f7a4_47 : decode cJ6_bitCount_0f7a4 47 = .ok (.istore_n 0, 1) := by decide +kernel
theorem dJ6_bitCount_0f7a4_48 : decode cJ6_bitCount_0f7a4 48 = .ok (.iload_n 0, 1) := by decide +kernel
theorem dJ6_bitCount_0f7a4_49 : decode cJ6_bitCount_0f7a4 49 = .ok (.bipush 63, 2) := by decide +kernel
theorem dJ6_bitCount_0f7a4_51 : decode cJ6_bitCount_0f7a4 51 = .ok (.iand, 1) := by decide +kernel
theorem dJ6_bitCount_0f7a4_52 : decode cJ6_bitCount_0f7a4 52 = .ok (.ireturn, 1) := by decide +kernel
theorem dJ9_floorDiv_7cf53_0 : decode cJ9_floorDiv_7cf53 0 = .ok (.iload_n 0, 1) := by decide +kernel
theorem dJ9_floorDiv_7cf53_1 : decode cJ9_floorDiv_7cf53 1 = .ok (.iload_n 1, 1) := by decide +kernel
theorem dJ9_floorDiv_7cf53_2 : decode cJ9_floorDiv_7cf53 2 = .ok (.idiv, 1) := by decide +kernel
theorem dJ9_floorDiv_7cf53_3 : decode cJ9_floorDiv_7cf53 3 = .ok (.istore_n 2, 1) := by decide +kernel
theorem dJ9_floorDiv_7cf53_4 : decode cJ9_floorDiv_7cf53 4 = .ok (.iload_n 0, 1) := by decide +kernel
theorem dJ9_floorDiv_7cf53_5 : decode cJ9_floorDiv_7cf53 5 = .ok (.iload_n 1, 1) := by decide +kernel
theorem dJ9_floorDiv_7cf53_6 : decode cJ9_floorDiv_7cf53 6 = .ok (.ixor, 1) := by decide +kernel
theorem dJ9_floorDiv_7cf53_7 : decode cJ9_floorDiv_7cf53 7 = .ok (.ifCond .ge 14, 3) := by decide +kernel
theorem dJ9_floorDiv_7cf53_10 : decode cJ9_floorDiv_7cf53 10 = .ok (.iload_n 2, 1) := by decide +kernel
theorem dJ9_floorDiv_7cf53_11 : decode cJ9_floorDiv_7cf53 11 = .ok (.iload_n 1, 1) := by decide +kernel
theorem dJ9_floorDiv_7cf53_12 : decode cJ9_floorDiv_7cf53 12 = .ok (.imul, 1) := by decide +kernel
theorem dJ9_floorDiv_7cf53_13 : decode cJ9_floorDiv_7cf53 13 = .ok (.iload_n 0, 1) := by decide +kernel
theorem dJ9_floorDiv_7cf53_14 : decode cJ9_floorDiv_7cf53 14 = .ok (.if_icmp .eq 7, 3) := by decide +kernel
theorem dJ9_floorDiv_7cf53_17 : decode cJ9_floorDiv_7cf53 17 = .ok (.iload_n 2, 1) := by decide +kernel
theorem dJ9_floorDiv_7cf53_18 : decode cJ9_floorDiv_7cf53 18 = .ok (.iconst 1, 1) := by decide +kernel
theorem dJ9_floorDiv_7cf53_19 : decode cJ9_floorDiv_7cf53 19 = .ok (.isub, 1) := by decide +kernel
theorem dJ9_floorDiv_7cf53_20 : decode cJ9_floorDiv_7cf53 20 = .ok (.ireturn, 1) := by decide +kernel
theorem dJ9_floorDiv_7cf53_21 : decode cJ9_floorDiv_7cf53 21 = .ok (.iload_n 2, 1) := by decide +kernel
theorem dJ9_floorDiv_7cf53_22 : decode cJ9_floorDiv_7cf53 22 = .ok (.ireturn, 1) := by decide +kernel
theorem dJ9_abs_0f7a4_0 : decode cJ9_abs_0f7a4 0 = .ok (.iload_n 0, 1) := by decide +kernel
theorem dJ9_abs_0f7a4_1 : decode cJ9_abs_0f7a4 1 = .ok (.ifCond .ge 8, 3) := by decide +kernel
theorem dJ9_abs_0f7a4_4 : decode cJ9_abs_0f7a4 4 = .ok (.iload_n 0, 1) := by decide +kernel
theorem dJ9_abs_0f7a4_5 : decode cJ9_abs_0f7a4 5 = .ok (.ineg, 1) := by decide +kernel
theorem dJ9_abs_0f7a4_6 : decode cJ9_abs_0f7a4 6 = .ok (.goto 4, 3) := by decide +kernel
theorem dJ9_abs_0f7a4_9 : decode cJ9_abs_0f7a4 9 = .ok (.iload_n 0, 1) := by decide +kernel
theorem dJ9_abs_0f7a4_10 : decode cJ9_abs_0f7a4 10 = .ok (.ireturn, 1) := by decide +kernel
theorem dJ9_max_7cf53_0 : decode cJ9_max_7cf53 0 = .ok (.iload_n 0, 1) := by decide +kernel
theorem dJ9_max_7cf53_1 : decode cJ9_max_7cf53 1 = .ok (.iload_n 1, 1) := by decide +kernel
theorem dJ9_max_7cf53_2 : decode cJ9_max_7cf53 2 = .ok (.if_icmp .lt 7, 3) := by decide +kernel
theorem dJ9_max_7cf53_5 : decode cJ9_max_7cf53 5 = .ok (.iload_n 0, 1) := by decide +kernel
theorem dJ9_max_7cf53_6 : decode cJ9_max_7cf53 6 = .ok (.goto 4, 3) := by decide +kernel
theorem dJ9_max_7cf53_9 : decode cJ9_max_7cf53 9 = .ok (.iload_n 1, 1) := by decide +kernel
theorem dJ9_max_7cf53_10 : decode cJ9_max_7cf53 10 = .ok (.ireturn, 1) := by decide +kernel
theorem dJ9_min_7cf53_0 : decode cJ9_min_7cf53 0 = .ok (.iload_n 0, 1) := by decide +kernel
theorem dJ9_min_7cf53_1 : decode cJ9_min_7cf53 1 = .ok (.iload_n 1, 1) := by decide +kernel
theorem dJ9_min_7cf53_2 : decode cJ9_min_7cf53 2 = .ok (.if_icmp .gt 7, 3) := by decide +kernel
theorem dJ9_min_7cf53_5 : decode cJ9_min_7cf53 5 = .ok (.iload_n 0, 1) := by decide +kernel
theorem dJ9_min_7cf53_6 : decode cJ9_min_7cf53 6 = .ok (.goto 4, 3) := by decide +kernel
theorem dJ9_min_7cf53_9 : decode cJ9_min_7cf53 9 = .ok (.iload_n 1, 1) := by decide +kernel
theorem dJ9_min_7cf53_10 : decode cJ9_min_7cf53 10 = .ok (.ireturn, 1) := by decide +kernel
def sj_us (x y : Int32) : Int32 := (x.toUInt32 >>> (y.toUInt32 &&& Int32.toUInt32 31)).toInt32
theorem sj_iushr {X : sj_X} {M : sj_M} (C : sj_C X M) {S : sj_St} {cl sl : Nat} {L : List (Option Value)} {pc : Nat} {rest : List Value} {x y : Int32} (q : Nat) (hq : pc + 1 = q) (hd : decode M.2.1 pc = .ok (.iushr, 1)) (k : sj_G X S cl sl L q (.int (sj_us x y) :: rest)) : sj_G X S cl sl L pc (.int y :: .int x :: rest) := by
  obtain ⟨p, l, e, R, s, m, args, below, meth, c, D, cy, A, nL, Q⟩ := X
  obtain ⟨ym, cc, nL0, ret, fr, lo, mc, ms⟩ := M
  obtain ⟨hx, hb, ⟨hml, hnL⟩, hown, hts, ⟨hlk, hret, hnm⟩, hK, hAm, hA, hRR⟩ := C
  subst hq
  intro H locs ls h1 h2 h3
  exact lv_iushr hx hb hd rfl (k H locs ls h1 h2 h3)
theorem sj_ldcw {X : sj_X} {M : sj_M} (C : sj_C X M) {S : sj_St} {cl sl : Nat} {L : List (Option Value)} {pc : Nat} {rest : List Value} {idx : Nat} (v : Int32) (q : Nat) (hq : pc + 3 = q) (hw : Cond.constant M.1.cls idx v ∈ sj_GT) (hd : decode M.2.1 pc = .ok (.ldc_w idx, 3)) (k : sj_G X S cl sl L q (.int v :: rest)) : sj_G X S cl sl L pc rest := by
  obtain ⟨p, l, e, R, s, m, args, below, meth, c, D, cy, A, nL, Q⟩ := X
  obtain ⟨ym, cc, nL0, ret, fr, lo, mc, ms⟩ := M
  obtain ⟨hx, hb, ⟨hml, hnL⟩, hown, hts, ⟨hlk, hret, hnm⟩, hK, hAm, hA, hRR⟩ := C
  subst hq
  intro H locs ls g1 g2 g3
  exact lv_ldcw hx hb hown (hts _ hw) hd (k H locs ls g1 g2 g3)
theorem sj_raw {X : sj_X} {M : sj_M} (C : sj_C X M) {S : sj_St} {cl sl : Nat} {L : List (Option Value)} {pc : Nat} {idx : Nat} {x : UInt64} (q : Nat) (hq : pc + 3 = q) (hd : decode M.2.1 pc = .ok (.invokestatic idx, 3)) (hw : Cond.methodLink M.1.cls idx ⟨"java/lang/Double", "doubleToRawLongBits", "(D)J"⟩ ∈ sj_GT ∧ Cond.native ⟨"java/lang/Double", "doubleToRawLongBits", "(D)J"⟩ ∈ sj_GT ∧ Cond.static ⟨"java/lang/Double", "doubleToRawLongBits", "(D)J"⟩ ∈ sj_GT ∧ Cond.initialized "java/lang/Double" ∈ sj_GT) (hfit : (Nat.ble 1 M.2.2.2.2.1 && Nat.ble 15 M.2.2.2.2.2.1) = true) (k : sj_G X S cl sl L q [.long x.toInt64]) : sj_G X S cl sl L pc [.double x] := by
  obtain ⟨p, l, e, R, s, m, args, below, meth, c, D, cy, A, nL, Q⟩ := X
  obtain ⟨ym, cc, nL0, ret, fr, lo, mc, ms⟩ := M
  obtain ⟨hx, hb, ⟨hml, hnL⟩, hown, hts, ⟨hlk, hret, hnm⟩, hK, hAm, hA, hRR⟩ := C
  subst hq
  subst hRR
  intro H locs ls h1 h2 h3
  simp only [Bool.and_eq_true] at hfit
  exact vn_d2l hx hb (hml.trans h3.1.symm) hown (hts _ hw.1) (hts _ hw.2.1) (hts _ hw.2.2.1) (hts _ hw.2.2.2) (Nat.le_of_ble_eq_true hfit.1) (by have h9 := Nat.le_of_ble_eq_true hfit.2; show 0 + 15 ≤ lo; omega) hd (k H locs ls h1 h2 h3)
def sj_bc (x : Int32) : Int32 :=
  let a := x - (sj_us x 1 &&& 1431655765)
  let b := (a &&& 858993459) + (sj_us a 2 &&& 858993459)
  let c := (b + sj_us b 4) &&& 252645135
  let d := c + sj_us c 8
  let e := d + sj_us d 16
  e &&& 63
set_option maxRecDepth 100000 in
set_option maxHeartbeats 2500000 in
theorem ct_bitCount (l : Launch) (S : sj_St) (x : Int32) : sj_Ctr l mJ6_bitCount_0f7a4 [.int x] S (sj_eq (some (.int (sj_bc x))) S) := by
  refine sj_start ([some (.int x)]) (by decide +kernel) rfl rfl (fun X hX C hR => ?_)
  subst hX
  refine sj_iload_n C 1 rfl dJ6_bitCount_0f7a4_0 rfl rfl ?_
  refine sj_iload_n C 2 rfl dJ6_bitCount_0f7a4_1 rfl rfl ?_
  refine sj_iconstv C (1) 3 rfl dJ6_bitCount_0f7a4_2 rfl ?_
  refine sj_iushr C 4 rfl dJ6_bitCount_0f7a4_3 ?_
  refine sj_ldcw C (1431655765) 7 rfl (wr_11 _ (List.mem_of_getElem? (i := 8) (by decide +kernel))) dJ6_bitCount_0f7a4_4 ?_
  refine sj_iand C 8 rfl dJ6_bitCount_0f7a4_7 ?_
  refine sj_isub C 9 rfl dJ6_bitCount_0f7a4_8 ?_
  refine sj_istore_n_0 C 10 rfl dJ6_bitCount_0f7a4_9 rfl rfl ?_
  refine sj_iload_n C 11 rfl dJ6_bitCount_0f7a4_10 rfl rfl ?_
  refine sj_ldcw C (858993459) 14 rfl (wr_11 _ (List.mem_of_getElem? (i := 9) (by decide +kernel))) dJ6_bitCount_0f7a4_11 ?_
  refine sj_iand C 15 rfl dJ6_bitCount_0f7a4_14 ?_
  refine sj_iload_n C 16 rfl dJ6_bitCount_0f7a4_15 rfl rfl ?_
  refine sj_iconstv C (2) 17 rfl dJ6_bitCount_0f7a4_16 rfl ?_
  refine sj_iushr C 18 rfl dJ6_bitCount_0f7a4_17 ?_
  refine sj_ldcw C (858993459) 21 rfl (wr_11 _ (List.mem_of_getElem? (i := 9) (by decide +kernel))) dJ6_bitCount_0f7a4_18 ?_
  refine sj_iand C 22 rfl dJ6_bitCount_0f7a4_21 ?_
  refine sj_iadd C 23 rfl dJ6_bitCount_0f7a4_22 ?_
  refine sj_istore_n_0 C 24 rfl dJ6_bitCount_0f7a4_23 rfl rfl ?_
  refine sj_iload_n C 25 rfl dJ6_bitCount_0f7a4_24 rfl rfl ?_
  refine sj_iload_n C 26 rfl dJ6_bitCount_0f7a4_25 rfl rfl ?_
  refine sj_iconstv C (4) 27 rfl dJ6_bitCount_0f7a4_26 rfl ?_
  refine sj_iushr C 28 rfl dJ6_bitCount_0f7a4_27 ?_
  refine sj_iadd C 29 rfl dJ6_bitCount_0f7a4_28 ?_
  refine sj_ldcw C (252645135) 32 rfl (wr_11 _ (List.mem_of_getElem? (i := 10) (by decide +kernel))) dJ6_bitCount_0f7a4_29 ?_
  refine sj_iand C 33 rfl dJ6_bitCount_0f7a4_32 ?_
  refine sj_istore_n_0 C 34 rfl dJ6_bitCount_0f7a4_33 rfl rfl ?_
  refine sj_iload_n C 35 rfl dJ6_bitCount_0f7a4_34 rfl rfl ?_
  refine sj_iload_n C 36 rfl dJ6_bitCount_0f7a4_35 rfl rfl ?_
  refine sj_bipush C (8) 38 rfl dJ6_bitCount_0f7a4_36 (by decide) ?_
  refine sj_iushr C 39 rfl dJ6_bitCount_0f7a4_38 ?_
  refine sj_iadd C 40 rfl dJ6_bitCount_0f7a4_39 ?_
  refine sj_istore_n_0 C 41 rfl dJ6_bitCount_0f7a4_40 rfl rfl ?_
  refine sj_iload_n C 42 rfl dJ6_bitCount_0f7a4_41 rfl rfl ?_
  refine sj_iload_n C 43 rfl dJ6_bitCount_0f7a4_42 rfl rfl ?_
  refine sj_bipush C (16) 45 rfl dJ6_bitCount_0f7a4_43 (by decide) ?_
  refine sj_iushr C 46 rfl dJ6_bitCount_0f7a4_45 ?_
  refine sj_iadd C 47 rfl dJ6_bitCount_0f7a4_46 ?_
  refine sj_istore_n_0 C 48 rfl dJ6_bitCount_0f7a4_47 rfl rfl ?_
  refine sj_iload_n C 49 rfl dJ6_bitCount_0f7a4_48 rfl rfl ?_
  refine sj_bipush C (63) 51 rfl dJ6_bitCount_0f7a4_49 (by decide) ?_
  refine sj_iand C 52 rfl dJ6_bitCount_0f7a4_51 ?_
  refine sj_iret C hR rfl rfl dJ6_bitCount_0f7a4_52 ?_
  exact ⟨rfl, rfl⟩
def sj_fd (a b : Int32) : Int32 := if a ^^^ b < 0 ∧ ¬ a / b * b = a then a / b - 1 else a / b
theorem sj_MetF {l : Launch} {y : MethodName} {ws ws' : List Cond} {rm : Room} {Pc : Array Value → State → Prop} {Qc : Array Value → State → Outcome → State → Prop} {mc ms : Nat} {free : Addr → Prop} {cc : ByteArray} {maxL : Nat} {ret : Option FieldType}
    (hy : plainFor y = true) (hw : ws = Cond.code y cc maxL ret :: ws')
    (body : ∀ p e s m args below meth c s₁, BodyLoose p l y (headSpec ws rm) cc maxL ret e s m args below meth c s₁ → c.maxLocals = maxL → Pc args s →
      W p l e (headSpec ws rm).room s m args below meth c s.heap [] 0 0 (MQ below Qc args s mc ms free) (entryFrame m args maxL)) : Met l y ws rm Pc Qc mc ms free := by
  refine MetFree.of_bodySF (code := cc) (maxLocals := maxL) (ret := ret) hy ?_ ?_
  · intro args s m h hn
    obtain ⟨meth, c, h1, h2, h3, h4, h5, h6, -, -⟩ := Cond.code_spec hn (atoms_spec (ws := ws) h _ (by rw [hw]; exact List.mem_cons_self))
    exact ⟨meth, c, h1, h2, h3, h4, h5, h6⟩
  · intro p e s m args below meth c s₁ B hml hP _
    have hh0 : s₁.heap = s.heap := by rw [B.state]; rfl
    obtain ⟨t, a1, o, b1, b2, b3⟩ := body p e s m args below meth c s₁ B hml hP s₁ hh0 (Stand.of_body B)
    exact ⟨t, o, a1, b1, b2, ⟨b3.1, b3.2⟩⟩
theorem sj_startF {l : Launch} {M : sj_M} {av : List Value} {S : sj_St} {Post : Option Value → sj_St → Prop} (L0 : List (Option Value)) (hy : plainFor M.1 = true) (hlen : Nat.ble (lg_sl av).length M.2.2.1 = true) (hL : sj_lv 0 L0 = lv_args 0 av) (body : ∀ X : sj_X, X.2.1 = l → sj_C X M → sj_R X M Post → sj_G X S 0 0 L0 0 []) : sj_Ctr l M av S Post := by
  obtain ⟨y, cc, nL, ret, fr, lo, mc, ms⟩ := M
  intro D cy A sz hA
  refine sj_MetF (cc := cc) (maxL := nL) (ret := ret) hy rfl ?_
  intro p e s m args below meth c s₁ B hml hv
  obtain ⟨rfl, hsz, hP, hK, hAm⟩ := hv
  have hts := atoms_spec (ws := .code y cc nL ret :: sj_GT) B.pre
  subst hsz
  have h1 := body (p, l, e, _, s, m, _, below, meth, c, D, cy, A, nL, _) rfl ⟨B.exec, B.bytes, ⟨hml, rfl⟩, findClass_of_methodNamed B.named, fun w hw => hts w (List.mem_cons_of_mem _ hw), ⟨B.notSynchronized, B.returns, (name_of_methodNamed B.named B.method).1⟩, hK, hAm, hA, rfl⟩ rfl
  rw [lg_entry_eq]
  refine h1 s.heap [] _ hP va_S.rf ?_
  rw [hL]
  exact lv_entry av (Nat.le_of_ble_eq_true hlen)
set_option maxRecDepth 100000 in
set_option maxHeartbeats 2500000 in
theorem ct_floorDiv (l : Launch) (S : sj_St) (a b : Int32) (hb : ¬ b = 0) : sj_Ctr l mJ9_floorDiv_7cf53 [.int a, .int b] S (sj_eq (some (.int (sj_fd a b))) S) := by
  refine sj_startF ([some (.int a), some (.int b), none]) (by decide +kernel) rfl rfl (fun X hX C hR => ?_)
  subst hX
  refine sj_iload_n C 1 rfl dJ9_floorDiv_7cf53_0 rfl rfl ?_
  refine sj_iload_n C 2 rfl dJ9_floorDiv_7cf53_1 rfl rfl ?_
  refine sj_idiv C 3 rfl dJ9_floorDiv_7cf53_2 hb ?_
  refine sj_istore_n_2 C 4 rfl dJ9_floorDiv_7cf53_3 rfl rfl ?_
  refine sj_iload_n C 5 rfl dJ9_floorDiv_7cf53_4 rfl rfl ?_
  refine sj_iload_n C 6 rfl dJ9_floorDiv_7cf53_5 rfl rfl ?_
  refine sj_ixor C 7 rfl dJ9_floorDiv_7cf53_6 ?_
  refine sj_if_ge C 21 10 rfl rfl dJ9_floorDiv_7cf53_7 (fun c_7 => ?_) (fun c_7 => ?_)
  · refine sj_iload_n C 22 rfl dJ9_floorDiv_7cf53_21 rfl rfl ?_
    refine sj_iret C hR rfl rfl dJ9_floorDiv_7cf53_22 ?_
    refine ⟨congrArg (fun z => some (Value.int z)) ?_, rfl⟩
    unfold sj_fd
    rw [if_neg (fun h8 => absurd h8.1 (sj_nlt.mpr c_7))]
  · refine sj_iload_n C 11 rfl dJ9_floorDiv_7cf53_10 rfl rfl ?_
    refine sj_iload_n C 12 rfl dJ9_floorDiv_7cf53_11 rfl rfl ?_
    refine sj_imul C 13 rfl dJ9_floorDiv_7cf53_12 ?_
    refine sj_iload_n C 14 rfl dJ9_floorDiv_7cf53_13 rfl rfl ?_
    refine sj_icmp_eq C 21 17 rfl rfl dJ9_floorDiv_7cf53_14 (fun c_14 => ?_) (fun c_14 => ?_)
    · refine sj_iload_n C 22 rfl dJ9_floorDiv_7cf53_21 rfl rfl ?_
      refine sj_iret C hR rfl rfl dJ9_floorDiv_7cf53_22 ?_
      refine ⟨congrArg (fun z => some (Value.int z)) ?_, rfl⟩
      unfold sj_fd
      rw [if_neg (fun h8 => h8.2 c_14)]
    · refine sj_iload_n C 18 rfl dJ9_floorDiv_7cf53_17 rfl rfl ?_
      refine sj_iconstv C (1) 19 rfl dJ9_floorDiv_7cf53_18 rfl ?_
      refine sj_isub C 20 rfl dJ9_floorDiv_7cf53_19 ?_
      refine sj_iret C hR rfl rfl dJ9_floorDiv_7cf53_20 ?_
      refine ⟨congrArg (fun z => some (Value.int z)) ?_, rfl⟩
      unfold sj_fd
      rw [if_pos ⟨sj_nle.mp c_7, c_14⟩]
