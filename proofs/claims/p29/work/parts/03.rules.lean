theorem sj_iconst {X : sj_X} {M : sj_M} (C : sj_C X M) {S : sj_St} {cl sl : Nat} {L : List (Option Value)} {pc : Nat} {rest : List Value} {n : Int} (q : Nat) (hq : pc + 1 = q) (hd : decode M.2.1 pc = .ok (.iconst n, 1)) (k : sj_G X S cl sl L q (.int (Int32.ofInt n) :: rest)) : sj_G X S cl sl L pc (rest) := by
  obtain ⟨p, l, e, R, s, m, args, below, meth, c, D, cy, A, nL, Q⟩ := X
  obtain ⟨ym, cc, nL0, ret, fr, lo, mc, ms⟩ := M
  obtain ⟨hx, hb, ⟨hml, hnL⟩, hown, hts, ⟨hlk, hret, hnm⟩, hK, hAm, hA, hRR⟩ := C
  subst hq
  intro H locs ls h1 h2 h3
  exact lv_iconst hx hb hd rfl (k H locs ls h1 h2 h3)
theorem sj_iconstv {X : sj_X} {M : sj_M} (C : sj_C X M) {S : sj_St} {cl sl : Nat} {L : List (Option Value)} {pc : Nat} {rest : List Value} {n : Int} (v : Int32) (q : Nat) (hq : pc + 1 = q) (hd : decode M.2.1 pc = .ok (.iconst n, 1)) (hv : Int32.ofInt n = v) (k : sj_G X S cl sl L q (.int v :: rest)) : sj_G X S cl sl L pc (rest) := by
  obtain ⟨p, l, e, R, s, m, args, below, meth, c, D, cy, A, nL, Q⟩ := X
  obtain ⟨ym, cc, nL0, ret, fr, lo, mc, ms⟩ := M
  obtain ⟨hx, hb, ⟨hml, hnL⟩, hown, hts, ⟨hlk, hret, hnm⟩, hK, hAm, hA, hRR⟩ := C
  subst hq
  intro H locs ls h1 h2 h3
  exact lv_iconst hx hb hd hv (k H locs ls h1 h2 h3)
theorem sj_bipush {X : sj_X} {M : sj_M} (C : sj_C X M) {S : sj_St} {cl sl : Nat} {L : List (Option Value)} {pc : Nat} {rest : List Value} {n : Int} (v : Int32) (q : Nat) (hq : pc + 2 = q) (hd : decode M.2.1 pc = .ok (.bipush n, 2)) (hv : (Int8.ofInt n).toInt32 = v) (k : sj_G X S cl sl L q (.int v :: rest)) : sj_G X S cl sl L pc (rest) := by
  obtain ⟨p, l, e, R, s, m, args, below, meth, c, D, cy, A, nL, Q⟩ := X
  obtain ⟨ym, cc, nL0, ret, fr, lo, mc, ms⟩ := M
  obtain ⟨hx, hb, ⟨hml, hnL⟩, hown, hts, ⟨hlk, hret, hnm⟩, hK, hAm, hA, hRR⟩ := C
  subst hq
  intro H locs ls h1 h2 h3
  exact lv_bipush hx hb hd hv (k H locs ls h1 h2 h3)
theorem sj_sipush {X : sj_X} {M : sj_M} (C : sj_C X M) {S : sj_St} {cl sl : Nat} {L : List (Option Value)} {pc : Nat} {rest : List Value} {n : Int} (v : Int32) (q : Nat) (hq : pc + 3 = q) (hd : decode M.2.1 pc = .ok (.sipush n, 3)) (hv : (Int16.ofInt n).toInt32 = v) (k : sj_G X S cl sl L q (.int v :: rest)) : sj_G X S cl sl L pc (rest) := by
  obtain ⟨p, l, e, R, s, m, args, below, meth, c, D, cy, A, nL, Q⟩ := X
  obtain ⟨ym, cc, nL0, ret, fr, lo, mc, ms⟩ := M
  obtain ⟨hx, hb, ⟨hml, hnL⟩, hown, hts, ⟨hlk, hret, hnm⟩, hK, hAm, hA, hRR⟩ := C
  subst hq
  intro H locs ls h1 h2 h3
  exact lv_sipush hx hb hd hv (k H locs ls h1 h2 h3)
theorem sj_lconst {X : sj_X} {M : sj_M} (C : sj_C X M) {S : sj_St} {cl sl : Nat} {L : List (Option Value)} {pc : Nat} {rest : List Value} {n : Fin 2} (v : Int64) (q : Nat) (hq : pc + 1 = q) (hd : decode M.2.1 pc = .ok (.lconst n, 1)) (hv : Int64.ofNat (n : Nat) = v) (k : sj_G X S cl sl L q (.long v :: rest)) : sj_G X S cl sl L pc (rest) := by
  obtain ⟨p, l, e, R, s, m, args, below, meth, c, D, cy, A, nL, Q⟩ := X
  obtain ⟨ym, cc, nL0, ret, fr, lo, mc, ms⟩ := M
  obtain ⟨hx, hb, ⟨hml, hnL⟩, hown, hts, ⟨hlk, hret, hnm⟩, hK, hAm, hA, hRR⟩ := C
  subst hq
  intro H locs ls h1 h2 h3
  exact lv_lconst hx hb hd hv (k H locs ls h1 h2 h3)
theorem sj_null {X : sj_X} {M : sj_M} (C : sj_C X M) {S : sj_St} {cl sl : Nat} {L : List (Option Value)} {pc : Nat} {rest : List Value}  (q : Nat) (hq : pc + 1 = q) (hd : decode M.2.1 pc = .ok (.aconst_null, 1)) (k : sj_G X S cl sl L q (.null :: rest)) : sj_G X S cl sl L pc (rest) := by
  obtain ⟨p, l, e, R, s, m, args, below, meth, c, D, cy, A, nL, Q⟩ := X
  obtain ⟨ym, cc, nL0, ret, fr, lo, mc, ms⟩ := M
  obtain ⟨hx, hb, ⟨hml, hnL⟩, hown, hts, ⟨hlk, hret, hnm⟩, hK, hAm, hA, hRR⟩ := C
  subst hq
  intro H locs ls h1 h2 h3
  exact lv_null hx hb hd (k H locs ls h1 h2 h3)
theorem sj_iadd {X : sj_X} {M : sj_M} (C : sj_C X M) {S : sj_St} {cl sl : Nat} {L : List (Option Value)} {pc : Nat} {rest : List Value} {x y : Int32} (q : Nat) (hq : pc + 1 = q) (hd : decode M.2.1 pc = .ok (.iadd, 1)) (k : sj_G X S cl sl L q (.int (x + y) :: rest)) : sj_G X S cl sl L pc (.int y :: .int x :: rest) := by
  obtain ⟨p, l, e, R, s, m, args, below, meth, c, D, cy, A, nL, Q⟩ := X
  obtain ⟨ym, cc, nL0, ret, fr, lo, mc, ms⟩ := M
  obtain ⟨hx, hb, ⟨hml, hnL⟩, hown, hts, ⟨hlk, hret, hnm⟩, hK, hAm, hA, hRR⟩ := C
  subst hq
  intro H locs ls h1 h2 h3
  exact lv_iadd hx hb hd (k H locs ls h1 h2 h3)
theorem sj_isub {X : sj_X} {M : sj_M} (C : sj_C X M) {S : sj_St} {cl sl : Nat} {L : List (Option Value)} {pc : Nat} {rest : List Value} {x y : Int32} (q : Nat) (hq : pc + 1 = q) (hd : decode M.2.1 pc = .ok (.isub, 1)) (k : sj_G X S cl sl L q (.int (x - y) :: rest)) : sj_G X S cl sl L pc (.int y :: .int x :: rest) := by
  obtain ⟨p, l, e, R, s, m, args, below, meth, c, D, cy, A, nL, Q⟩ := X
  obtain ⟨ym, cc, nL0, ret, fr, lo, mc, ms⟩ := M
  obtain ⟨hx, hb, ⟨hml, hnL⟩, hown, hts, ⟨hlk, hret, hnm⟩, hK, hAm, hA, hRR⟩ := C
  subst hq
  intro H locs ls h1 h2 h3
  exact lv_isub hx hb hd (k H locs ls h1 h2 h3)
theorem sj_imul {X : sj_X} {M : sj_M} (C : sj_C X M) {S : sj_St} {cl sl : Nat} {L : List (Option Value)} {pc : Nat} {rest : List Value} {x y : Int32} (q : Nat) (hq : pc + 1 = q) (hd : decode M.2.1 pc = .ok (.imul, 1)) (k : sj_G X S cl sl L q (.int (x * y) :: rest)) : sj_G X S cl sl L pc (.int y :: .int x :: rest) := by
  obtain ⟨p, l, e, R, s, m, args, below, meth, c, D, cy, A, nL, Q⟩ := X
  obtain ⟨ym, cc, nL0, ret, fr, lo, mc, ms⟩ := M
  obtain ⟨hx, hb, ⟨hml, hnL⟩, hown, hts, ⟨hlk, hret, hnm⟩, hK, hAm, hA, hRR⟩ := C
  subst hq
  intro H locs ls h1 h2 h3
  exact lv_imul hx hb hd (k H locs ls h1 h2 h3)
theorem sj_iand {X : sj_X} {M : sj_M} (C : sj_C X M) {S : sj_St} {cl sl : Nat} {L : List (Option Value)} {pc : Nat} {rest : List Value} {x y : Int32} (q : Nat) (hq : pc + 1 = q) (hd : decode M.2.1 pc = .ok (.iand, 1)) (k : sj_G X S cl sl L q (.int (x &&& y) :: rest)) : sj_G X S cl sl L pc (.int y :: .int x :: rest) := by
  obtain ⟨p, l, e, R, s, m, args, below, meth, c, D, cy, A, nL, Q⟩ := X
  obtain ⟨ym, cc, nL0, ret, fr, lo, mc, ms⟩ := M
  obtain ⟨hx, hb, ⟨hml, hnL⟩, hown, hts, ⟨hlk, hret, hnm⟩, hK, hAm, hA, hRR⟩ := C
  subst hq
  intro H locs ls h1 h2 h3
  exact lv_iand hx hb hd (k H locs ls h1 h2 h3)
theorem sj_ior {X : sj_X} {M : sj_M} (C : sj_C X M) {S : sj_St} {cl sl : Nat} {L : List (Option Value)} {pc : Nat} {rest : List Value} {x y : Int32} (q : Nat) (hq : pc + 1 = q) (hd : decode M.2.1 pc = .ok (.ior, 1)) (k : sj_G X S cl sl L q (.int (x ||| y) :: rest)) : sj_G X S cl sl L pc (.int y :: .int x :: rest) := by
  obtain ⟨p, l, e, R, s, m, args, below, meth, c, D, cy, A, nL, Q⟩ := X
  obtain ⟨ym, cc, nL0, ret, fr, lo, mc, ms⟩ := M
  obtain ⟨hx, hb, ⟨hml, hnL⟩, hown, hts, ⟨hlk, hret, hnm⟩, hK, hAm, hA, hRR⟩ := C
  subst hq
  intro H locs ls h1 h2 h3
  exact lv_ior hx hb hd (k H locs ls h1 h2 h3)
theorem sj_ixor {X : sj_X} {M : sj_M} (C : sj_C X M) {S : sj_St} {cl sl : Nat} {L : List (Option Value)} {pc : Nat} {rest : List Value} {x y : Int32} (q : Nat) (hq : pc + 1 = q) (hd : decode M.2.1 pc = .ok (.ixor, 1)) (k : sj_G X S cl sl L q (.int (x ^^^ y) :: rest)) : sj_G X S cl sl L pc (.int y :: .int x :: rest) := by
  obtain ⟨p, l, e, R, s, m, args, below, meth, c, D, cy, A, nL, Q⟩ := X
  obtain ⟨ym, cc, nL0, ret, fr, lo, mc, ms⟩ := M
  obtain ⟨hx, hb, ⟨hml, hnL⟩, hown, hts, ⟨hlk, hret, hnm⟩, hK, hAm, hA, hRR⟩ := C
  subst hq
  intro H locs ls h1 h2 h3
  exact lv_ixor hx hb hd (k H locs ls h1 h2 h3)
theorem sj_ishl {X : sj_X} {M : sj_M} (C : sj_C X M) {S : sj_St} {cl sl : Nat} {L : List (Option Value)} {pc : Nat} {rest : List Value} {x y : Int32} (q : Nat) (hq : pc + 1 = q) (hd : decode M.2.1 pc = .ok (.ishl, 1)) (k : sj_G X S cl sl L q (.int (x <<< (y &&& 31)) :: rest)) : sj_G X S cl sl L pc (.int y :: .int x :: rest) := by
  obtain ⟨p, l, e, R, s, m, args, below, meth, c, D, cy, A, nL, Q⟩ := X
  obtain ⟨ym, cc, nL0, ret, fr, lo, mc, ms⟩ := M
  obtain ⟨hx, hb, ⟨hml, hnL⟩, hown, hts, ⟨hlk, hret, hnm⟩, hK, hAm, hA, hRR⟩ := C
  subst hq
  intro H locs ls h1 h2 h3
  exact lv_ishl hx hb hd (k H locs ls h1 h2 h3)
theorem sj_ishr {X : sj_X} {M : sj_M} (C : sj_C X M) {S : sj_St} {cl sl : Nat} {L : List (Option Value)} {pc : Nat} {rest : List Value} {x y : Int32} (q : Nat) (hq : pc + 1 = q) (hd : decode M.2.1 pc = .ok (.ishr, 1)) (k : sj_G X S cl sl L q (.int (x >>> (y &&& 31)) :: rest)) : sj_G X S cl sl L pc (.int y :: .int x :: rest) := by
  obtain ⟨p, l, e, R, s, m, args, below, meth, c, D, cy, A, nL, Q⟩ := X
  obtain ⟨ym, cc, nL0, ret, fr, lo, mc, ms⟩ := M
  obtain ⟨hx, hb, ⟨hml, hnL⟩, hown, hts, ⟨hlk, hret, hnm⟩, hK, hAm, hA, hRR⟩ := C
  subst hq
  intro H locs ls h1 h2 h3
  exact lv_ishr hx hb hd (k H locs ls h1 h2 h3)
theorem sj_idiv {X : sj_X} {M : sj_M} (C : sj_C X M) {S : sj_St} {cl sl : Nat} {L : List (Option Value)} {pc : Nat} {rest : List Value} {x y : Int32} (q : Nat) (hq : pc + 1 = q) (hd : decode M.2.1 pc = .ok (.idiv, 1)) (hne : ¬ y = 0) (k : sj_G X S cl sl L q (.int (x / y) :: rest)) : sj_G X S cl sl L pc (.int y :: .int x :: rest) := by
  obtain ⟨p, l, e, R, s, m, args, below, meth, c, D, cy, A, nL, Q⟩ := X
  obtain ⟨ym, cc, nL0, ret, fr, lo, mc, ms⟩ := M
  obtain ⟨hx, hb, ⟨hml, hnL⟩, hown, hts, ⟨hlk, hret, hnm⟩, hK, hAm, hA, hRR⟩ := C
  subst hq
  intro H locs ls h1 h2 h3
  exact lv_idiv hx hb hd hne (k H locs ls h1 h2 h3)
theorem sj_irem {X : sj_X} {M : sj_M} (C : sj_C X M) {S : sj_St} {cl sl : Nat} {L : List (Option Value)} {pc : Nat} {rest : List Value} {x y : Int32} (q : Nat) (hq : pc + 1 = q) (hd : decode M.2.1 pc = .ok (.irem, 1)) (hne : ¬ y = 0) (k : sj_G X S cl sl L q (.int (x - x / y * y) :: rest)) : sj_G X S cl sl L pc (.int y :: .int x :: rest) := by
  obtain ⟨p, l, e, R, s, m, args, below, meth, c, D, cy, A, nL, Q⟩ := X
  obtain ⟨ym, cc, nL0, ret, fr, lo, mc, ms⟩ := M
  obtain ⟨hx, hb, ⟨hml, hnL⟩, hown, hts, ⟨hlk, hret, hnm⟩, hK, hAm, hA, hRR⟩ := C
  subst hq
  intro H locs ls h1 h2 h3
  exact lv_irem hx hb hd hne (k H locs ls h1 h2 h3)
theorem sj_ineg {X : sj_X} {M : sj_M} (C : sj_C X M) {S : sj_St} {cl sl : Nat} {L : List (Option Value)} {pc : Nat} {rest : List Value} {x : Int32} (q : Nat) (hq : pc + 1 = q) (hd : decode M.2.1 pc = .ok (.ineg, 1)) (k : sj_G X S cl sl L q (.int (-x) :: rest)) : sj_G X S cl sl L pc (.int x :: rest) := by
  obtain ⟨p, l, e, R, s, m, args, below, meth, c, D, cy, A, nL, Q⟩ := X
  obtain ⟨ym, cc, nL0, ret, fr, lo, mc, ms⟩ := M
  obtain ⟨hx, hb, ⟨hml, hnL⟩, hown, hts, ⟨hlk, hret, hnm⟩, hK, hAm, hA, hRR⟩ := C
  subst hq
  intro H locs ls h1 h2 h3
  exact lv_ineg hx hb hd (k H locs ls h1 h2 h3)
theorem sj_i2l {X : sj_X} {M : sj_M} (C : sj_C X M) {S : sj_St} {cl sl : Nat} {L : List (Option Value)} {pc : Nat} {rest : List Value} {x : Int32} (q : Nat) (hq : pc + 1 = q) (hd : decode M.2.1 pc = .ok (.i2l, 1)) (k : sj_G X S cl sl L q (.long x.toInt64 :: rest)) : sj_G X S cl sl L pc (.int x :: rest) := by
  obtain ⟨p, l, e, R, s, m, args, below, meth, c, D, cy, A, nL, Q⟩ := X
  obtain ⟨ym, cc, nL0, ret, fr, lo, mc, ms⟩ := M
  obtain ⟨hx, hb, ⟨hml, hnL⟩, hown, hts, ⟨hlk, hret, hnm⟩, hK, hAm, hA, hRR⟩ := C
  subst hq
  intro H locs ls h1 h2 h3
  exact lv_i2l hx hb hd rfl (k H locs ls h1 h2 h3)
theorem sj_ladd {X : sj_X} {M : sj_M} (C : sj_C X M) {S : sj_St} {cl sl : Nat} {L : List (Option Value)} {pc : Nat} {rest : List Value} {x y : Int64} (q : Nat) (hq : pc + 1 = q) (hd : decode M.2.1 pc = .ok (.ladd, 1)) (k : sj_G X S cl sl L q (.long (x + y) :: rest)) : sj_G X S cl sl L pc (.long y :: .long x :: rest) := by
  obtain ⟨p, l, e, R, s, m, args, below, meth, c, D, cy, A, nL, Q⟩ := X
  obtain ⟨ym, cc, nL0, ret, fr, lo, mc, ms⟩ := M
  obtain ⟨hx, hb, ⟨hml, hnL⟩, hown, hts, ⟨hlk, hret, hnm⟩, hK, hAm, hA, hRR⟩ := C
  subst hq
  intro H locs ls h1 h2 h3
  exact lv_ladd hx hb hd (k H locs ls h1 h2 h3)
theorem sj_lsub {X : sj_X} {M : sj_M} (C : sj_C X M) {S : sj_St} {cl sl : Nat} {L : List (Option Value)} {pc : Nat} {rest : List Value} {x y : Int64} (q : Nat) (hq : pc + 1 = q) (hd : decode M.2.1 pc = .ok (.lsub, 1)) (k : sj_G X S cl sl L q (.long (x - y) :: rest)) : sj_G X S cl sl L pc (.long y :: .long x :: rest) := by
  obtain ⟨p, l, e, R, s, m, args, below, meth, c, D, cy, A, nL, Q⟩ := X
  obtain ⟨ym, cc, nL0, ret, fr, lo, mc, ms⟩ := M
  obtain ⟨hx, hb, ⟨hml, hnL⟩, hown, hts, ⟨hlk, hret, hnm⟩, hK, hAm, hA, hRR⟩ := C
  subst hq
  intro H locs ls h1 h2 h3
  exact lv_lsub hx hb hd (k H locs ls h1 h2 h3)
theorem sj_lmul {X : sj_X} {M : sj_M} (C : sj_C X M) {S : sj_St} {cl sl : Nat} {L : List (Option Value)} {pc : Nat} {rest : List Value} {x y : Int64} (q : Nat) (hq : pc + 1 = q) (hd : decode M.2.1 pc = .ok (.lmul, 1)) (k : sj_G X S cl sl L q (.long (x * y) :: rest)) : sj_G X S cl sl L pc (.long y :: .long x :: rest) := by
  obtain ⟨p, l, e, R, s, m, args, below, meth, c, D, cy, A, nL, Q⟩ := X
  obtain ⟨ym, cc, nL0, ret, fr, lo, mc, ms⟩ := M
  obtain ⟨hx, hb, ⟨hml, hnL⟩, hown, hts, ⟨hlk, hret, hnm⟩, hK, hAm, hA, hRR⟩ := C
  subst hq
  intro H locs ls h1 h2 h3
  exact lv_lmul hx hb hd (k H locs ls h1 h2 h3)
theorem sj_lshl {X : sj_X} {M : sj_M} (C : sj_C X M) {S : sj_St} {cl sl : Nat} {L : List (Option Value)} {pc : Nat} {rest : List Value} {x : Int64} {y : Int32} (q : Nat) (hq : pc + 1 = q) (hd : decode M.2.1 pc = .ok (.lshl, 1)) (k : sj_G X S cl sl L q (.long (x <<< (y.toInt64 &&& 63)) :: rest)) : sj_G X S cl sl L pc (.int y :: .long x :: rest) := by
  obtain ⟨p, l, e, R, s, m, args, below, meth, c, D, cy, A, nL, Q⟩ := X
  obtain ⟨ym, cc, nL0, ret, fr, lo, mc, ms⟩ := M
  obtain ⟨hx, hb, ⟨hml, hnL⟩, hown, hts, ⟨hlk, hret, hnm⟩, hK, hAm, hA, hRR⟩ := C
  subst hq
  intro H locs ls h1 h2 h3
  exact lv_lshl hx hb hd rfl (k H locs ls h1 h2 h3)
theorem sj_lcmp {X : sj_X} {M : sj_M} (C : sj_C X M) {S : sj_St} {cl sl : Nat} {L : List (Option Value)} {pc : Nat} {rest : List Value} {x y : Int64} (q : Nat) (hq : pc + 1 = q) (hd : decode M.2.1 pc = .ok (.lcmp, 1)) (k : sj_G X S cl sl L q (.int (lg_cmp x y) :: rest)) : sj_G X S cl sl L pc (.long y :: .long x :: rest) := by
  obtain ⟨p, l, e, R, s, m, args, below, meth, c, D, cy, A, nL, Q⟩ := X
  obtain ⟨ym, cc, nL0, ret, fr, lo, mc, ms⟩ := M
  obtain ⟨hx, hb, ⟨hml, hnL⟩, hown, hts, ⟨hlk, hret, hnm⟩, hK, hAm, hA, hRR⟩ := C
  subst hq
  intro H locs ls h1 h2 h3
  exact W.lcmp hx hb hd (k H locs ls h1 h2 h3)
theorem sj_i2d {X : sj_X} {M : sj_M} (C : sj_C X M) {S : sj_St} {cl sl : Nat} {L : List (Option Value)} {pc : Nat} {rest : List Value} {x : Int32} (q : Nat) (hq : pc + 1 = q) (hd : decode M.2.1 pc = .ok (.i2d, 1)) (k : sj_G X S cl sl L q (.double (FP.i2d x) :: rest)) : sj_G X S cl sl L pc (.int x :: rest) := by
  obtain ⟨p, l, e, R, s, m, args, below, meth, c, D, cy, A, nL, Q⟩ := X
  obtain ⟨ym, cc, nL0, ret, fr, lo, mc, ms⟩ := M
  obtain ⟨hx, hb, ⟨hml, hnL⟩, hown, hts, ⟨hlk, hret, hnm⟩, hK, hAm, hA, hRR⟩ := C
  subst hq
  intro H locs ls h1 h2 h3
  exact lv_i2d hx hb hd (k H locs ls h1 h2 h3)
theorem sj_d2l {X : sj_X} {M : sj_M} (C : sj_C X M) {S : sj_St} {cl sl : Nat} {L : List (Option Value)} {pc : Nat} {rest : List Value} {x : UInt64} (q : Nat) (hq : pc + 1 = q) (hd : decode M.2.1 pc = .ok (.d2l, 1)) (k : sj_G X S cl sl L q (.long (FP.d2l x) :: rest)) : sj_G X S cl sl L pc (.double x :: rest) := by
  obtain ⟨p, l, e, R, s, m, args, below, meth, c, D, cy, A, nL, Q⟩ := X
  obtain ⟨ym, cc, nL0, ret, fr, lo, mc, ms⟩ := M
  obtain ⟨hx, hb, ⟨hml, hnL⟩, hown, hts, ⟨hlk, hret, hnm⟩, hK, hAm, hA, hRR⟩ := C
  subst hq
  intro H locs ls h1 h2 h3
  exact lv_d2l hx hb hd (k H locs ls h1 h2 h3)
theorem sj_dmul {X : sj_X} {M : sj_M} (C : sj_C X M) {S : sj_St} {cl sl : Nat} {L : List (Option Value)} {pc : Nat} {rest : List Value} {x y : UInt64} (q : Nat) (hq : pc + 1 = q) (hd : decode M.2.1 pc = .ok (.dmul, 1)) (hne : vf_n64 (FP.dmul x y)) (k : sj_G X S cl sl L q (.double (FP.dmul x y) :: rest)) : sj_G X S cl sl L pc (.double y :: .double x :: rest) := by
  obtain ⟨p, l, e, R, s, m, args, below, meth, c, D, cy, A, nL, Q⟩ := X
  obtain ⟨ym, cc, nL0, ret, fr, lo, mc, ms⟩ := M
  obtain ⟨hx, hb, ⟨hml, hnL⟩, hown, hts, ⟨hlk, hret, hnm⟩, hK, hAm, hA, hRR⟩ := C
  subst hq
  intro H locs ls h1 h2 h3
  exact lv_dmul hx hb hd hne (k H locs ls h1 h2 h3)
theorem sj_dsub {X : sj_X} {M : sj_M} (C : sj_C X M) {S : sj_St} {cl sl : Nat} {L : List (Option Value)} {pc : Nat} {rest : List Value} {x y : UInt64} (q : Nat) (hq : pc + 1 = q) (hd : decode M.2.1 pc = .ok (.dsub, 1)) (hne : vf_n64 (FP.dsub x y)) (k : sj_G X S cl sl L q (.double (FP.dsub x y) :: rest)) : sj_G X S cl sl L pc (.double y :: .double x :: rest) := by
  obtain ⟨p, l, e, R, s, m, args, below, meth, c, D, cy, A, nL, Q⟩ := X
  obtain ⟨ym, cc, nL0, ret, fr, lo, mc, ms⟩ := M
  obtain ⟨hx, hb, ⟨hml, hnL⟩, hown, hts, ⟨hlk, hret, hnm⟩, hK, hAm, hA, hRR⟩ := C
  subst hq
  intro H locs ls h1 h2 h3
  exact lv_dsub hx hb hd hne (k H locs ls h1 h2 h3)
theorem sj_ddiv {X : sj_X} {M : sj_M} (C : sj_C X M) {S : sj_St} {cl sl : Nat} {L : List (Option Value)} {pc : Nat} {rest : List Value} {x y : UInt64} (q : Nat) (hq : pc + 1 = q) (hd : decode M.2.1 pc = .ok (.ddiv, 1)) (hne : vf_n64 (FP.ddiv x y)) (k : sj_G X S cl sl L q (.double (FP.ddiv x y) :: rest)) : sj_G X S cl sl L pc (.double y :: .double x :: rest) := by
  obtain ⟨p, l, e, R, s, m, args, below, meth, c, D, cy, A, nL, Q⟩ := X
  obtain ⟨ym, cc, nL0, ret, fr, lo, mc, ms⟩ := M
  obtain ⟨hx, hb, ⟨hml, hnL⟩, hown, hts, ⟨hlk, hret, hnm⟩, hK, hAm, hA, hRR⟩ := C
  subst hq
  intro H locs ls h1 h2 h3
  exact lv_ddiv hx hb hd hne (k H locs ls h1 h2 h3)
theorem sj_dcmp {X : sj_X} {M : sj_M} (C : sj_C X M) {S : sj_St} {cl sl : Nat} {L : List (Option Value)} {pc : Nat} {rest : List Value} {x y : UInt64} {op : CmpOp} (q : Nat) (hq : pc + 1 = q) (hd : decode M.2.1 pc = .ok (.dcmp op, 1)) (k : sj_G X S cl sl L q (.int (Op.cmpValue (FP.dcmp x y) op) :: rest)) : sj_G X S cl sl L pc (.double y :: .double x :: rest) := by
  obtain ⟨p, l, e, R, s, m, args, below, meth, c, D, cy, A, nL, Q⟩ := X
  obtain ⟨ym, cc, nL0, ret, fr, lo, mc, ms⟩ := M
  obtain ⟨hx, hb, ⟨hml, hnL⟩, hown, hts, ⟨hlk, hret, hnm⟩, hK, hAm, hA, hRR⟩ := C
  subst hq
  intro H locs ls h1 h2 h3
  exact lv_dcmp hx hb hd (k H locs ls h1 h2 h3)
theorem sj_dconst0 {X : sj_X} {M : sj_M} (C : sj_C X M) {S : sj_St} {cl sl : Nat} {L : List (Option Value)} {pc : Nat} {rest : List Value}  (q : Nat) (hq : pc + 1 = q) (hd : decode M.2.1 pc = .ok (.dconst 0, 1)) (k : sj_G X S cl sl L q (.double FP.dconst0 :: rest)) : sj_G X S cl sl L pc (rest) := by
  obtain ⟨p, l, e, R, s, m, args, below, meth, c, D, cy, A, nL, Q⟩ := X
  obtain ⟨ym, cc, nL0, ret, fr, lo, mc, ms⟩ := M
  obtain ⟨hx, hb, ⟨hml, hnL⟩, hown, hts, ⟨hlk, hret, hnm⟩, hK, hAm, hA, hRR⟩ := C
  subst hq
  intro H locs ls h1 h2 h3
  exact lv_dconst0 hx hb hd (k H locs ls h1 h2 h3)
theorem sj_dconst1 {X : sj_X} {M : sj_M} (C : sj_C X M) {S : sj_St} {cl sl : Nat} {L : List (Option Value)} {pc : Nat} {rest : List Value}  (q : Nat) (hq : pc + 1 = q) (hd : decode M.2.1 pc = .ok (.dconst 1, 1)) (k : sj_G X S cl sl L q (.double FP.dconst1 :: rest)) : sj_G X S cl sl L pc (rest) := by
  obtain ⟨p, l, e, R, s, m, args, below, meth, c, D, cy, A, nL, Q⟩ := X
  obtain ⟨ym, cc, nL0, ret, fr, lo, mc, ms⟩ := M
  obtain ⟨hx, hb, ⟨hml, hnL⟩, hown, hts, ⟨hlk, hret, hnm⟩, hK, hAm, hA, hRR⟩ := C
  subst hq
  intro H locs ls h1 h2 h3
  exact lv_dconst1 hx hb hd (k H locs ls h1 h2 h3)
theorem sj_dup {X : sj_X} {M : sj_M} (C : sj_C X M) {S : sj_St} {cl sl : Nat} {L : List (Option Value)} {pc : Nat} {rest : List Value} {va : Value} (q : Nat) (hq : pc + 1 = q) (hd : decode M.2.1 pc = .ok (.dup, 1)) (hva : va.category = 1) (k : sj_G X S cl sl L q (va :: va :: rest)) : sj_G X S cl sl L pc (va :: rest) := by
  obtain ⟨p, l, e, R, s, m, args, below, meth, c, D, cy, A, nL, Q⟩ := X
  obtain ⟨ym, cc, nL0, ret, fr, lo, mc, ms⟩ := M
  obtain ⟨hx, hb, ⟨hml, hnL⟩, hown, hts, ⟨hlk, hret, hnm⟩, hK, hAm, hA, hRR⟩ := C
  subst hq
  intro H locs ls h1 h2 h3
  exact lv_dup hx hb hd hva (k H locs ls h1 h2 h3)
theorem sj_pop {X : sj_X} {M : sj_M} (C : sj_C X M) {S : sj_St} {cl sl : Nat} {L : List (Option Value)} {pc : Nat} {rest : List Value} {va : Value} (q : Nat) (hq : pc + 1 = q) (hd : decode M.2.1 pc = .ok (.pop, 1)) (hva : va.category = 1) (k : sj_G X S cl sl L q (rest)) : sj_G X S cl sl L pc (va :: rest) := by
  obtain ⟨p, l, e, R, s, m, args, below, meth, c, D, cy, A, nL, Q⟩ := X
  obtain ⟨ym, cc, nL0, ret, fr, lo, mc, ms⟩ := M
  obtain ⟨hx, hb, ⟨hml, hnL⟩, hown, hts, ⟨hlk, hret, hnm⟩, hK, hAm, hA, hRR⟩ := C
  subst hq
  intro H locs ls h1 h2 h3
  exact lv_pop hx hb hd hva (k H locs ls h1 h2 h3)
theorem sj_dup2 {X : sj_X} {M : sj_M} (C : sj_C X M) {S : sj_St} {cl sl : Nat} {L : List (Option Value)} {pc : Nat} {rest : List Value} {va vb : Value} (q : Nat) (hq : pc + 1 = q) (hd : decode M.2.1 pc = .ok (.dup2, 1)) (hva : va.category = 1) (hvb : vb.category = 1) (k : sj_G X S cl sl L q (va :: vb :: va :: vb :: rest)) : sj_G X S cl sl L pc (va :: vb :: rest) := by
  obtain ⟨p, l, e, R, s, m, args, below, meth, c, D, cy, A, nL, Q⟩ := X
  obtain ⟨ym, cc, nL0, ret, fr, lo, mc, ms⟩ := M
  obtain ⟨hx, hb, ⟨hml, hnL⟩, hown, hts, ⟨hlk, hret, hnm⟩, hK, hAm, hA, hRR⟩ := C
  subst hq
  intro H locs ls h1 h2 h3
  exact lv_dup2_11 hx hb hd hva hvb (k H locs ls h1 h2 h3)
theorem sj_iload_n {X : sj_X} {M : sj_M} (C : sj_C X M) {S : sj_St} {cl sl : Nat} {L : List (Option Value)} {pc : Nat} {rest : List Value} {k : Fin 4} {i : Nat} {x : Int32} (q : Nat) (hq : pc + 1 = q) (hd : decode M.2.1 pc = .ok (.iload_n k, 1)) (hi : (k : Nat) = i) (hl : L[i]? = some (some (.int x))) (kk : sj_G X S cl sl L q (.int x :: rest)) : sj_G X S cl sl L pc rest := by
  obtain ⟨p, l, e, R, s, m, args, below, meth, c, D, cy, A, nL, Q⟩ := X
  obtain ⟨ym, cc, nL0, ret, fr, lo, mc, ms⟩ := M
  obtain ⟨hx, hb, ⟨hml, hnL⟩, hown, hts, ⟨hlk, hret, hnm⟩, hK, hAm, hA, hRR⟩ := C
  subst hq
  intro H locs ls h1 h2 h3
  have h4 : ls[i]? = some (.val (.int x)) := by
    have h5 := h3.2.2 _ (sj_lv_mem L 0 i _ hl)
    simpa using h5
  exact lv_iload_n hx hb hd hi h4 (kk H locs ls h1 h2 h3)
theorem sj_iload {X : sj_X} {M : sj_M} (C : sj_C X M) {S : sj_St} {cl sl : Nat} {L : List (Option Value)} {pc : Nat} {rest : List Value} {i : Nat} {x : Int32} (q : Nat) (hq : pc + 2 = q) (hd : decode M.2.1 pc = .ok (.iload i, 2)) (hl : L[i]? = some (some (.int x))) (kk : sj_G X S cl sl L q (.int x :: rest)) : sj_G X S cl sl L pc rest := by
  obtain ⟨p, l, e, R, s, m, args, below, meth, c, D, cy, A, nL, Q⟩ := X
  obtain ⟨ym, cc, nL0, ret, fr, lo, mc, ms⟩ := M
  obtain ⟨hx, hb, ⟨hml, hnL⟩, hown, hts, ⟨hlk, hret, hnm⟩, hK, hAm, hA, hRR⟩ := C
  subst hq
  intro H locs ls h1 h2 h3
  have h4 : ls[i]? = some (.val (.int x)) := by
    have h5 := h3.2.2 _ (sj_lv_mem L 0 i _ hl)
    simpa using h5
  exact lv_iload hx hb hd h4 (kk H locs ls h1 h2 h3)
theorem sj_aload_n {X : sj_X} {M : sj_M} (C : sj_C X M) {S : sj_St} {cl sl : Nat} {L : List (Option Value)} {pc : Nat} {rest : List Value} {k : Fin 4} {i : Nat} {x : Nat} (q : Nat) (hq : pc + 1 = q) (hd : decode M.2.1 pc = .ok (.aload_n k, 1)) (hi : (k : Nat) = i) (hl : L[i]? = some (some (.ref x))) (kk : sj_G X S cl sl L q (.ref x :: rest)) : sj_G X S cl sl L pc rest := by
  obtain ⟨p, l, e, R, s, m, args, below, meth, c, D, cy, A, nL, Q⟩ := X
  obtain ⟨ym, cc, nL0, ret, fr, lo, mc, ms⟩ := M
  obtain ⟨hx, hb, ⟨hml, hnL⟩, hown, hts, ⟨hlk, hret, hnm⟩, hK, hAm, hA, hRR⟩ := C
  subst hq
  intro H locs ls h1 h2 h3
  have h4 : ls[i]? = some (.val (.ref x)) := by
    have h5 := h3.2.2 _ (sj_lv_mem L 0 i _ hl)
    simpa using h5
  exact lv_aload_n hx hb hd hi h4 (kk H locs ls h1 h2 h3)
theorem sj_aload {X : sj_X} {M : sj_M} (C : sj_C X M) {S : sj_St} {cl sl : Nat} {L : List (Option Value)} {pc : Nat} {rest : List Value} {i : Nat} {x : Nat} (q : Nat) (hq : pc + 2 = q) (hd : decode M.2.1 pc = .ok (.aload i, 2)) (hl : L[i]? = some (some (.ref x))) (kk : sj_G X S cl sl L q (.ref x :: rest)) : sj_G X S cl sl L pc rest := by
  obtain ⟨p, l, e, R, s, m, args, below, meth, c, D, cy, A, nL, Q⟩ := X
  obtain ⟨ym, cc, nL0, ret, fr, lo, mc, ms⟩ := M
  obtain ⟨hx, hb, ⟨hml, hnL⟩, hown, hts, ⟨hlk, hret, hnm⟩, hK, hAm, hA, hRR⟩ := C
  subst hq
  intro H locs ls h1 h2 h3
  have h4 : ls[i]? = some (.val (.ref x)) := by
    have h5 := h3.2.2 _ (sj_lv_mem L 0 i _ hl)
    simpa using h5
  exact lv_aload hx hb hd h4 (kk H locs ls h1 h2 h3)
theorem sj_lload_n {X : sj_X} {M : sj_M} (C : sj_C X M) {S : sj_St} {cl sl : Nat} {L : List (Option Value)} {pc : Nat} {rest : List Value} {k : Fin 4} {i : Nat} {x : Int64} (q : Nat) (hq : pc + 1 = q) (hd : decode M.2.1 pc = .ok (.lload_n k, 1)) (hi : (k : Nat) = i) (hl : L[i]? = some (some (.long x))) (kk : sj_G X S cl sl L q (.long x :: rest)) : sj_G X S cl sl L pc rest := by
  obtain ⟨p, l, e, R, s, m, args, below, meth, c, D, cy, A, nL, Q⟩ := X
  obtain ⟨ym, cc, nL0, ret, fr, lo, mc, ms⟩ := M
  obtain ⟨hx, hb, ⟨hml, hnL⟩, hown, hts, ⟨hlk, hret, hnm⟩, hK, hAm, hA, hRR⟩ := C
  subst hq
  intro H locs ls h1 h2 h3
  have h4 : ls[i]? = some (.val (.long x)) := by
    have h5 := h3.2.2 _ (sj_lv_mem L 0 i _ hl)
    simpa using h5
  exact lv_lload_n hx hb hd hi h4 (kk H locs ls h1 h2 h3)
theorem sj_lload {X : sj_X} {M : sj_M} (C : sj_C X M) {S : sj_St} {cl sl : Nat} {L : List (Option Value)} {pc : Nat} {rest : List Value} {i : Nat} {x : Int64} (q : Nat) (hq : pc + 2 = q) (hd : decode M.2.1 pc = .ok (.lload i, 2)) (hl : L[i]? = some (some (.long x))) (kk : sj_G X S cl sl L q (.long x :: rest)) : sj_G X S cl sl L pc rest := by
  obtain ⟨p, l, e, R, s, m, args, below, meth, c, D, cy, A, nL, Q⟩ := X
  obtain ⟨ym, cc, nL0, ret, fr, lo, mc, ms⟩ := M
  obtain ⟨hx, hb, ⟨hml, hnL⟩, hown, hts, ⟨hlk, hret, hnm⟩, hK, hAm, hA, hRR⟩ := C
  subst hq
  intro H locs ls h1 h2 h3
  have h4 : ls[i]? = some (.val (.long x)) := by
    have h5 := h3.2.2 _ (sj_lv_mem L 0 i _ hl)
    simpa using h5
  exact lv_lload hx hb hd h4 (kk H locs ls h1 h2 h3)
theorem sj_dload_n {X : sj_X} {M : sj_M} (C : sj_C X M) {S : sj_St} {cl sl : Nat} {L : List (Option Value)} {pc : Nat} {rest : List Value} {k : Fin 4} {i : Nat} {x : UInt64} (q : Nat) (hq : pc + 1 = q) (hd : decode M.2.1 pc = .ok (.dload_n k, 1)) (hi : (k : Nat) = i) (hl : L[i]? = some (some (.double x))) (kk : sj_G X S cl sl L q (.double x :: rest)) : sj_G X S cl sl L pc rest := by
  obtain ⟨p, l, e, R, s, m, args, below, meth, c, D, cy, A, nL, Q⟩ := X
  obtain ⟨ym, cc, nL0, ret, fr, lo, mc, ms⟩ := M
  obtain ⟨hx, hb, ⟨hml, hnL⟩, hown, hts, ⟨hlk, hret, hnm⟩, hK, hAm, hA, hRR⟩ := C
  subst hq
  intro H locs ls h1 h2 h3
  have h4 : ls[i]? = some (.val (.double x)) := by
    have h5 := h3.2.2 _ (sj_lv_mem L 0 i _ hl)
    simpa using h5
  exact lv_dload_n hx hb hd hi h4 (kk H locs ls h1 h2 h3)
theorem sj_dload {X : sj_X} {M : sj_M} (C : sj_C X M) {S : sj_St} {cl sl : Nat} {L : List (Option Value)} {pc : Nat} {rest : List Value} {i : Nat} {x : UInt64} (q : Nat) (hq : pc + 2 = q) (hd : decode M.2.1 pc = .ok (.dload i, 2)) (hl : L[i]? = some (some (.double x))) (kk : sj_G X S cl sl L q (.double x :: rest)) : sj_G X S cl sl L pc rest := by
  obtain ⟨p, l, e, R, s, m, args, below, meth, c, D, cy, A, nL, Q⟩ := X
  obtain ⟨ym, cc, nL0, ret, fr, lo, mc, ms⟩ := M
  obtain ⟨hx, hb, ⟨hml, hnL⟩, hown, hts, ⟨hlk, hret, hnm⟩, hK, hAm, hA, hRR⟩ := C
  subst hq
  intro H locs ls h1 h2 h3
  have h4 : ls[i]? = some (.val (.double x)) := by
    have h5 := h3.2.2 _ (sj_lv_mem L 0 i _ hl)
    simpa using h5
  exact lv_dload hx hb hd h4 (kk H locs ls h1 h2 h3)
theorem sj_ok_use {L : List (Option Value)} {i j : Nat} {w : Value} (h : sj_okb L i = true) (hj : L[j]? = some (some w)) (hji : j + 1 = i) : (w.category == 2) = false := by
  subst hji
  simp only [sj_okb, hj] at h
  simpa using h
theorem sj_keep {L : List (Option Value)} {i : Nat} {v : Value} (hok : sj_okb L i = true) : ∀ z ∈ sj_lv 0 (L.set i (some v)), z ∈ (i, v) :: (sj_lv 0 L).filter (fun q => !(q.1 == i) && !(q.1 + 1 == i && q.2.category == 2)) := by
  intro z hz
  obtain ⟨k, h1, h2⟩ := sj_lv_inv _ _ _ hz
  have h0 : z.1 = k := by omega
  by_cases hk : k = i
  · subst hk
    have hlt : k < L.length := by
      rcases Nat.lt_or_ge k L.length with h | h
      · exact h
      · rw [List.set_eq_of_length_le h, List.getElem?_eq_none h] at h2
        cases h2
    rw [List.getElem?_set_self hlt] at h2
    have h3 : v = z.2 := by simpa using h2
    refine List.mem_cons.mpr (Or.inl ?_)
    rw [h3, ← h0]
  · rw [List.getElem?_set_ne (fun h => hk h.symm)] at h2
    refine List.mem_cons_of_mem _ (List.mem_filter.mpr ⟨?_, ?_⟩)
    · have h5 := sj_lv_mem L 0 k _ h2
      rw [Nat.zero_add, ← h0] at h5
      exact h5
    · have h6 : (z.1 == i) = false := by simpa [h0] using hk
      by_cases h7 : k + 1 = i
      · have h8 := sj_ok_use hok h2 h7
        simp [h6, h8]
      · have h9 : (z.1 + 1 == i) = false := by simpa [h0] using h7
        simp [h6, h9]
theorem sj_keep2 {L : List (Option Value)} {i : Nat} {v : Value} (hok : sj_okb L i = true) : ∀ z ∈ sj_lv 0 ((L.set i (some v)).set (i + 1) none), z ∈ (i, v) :: (sj_lv 0 L).filter (fun q => !(q.1 == i) && (!(q.1 == i + 1) && !(q.1 + 1 == i && q.2.category == 2))) := by
  intro z hz
  obtain ⟨k, h1, h2⟩ := sj_lv_inv _ _ _ hz
  have h0 : z.1 = k := by omega
  by_cases hk1 : k = i + 1
  · subst hk1
    rcases Nat.lt_or_ge (i + 1) (L.set i (some v)).length with h | h
    · rw [List.getElem?_set_self h] at h2
      cases h2
    · rw [List.set_eq_of_length_le h, List.getElem?_eq_none h] at h2
      cases h2
  rw [List.getElem?_set_ne (fun h => hk1 h.symm)] at h2
  by_cases hk : k = i
  · subst hk
    have hlt : k < L.length := by
      rcases Nat.lt_or_ge k L.length with h | h
      · exact h
      · rw [List.set_eq_of_length_le h, List.getElem?_eq_none h] at h2
        cases h2
    rw [List.getElem?_set_self hlt] at h2
    have h3 : v = z.2 := by simpa using h2
    refine List.mem_cons.mpr (Or.inl ?_)
    rw [h3, ← h0]
  · rw [List.getElem?_set_ne (fun h => hk h.symm)] at h2
    refine List.mem_cons_of_mem _ (List.mem_filter.mpr ⟨?_, ?_⟩)
    · have h5 := sj_lv_mem L 0 k _ h2
      rw [Nat.zero_add, ← h0] at h5
      exact h5
    · have h6 : (z.1 == i) = false := by simpa [h0] using hk
      have h6' : (z.1 == i + 1) = false := by simpa [h0] using hk1
      by_cases h7 : k + 1 = i
      · have h8 := sj_ok_use hok h2 h7
        simp [h6, h6', h8]
      · have h9 : (z.1 + 1 == i) = false := by simpa [h0] using h7
        simp [h6, h6', h9]
theorem sj_istore_n0 {X : sj_X} {M : sj_M} (C : sj_C X M) {S : sj_St} {cl sl : Nat} {L : List (Option Value)} {pc : Nat} {rest : List Value} {k : Fin 4} {i : Nat} {x : Int32} (q : Nat) (hq : pc + 1 = q) (hd : decode M.2.1 pc = .ok (.istore_n k, 1)) (hi : (k : Nat) = i) (hn : Nat.ble (i + 1) M.2.2.1 = true) (hok : sj_okb L i = true) (kk : sj_G X S cl sl (L.set i (some (.int x))) q rest) : sj_G X S cl sl L pc (.int x :: rest) := by
  obtain ⟨p, l, e, R, s, m, args, below, meth, c, D, cy, A, nL, Q⟩ := X
  obtain ⟨ym, cc, nL0, ret, fr, lo, mc, ms⟩ := M
  obtain ⟨hx, hb, ⟨hml, hnL⟩, hown, hts, ⟨hlk, hret, hnm⟩, hK, hAm, hA, hRR⟩ := C
  subst hq
  subst hnL
  intro H locs ls h1 h2 h3
  refine lv_istore_n hx hb hd hi h3 (Nat.le_of_ble_eq_true hn) rfl (fun ls' h4 => kk H locs ls' h1 h2 ⟨h4.1, h4.2.1, fun z hz => h4.2.2 z ?_⟩)
  exact sj_keep hok z hz
theorem sj_istore0 {X : sj_X} {M : sj_M} (C : sj_C X M) {S : sj_St} {cl sl : Nat} {L : List (Option Value)} {pc : Nat} {rest : List Value} {i : Nat} {x : Int32} (q : Nat) (hq : pc + 2 = q) (hd : decode M.2.1 pc = .ok (.istore i, 2)) (hn : Nat.ble (i + 1) M.2.2.1 = true) (hok : sj_okb L i = true) (kk : sj_G X S cl sl (L.set i (some (.int x))) q rest) : sj_G X S cl sl L pc (.int x :: rest) := by
  obtain ⟨p, l, e, R, s, m, args, below, meth, c, D, cy, A, nL, Q⟩ := X
  obtain ⟨ym, cc, nL0, ret, fr, lo, mc, ms⟩ := M
  obtain ⟨hx, hb, ⟨hml, hnL⟩, hown, hts, ⟨hlk, hret, hnm⟩, hK, hAm, hA, hRR⟩ := C
  subst hq
  subst hnL
  intro H locs ls h1 h2 h3
  refine lv_istore hx hb hd h3 (Nat.le_of_ble_eq_true hn) rfl (fun ls' h4 => kk H locs ls' h1 h2 ⟨h4.1, h4.2.1, fun z hz => h4.2.2 z ?_⟩)
  exact sj_keep hok z hz
theorem sj_astore_n0 {X : sj_X} {M : sj_M} (C : sj_C X M) {S : sj_St} {cl sl : Nat} {L : List (Option Value)} {pc : Nat} {rest : List Value} {k : Fin 4} {i : Nat} {x : Nat} (q : Nat) (hq : pc + 1 = q) (hd : decode M.2.1 pc = .ok (.astore_n k, 1)) (hi : (k : Nat) = i) (hn : Nat.ble (i + 1) M.2.2.1 = true) (hok : sj_okb L i = true) (kk : sj_G X S cl sl (L.set i (some (.ref x))) q rest) : sj_G X S cl sl L pc (.ref x :: rest) := by
  obtain ⟨p, l, e, R, s, m, args, below, meth, c, D, cy, A, nL, Q⟩ := X
  obtain ⟨ym, cc, nL0, ret, fr, lo, mc, ms⟩ := M
  obtain ⟨hx, hb, ⟨hml, hnL⟩, hown, hts, ⟨hlk, hret, hnm⟩, hK, hAm, hA, hRR⟩ := C
  subst hq
  subst hnL
  intro H locs ls h1 h2 h3
  refine lv_astore_n hx hb hd hi h3 (Nat.le_of_ble_eq_true hn) rfl (fun ls' h4 => kk H locs ls' h1 h2 ⟨h4.1, h4.2.1, fun z hz => h4.2.2 z ?_⟩)
  exact sj_keep hok z hz
theorem sj_astore0 {X : sj_X} {M : sj_M} (C : sj_C X M) {S : sj_St} {cl sl : Nat} {L : List (Option Value)} {pc : Nat} {rest : List Value} {i : Nat} {x : Nat} (q : Nat) (hq : pc + 2 = q) (hd : decode M.2.1 pc = .ok (.astore i, 2)) (hn : Nat.ble (i + 1) M.2.2.1 = true) (hok : sj_okb L i = true) (kk : sj_G X S cl sl (L.set i (some (.ref x))) q rest) : sj_G X S cl sl L pc (.ref x :: rest) := by
  obtain ⟨p, l, e, R, s, m, args, below, meth, c, D, cy, A, nL, Q⟩ := X
  obtain ⟨ym, cc, nL0, ret, fr, lo, mc, ms⟩ := M
  obtain ⟨hx, hb, ⟨hml, hnL⟩, hown, hts, ⟨hlk, hret, hnm⟩, hK, hAm, hA, hRR⟩ := C
  subst hq
  subst hnL
  intro H locs ls h1 h2 h3
  refine lv_astore hx hb hd h3 (Nat.le_of_ble_eq_true hn) rfl (fun ls' h4 => kk H locs ls' h1 h2 ⟨h4.1, h4.2.1, fun z hz => h4.2.2 z ?_⟩)
  exact sj_keep hok z hz
theorem sj_lstore_n0 {X : sj_X} {M : sj_M} (C : sj_C X M) {S : sj_St} {cl sl : Nat} {L : List (Option Value)} {pc : Nat} {rest : List Value} {k : Fin 4} {i : Nat} {x : Int64} (q : Nat) (hq : pc + 1 = q) (hd : decode M.2.1 pc = .ok (.lstore_n k, 1)) (hi : (k : Nat) = i) (hn : Nat.ble (i + 2) M.2.2.1 = true) (hok : sj_okb L i = true) (kk : sj_G X S cl sl ((L.set i (some (.long x))).set (i + 1) none) q rest) : sj_G X S cl sl L pc (.long x :: rest) := by
  obtain ⟨p, l, e, R, s, m, args, below, meth, c, D, cy, A, nL, Q⟩ := X
  obtain ⟨ym, cc, nL0, ret, fr, lo, mc, ms⟩ := M
  obtain ⟨hx, hb, ⟨hml, hnL⟩, hown, hts, ⟨hlk, hret, hnm⟩, hK, hAm, hA, hRR⟩ := C
  subst hq
  subst hnL
  intro H locs ls h1 h2 h3
  refine lv_lstore_n hx hb hd hi h3 (Nat.le_of_ble_eq_true hn) rfl (fun ls' h4 => kk H locs ls' h1 h2 ⟨h4.1, h4.2.1, fun z hz => h4.2.2 z ?_⟩)
  exact sj_keep2 hok z hz
theorem sj_lstore0 {X : sj_X} {M : sj_M} (C : sj_C X M) {S : sj_St} {cl sl : Nat} {L : List (Option Value)} {pc : Nat} {rest : List Value} {i : Nat} {x : Int64} (q : Nat) (hq : pc + 2 = q) (hd : decode M.2.1 pc = .ok (.lstore i, 2)) (hn : Nat.ble (i + 2) M.2.2.1 = true) (hok : sj_okb L i = true) (kk : sj_G X S cl sl ((L.set i (some (.long x))).set (i + 1) none) q rest) : sj_G X S cl sl L pc (.long x :: rest) := by
  obtain ⟨p, l, e, R, s, m, args, below, meth, c, D, cy, A, nL, Q⟩ := X
  obtain ⟨ym, cc, nL0, ret, fr, lo, mc, ms⟩ := M
  obtain ⟨hx, hb, ⟨hml, hnL⟩, hown, hts, ⟨hlk, hret, hnm⟩, hK, hAm, hA, hRR⟩ := C
  subst hq
  subst hnL
  intro H locs ls h1 h2 h3
  refine lv_lstore hx hb hd h3 (Nat.le_of_ble_eq_true hn) rfl (fun ls' h4 => kk H locs ls' h1 h2 ⟨h4.1, h4.2.1, fun z hz => h4.2.2 z ?_⟩)
  exact sj_keep2 hok z hz
theorem sj_dstore_n0 {X : sj_X} {M : sj_M} (C : sj_C X M) {S : sj_St} {cl sl : Nat} {L : List (Option Value)} {pc : Nat} {rest : List Value} {k : Fin 4} {i : Nat} {x : UInt64} (q : Nat) (hq : pc + 1 = q) (hd : decode M.2.1 pc = .ok (.dstore_n k, 1)) (hi : (k : Nat) = i) (hn : Nat.ble (i + 2) M.2.2.1 = true) (hok : sj_okb L i = true) (kk : sj_G X S cl sl ((L.set i (some (.double x))).set (i + 1) none) q rest) : sj_G X S cl sl L pc (.double x :: rest) := by
  obtain ⟨p, l, e, R, s, m, args, below, meth, c, D, cy, A, nL, Q⟩ := X
  obtain ⟨ym, cc, nL0, ret, fr, lo, mc, ms⟩ := M
  obtain ⟨hx, hb, ⟨hml, hnL⟩, hown, hts, ⟨hlk, hret, hnm⟩, hK, hAm, hA, hRR⟩ := C
  subst hq
  subst hnL
  intro H locs ls h1 h2 h3
  refine lv_dstore_n hx hb hd hi h3 (Nat.le_of_ble_eq_true hn) rfl (fun ls' h4 => kk H locs ls' h1 h2 ⟨h4.1, h4.2.1, fun z hz => h4.2.2 z ?_⟩)
  exact sj_keep2 hok z hz
theorem sj_dstore0 {X : sj_X} {M : sj_M} (C : sj_C X M) {S : sj_St} {cl sl : Nat} {L : List (Option Value)} {pc : Nat} {rest : List Value} {i : Nat} {x : UInt64} (q : Nat) (hq : pc + 2 = q) (hd : decode M.2.1 pc = .ok (.dstore i, 2)) (hn : Nat.ble (i + 2) M.2.2.1 = true) (hok : sj_okb L i = true) (kk : sj_G X S cl sl ((L.set i (some (.double x))).set (i + 1) none) q rest) : sj_G X S cl sl L pc (.double x :: rest) := by
  obtain ⟨p, l, e, R, s, m, args, below, meth, c, D, cy, A, nL, Q⟩ := X
  obtain ⟨ym, cc, nL0, ret, fr, lo, mc, ms⟩ := M
  obtain ⟨hx, hb, ⟨hml, hnL⟩, hown, hts, ⟨hlk, hret, hnm⟩, hK, hAm, hA, hRR⟩ := C
  subst hq
  subst hnL
  intro H locs ls h1 h2 h3
  refine lv_dstore hx hb hd h3 (Nat.le_of_ble_eq_true hn) rfl (fun ls' h4 => kk H locs ls' h1 h2 ⟨h4.1, h4.2.1, fun z hz => h4.2.2 z ?_⟩)
  exact sj_keep2 hok z hz
theorem sj_iinc0 {X : sj_X} {M : sj_M} (C : sj_C X M) {S : sj_St} {cl sl : Nat} {L : List (Option Value)} {pc : Nat} {rest : List Value} {i : Nat} {n : Int} {x : Int32} (q : Nat) (hq : pc + 3 = q) (hd : decode M.2.1 pc = .ok (.iinc i n, 3)) (hn : Nat.ble (i + 1) M.2.2.1 = true) (hok : sj_okb L i = true) (hl : L[i]? = some (some (.int x))) (kk : sj_G X S cl sl (L.set i (some (.int (x + Int32.ofInt n)))) q rest) : sj_G X S cl sl L pc rest := by
  obtain ⟨p, l, e, R, s, m, args, below, meth, c, D, cy, A, nL, Q⟩ := X
  obtain ⟨ym, cc, nL0, ret, fr, lo, mc, ms⟩ := M
  obtain ⟨hx, hb, ⟨hml, hnL⟩, hown, hts, ⟨hlk, hret, hnm⟩, hK, hAm, hA, hRR⟩ := C
  subst hq
  subst hnL
  intro H locs ls h1 h2 h3
  have h5 := sj_lv_mem L 0 i _ hl
  rw [Nat.zero_add] at h5
  obtain ⟨k0, hk0⟩ := List.getElem?_of_mem h5
  refine lv_iinc hx hb hd h3 hk0 rfl (Nat.le_of_ble_eq_true hn) rfl (fun ls' h4 => kk H locs ls' h1 h2 ⟨h4.1, h4.2.1, fun z hz => h4.2.2 z ?_⟩)
  exact sj_keep hok z hz
theorem sj_forget {X : sj_X} {S : sj_St} {cl sl : Nat} {L : List (Option Value)} {pc : Nat} {rest : List Value} (L' : List (Option Value)) (h : ∀ (k : Nat) (v : Value), L'[k]? = some (some v) → L[k]? = some (some v)) (kk : sj_G X S cl sl L' pc rest) : sj_G X S cl sl L pc rest := by
  obtain ⟨p, l, e, R, s, m, args, below, meth, c, D, cy, A, nL, Q⟩ := X
  intro H locs ls h1 h2 h3
  refine kk H locs ls h1 h2 ⟨h3.1, h3.2.1, fun z hz => h3.2.2 z ?_⟩
  obtain ⟨k, e1, e2⟩ := sj_lv_inv _ _ _ hz
  have h5 := sj_lv_mem L 0 k _ (h k _ e2)
  have h6 : z.1 = 0 + k := e1
  rw [← h6] at h5
  exact h5
def sj_sub : List (Option Value) → List (Option Value) → Prop
  | [], _ => True
  | none :: t, [] => sj_sub t []
  | some _ :: _, [] => False
  | none :: t, _ :: u => sj_sub t u
  | some v :: t, w :: u => w = some v ∧ sj_sub t u
theorem sj_sub_of : ∀ (L' L : List (Option Value)), sj_sub L' L → ∀ (k : Nat) (v : Value), L'[k]? = some (some v) → L[k]? = some (some v)
  | [], _, _, k, v, hk => by simp at hk
  | none :: t, [], h, 0, v, hk => by simp at hk
  | none :: t, [], h, k + 1, v, hk => by
    have := sj_sub_of t [] h k v (by simpa using hk)
    simp at this
  | none :: t, _ :: u, h, 0, v, hk => by simp at hk
  | none :: t, _ :: u, h, k + 1, v, hk => by
    have := sj_sub_of t u h k v (by simpa using hk)
    simpa using this
  | some a :: t, [], h, k, v, hk => h.elim
  | some a :: t, w :: u, h, 0, v, hk => by
    have h1 : a = v := by simpa using hk
    subst h1
    simpa using h.1
  | some a :: t, w :: u, h, k + 1, v, hk => by
    have := sj_sub_of t u h.2 k v (by simpa using hk)
    simpa using this
theorem sj_for {X : sj_X} {S : sj_St} {cl sl : Nat} {L : List (Option Value)} {pc : Nat} {rest : List Value} (L' : List (Option Value)) (h : sj_sub L' L) (kk : sj_G X S cl sl L' pc rest) : sj_G X S cl sl L pc rest := sj_forget L' (sj_sub_of L' L h) kk
theorem sj_istore_n_0 {X : sj_X} {M : sj_M} (C : sj_C X M) {S : sj_St} {cl sl : Nat} {t : List (Option Value)} {b : Option Value} {pc : Nat} {rest : List Value} {x : Int32} (q : Nat) (hq : pc + 1 = q) (hd : decode M.2.1 pc = .ok (.istore_n 0, 1)) (hn : Nat.ble 1 M.2.2.1 = true) (hok : sj_okb (b :: t) 0 = true) (kk : sj_G X S cl sl (some (.int x) :: t) q rest) : sj_G X S cl sl (b :: t) pc (.int x :: rest) := sj_istore_n0 (i := 0) C q hq hd rfl hn hok kk
theorem sj_istore_0 {X : sj_X} {M : sj_M} (C : sj_C X M) {S : sj_St} {cl sl : Nat} {t : List (Option Value)} {b : Option Value} {pc : Nat} {rest : List Value} {x : Int32} (q : Nat) (hq : pc + 2 = q) (hd : decode M.2.1 pc = .ok (.istore 0, 2)) (hn : Nat.ble 1 M.2.2.1 = true) (hok : sj_okb (b :: t) 0 = true) (kk : sj_G X S cl sl (some (.int x) :: t) q rest) : sj_G X S cl sl (b :: t) pc (.int x :: rest) := sj_istore0 (i := 0) C q hq hd hn hok kk
theorem sj_istore_n_1 {X : sj_X} {M : sj_M} (C : sj_C X M) {S : sj_St} {cl sl : Nat} {t : List (Option Value)} {a0 b : Option Value} {pc : Nat} {rest : List Value} {x : Int32} (q : Nat) (hq : pc + 1 = q) (hd : decode M.2.1 pc = .ok (.istore_n 1, 1)) (hn : Nat.ble 2 M.2.2.1 = true) (hok : sj_okb (a0 :: b :: t) 1 = true) (kk : sj_G X S cl sl (a0 :: some (.int x) :: t) q rest) : sj_G X S cl sl (a0 :: b :: t) pc (.int x :: rest) := sj_istore_n0 (i := 1) C q hq hd rfl hn hok kk
theorem sj_istore_1 {X : sj_X} {M : sj_M} (C : sj_C X M) {S : sj_St} {cl sl : Nat} {t : List (Option Value)} {a0 b : Option Value} {pc : Nat} {rest : List Value} {x : Int32} (q : Nat) (hq : pc + 2 = q) (hd : decode M.2.1 pc = .ok (.istore 1, 2)) (hn : Nat.ble 2 M.2.2.1 = true) (hok : sj_okb (a0 :: b :: t) 1 = true) (kk : sj_G X S cl sl (a0 :: some (.int x) :: t) q rest) : sj_G X S cl sl (a0 :: b :: t) pc (.int x :: rest) := sj_istore0 (i := 1) C q hq hd hn hok kk
theorem sj_istore_n_2 {X : sj_X} {M : sj_M} (C : sj_C X M) {S : sj_St} {cl sl : Nat} {t : List (Option Value)} {a0 a1 b : Option Value} {pc : Nat} {rest : List Value} {x : Int32} (q : Nat) (hq : pc + 1 = q) (hd : decode M.2.1 pc = .ok (.istore_n 2, 1)) (hn : Nat.ble 3 M.2.2.1 = true) (hok : sj_okb (a0 :: a1 :: b :: t) 2 = true) (kk : sj_G X S cl sl (a0 :: a1 :: some (.int x) :: t) q rest) : sj_G X S cl sl (a0 :: a1 :: b :: t) pc (.int x :: rest) := sj_istore_n0 (i := 2) C q hq hd rfl hn hok kk
theorem sj_istore_2 {X : sj_X} {M : sj_M} (C : sj_C X M) {S : sj_St} {cl sl : Nat} {t : List (Option Value)} {a0 a1 b : Option Value} {pc : Nat} {rest : List Value} {x : Int32} (q : Nat) (hq : pc + 2 = q) (hd : decode M.2.1 pc = .ok (.istore 2, 2)) (hn : Nat.ble 3 M.2.2.1 = true) (hok : sj_okb (a0 :: a1 :: b :: t) 2 = true) (kk : sj_G X S cl sl (a0 :: a1 :: some (.int x) :: t) q rest) : sj_G X S cl sl (a0 :: a1 :: b :: t) pc (.int x :: rest) := sj_istore0 (i := 2) C q hq hd hn hok kk
theorem sj_istore_n_3 {X : sj_X} {M : sj_M} (C : sj_C X M) {S : sj_St} {cl sl : Nat} {t : List (Option Value)} {a0 a1 a2 b : Option Value} {pc : Nat} {rest : List Value} {x : Int32} (q : Nat) (hq : pc + 1 = q) (hd : decode M.2.1 pc = .ok (.istore_n 3, 1)) (hn : Nat.ble 4 M.2.2.1 = true) (hok : sj_okb (a0 :: a1 :: a2 :: b :: t) 3 = true) (kk : sj_G X S cl sl (a0 :: a1 :: a2 :: some (.int x) :: t) q rest) : sj_G X S cl sl (a0 :: a1 :: a2 :: b :: t) pc (.int x :: rest) := sj_istore_n0 (i := 3) C q hq hd rfl hn hok kk
theorem sj_istore_3 {X : sj_X} {M : sj_M} (C : sj_C X M) {S : sj_St} {cl sl : Nat} {t : List (Option Value)} {a0 a1 a2 b : Option Value} {pc : Nat} {rest : List Value} {x : Int32} (q : Nat) (hq : pc + 2 = q) (hd : decode M.2.1 pc = .ok (.istore 3, 2)) (hn : Nat.ble 4 M.2.2.1 = true) (hok : sj_okb (a0 :: a1 :: a2 :: b :: t) 3 = true) (kk : sj_G X S cl sl (a0 :: a1 :: a2 :: some (.int x) :: t) q rest) : sj_G X S cl sl (a0 :: a1 :: a2 :: b :: t) pc (.int x :: rest) := sj_istore0 (i := 3) C q hq hd hn hok kk
theorem sj_istore_4 {X : sj_X} {M : sj_M} (C : sj_C X M) {S : sj_St} {cl sl : Nat} {t : List (Option Value)} {a0 a1 a2 a3 b : Option Value} {pc : Nat} {rest : List Value} {x : Int32} (q : Nat) (hq : pc + 2 = q) (hd : decode M.2.1 pc = .ok (.istore 4, 2)) (hn : Nat.ble 5 M.2.2.1 = true) (hok : sj_okb (a0 :: a1 :: a2 :: a3 :: b :: t) 4 = true) (kk : sj_G X S cl sl (a0 :: a1 :: a2 :: a3 :: some (.int x) :: t) q rest) : sj_G X S cl sl (a0 :: a1 :: a2 :: a3 :: b :: t) pc (.int x :: rest) := sj_istore0 (i := 4) C q hq hd hn hok kk
theorem sj_istore_5 {X : sj_X} {M : sj_M} (C : sj_C X M) {S : sj_St} {cl sl : Nat} {t : List (Option Value)} {a0 a1 a2 a3 a4 b : Option Value} {pc : Nat} {rest : List Value} {x : Int32} (q : Nat) (hq : pc + 2 = q) (hd : decode M.2.1 pc = .ok (.istore 5, 2)) (hn : Nat.ble 6 M.2.2.1 = true) (hok : sj_okb (a0 :: a1 :: a2 :: a3 :: a4 :: b :: t) 5 = true) (kk : sj_G X S cl sl (a0 :: a1 :: a2 :: a3 :: a4 :: some (.int x) :: t) q rest) : sj_G X S cl sl (a0 :: a1 :: a2 :: a3 :: a4 :: b :: t) pc (.int x :: rest) := sj_istore0 (i := 5) C q hq hd hn hok kk
theorem sj_istore_6 {X : sj_X} {M : sj_M} (C : sj_C X M) {S : sj_St} {cl sl : Nat} {t : List (Option Value)} {a0 a1 a2 a3 a4 a5 b : Option Value} {pc : Nat} {rest : List Value} {x : Int32} (q : Nat) (hq : pc + 2 = q) (hd : decode M.2.1 pc = .ok (.istore 6, 2)) (hn : Nat.ble 7 M.2.2.1 = true) (hok : sj_okb (a0 :: a1 :: a2 :: a3 :: a4 :: a5 :: b :: t) 6 = true) (kk : sj_G X S cl sl (a0 :: a1 :: a2 :: a3 :: a4 :: a5 :: some (.int x) :: t) q rest) : sj_G X S cl sl (a0 :: a1 :: a2 :: a3 :: a4 :: a5 :: b :: t) pc (.int x :: rest) := sj_istore0 (i := 6) C q hq hd hn hok kk
theorem sj_istore_7 {X : sj_X} {M : sj_M} (C : sj_C X M) {S : sj_St} {cl sl : Nat} {t : List (Option Value)} {a0 a1 a2 a3 a4 a5 a6 b : Option Value} {pc : Nat} {rest : List Value} {x : Int32} (q : Nat) (hq : pc + 2 = q) (hd : decode M.2.1 pc = .ok (.istore 7, 2)) (hn : Nat.ble 8 M.2.2.1 = true) (hok : sj_okb (a0 :: a1 :: a2 :: a3 :: a4 :: a5 :: a6 :: b :: t) 7 = true) (kk : sj_G X S cl sl (a0 :: a1 :: a2 :: a3 :: a4 :: a5 :: a6 :: some (.int x) :: t) q rest) : sj_G X S cl sl (a0 :: a1 :: a2 :: a3 :: a4 :: a5 :: a6 :: b :: t) pc (.int x :: rest) := sj_istore0 (i := 7) C q hq hd hn hok kk
theorem sj_istore_8 {X : sj_X} {M : sj_M} (C : sj_C X M) {S : sj_St} {cl sl : Nat} {t : List (Option Value)} {a0 a1 a2 a3 a4 a5 a6 a7 b : Option Value} {pc : Nat} {rest : List Value} {x : Int32} (q : Nat) (hq : pc + 2 = q) (hd : decode M.2.1 pc = .ok (.istore 8, 2)) (hn : Nat.ble 9 M.2.2.1 = true) (hok : sj_okb (a0 :: a1 :: a2 :: a3 :: a4 :: a5 :: a6 :: a7 :: b :: t) 8 = true) (kk : sj_G X S cl sl (a0 :: a1 :: a2 :: a3 :: a4 :: a5 :: a6 :: a7 :: some (.int x) :: t) q rest) : sj_G X S cl sl (a0 :: a1 :: a2 :: a3 :: a4 :: a5 :: a6 :: a7 :: b :: t) pc (.int x :: rest) := sj_istore0 (i := 8) C q hq hd hn hok kk
theorem sj_istore_9 {X : sj_X} {M : sj_M} (C : sj_C X M) {S : sj_St} {cl sl : Nat} {t : List (Option Value)} {a0 a1 a2 a3 a4 a5 a6 a7 a8 b : Option Value} {pc : Nat} {rest : List Value} {x : Int32} (q : Nat) (hq : pc + 2 = q) (hd : decode M.2.1 pc = .ok (.istore 9, 2)) (hn : Nat.ble 10 M.2.2.1 = true) (hok : sj_okb (a0 :: a1 :: a2 :: a3 :: a4 :: a5 :: a6 :: a7 :: a8 :: b :: t) 9 = true) (kk : sj_G X S cl sl (a0 :: a1 :: a2 :: a3 :: a4 :: a5 :: a6 :: a7 :: a8 :: some (.int x) :: t) q rest) : sj_G X S cl sl (a0 :: a1 :: a2 :: a3 :: a4 :: a5 :: a6 :: a7 :: a8 :: b :: t) pc (.int x :: rest) := sj_istore0 (i := 9) C q hq hd hn hok kk
theorem sj_istore_10 {X : sj_X} {M : sj_M} (C : sj_C X M) {S : sj_St} {cl sl : Nat} {t : List (Option Value)} {a0 a1 a2 a3 a4 a5 a6 a7 a8 a9 b : Option Value} {pc : Nat} {rest : List Value} {x : Int32} (q : Nat) (hq : pc + 2 = q) (hd : decode M.2.1 pc = .ok (.istore 10, 2)) (hn : Nat.ble 11 M.2.2.1 = true) (hok : sj_okb (a0 :: a1 :: a2 :: a3 :: a4 :: a5 :: a6 :: a7 :: a8 :: a9 :: b :: t) 10 = true) (kk : sj_G X S cl sl (a0 :: a1 :: a2 :: a3 :: a4 :: a5 :: a6 :: a7 :: a8 :: a9 :: some (.int x) :: t) q rest) : sj_G X S cl sl (a0 :: a1 :: a2 :: a3 :: a4 :: a5 :: a6 :: a7 :: a8 :: a9 :: b :: t) pc (.int x :: rest) := sj_istore0 (i := 10) C q hq hd hn hok kk
theorem sj_istore_11 {X : sj_X} {M : sj_M} (C : sj_C X M) {S : sj_St} {cl sl : Nat} {t : List (Option Value)} {a0 a1 a2 a3 a4 a5 a6 a7 a8 a9 a10 b : Option Value} {pc : Nat} {rest : List Value} {x : Int32} (q : Nat) (hq : pc + 2 = q) (hd : decode M.2.1 pc = .ok (.istore 11, 2)) (hn : Nat.ble 12 M.2.2.1 = true) (hok : sj_okb (a0 :: a1 :: a2 :: a3 :: a4 :: a5 :: a6 :: a7 :: a8 :: a9 :: a10 :: b :: t) 11 = true) (kk : sj_G X S cl sl (a0 :: a1 :: a2 :: a3 :: a4 :: a5 :: a6 :: a7 :: a8 :: a9 :: a10 :: some (.int x) :: t) q rest) : sj_G X S cl sl (a0 :: a1 :: a2 :: a3 :: a4 :: a5 :: a6 :: a7 :: a8 :: a9 :: a10 :: b :: t) pc (.int x :: rest) := sj_istore0 (i := 11) C q hq hd hn hok kk
theorem sj_astore_n_0 {X : sj_X} {M : sj_M} (C : sj_C X M) {S : sj_St} {cl sl : Nat} {t : List (Option Value)} {b : Option Value} {pc : Nat} {rest : List Value} {x : Nat} (q : Nat) (hq : pc + 1 = q) (hd : decode M.2.1 pc = .ok (.astore_n 0, 1)) (hn : Nat.ble 1 M.2.2.1 = true) (hok : sj_okb (b :: t) 0 = true) (kk : sj_G X S cl sl (some (.ref x) :: t) q rest) : sj_G X S cl sl (b :: t) pc (.ref x :: rest) := sj_astore_n0 (i := 0) C q hq hd rfl hn hok kk
theorem sj_astore_0 {X : sj_X} {M : sj_M} (C : sj_C X M) {S : sj_St} {cl sl : Nat} {t : List (Option Value)} {b : Option Value} {pc : Nat} {rest : List Value} {x : Nat} (q : Nat) (hq : pc + 2 = q) (hd : decode M.2.1 pc = .ok (.astore 0, 2)) (hn : Nat.ble 1 M.2.2.1 = true) (hok : sj_okb (b :: t) 0 = true) (kk : sj_G X S cl sl (some (.ref x) :: t) q rest) : sj_G X S cl sl (b :: t) pc (.ref x :: rest) := sj_astore0 (i := 0) C q hq hd hn hok kk
theorem sj_astore_n_1 {X : sj_X} {M : sj_M} (C : sj_C X M) {S : sj_St} {cl sl : Nat} {t : List (Option Value)} {a0 b : Option Value} {pc : Nat} {rest : List Value} {x : Nat} (q : Nat) (hq : pc + 1 = q) (hd : decode M.2.1 pc = .ok (.astore_n 1, 1)) (hn : Nat.ble 2 M.2.2.1 = true) (hok : sj_okb (a0 :: b :: t) 1 = true) (kk : sj_G X S cl sl (a0 :: some (.ref x) :: t) q rest) : sj_G X S cl sl (a0 :: b :: t) pc (.ref x :: rest) := sj_astore_n0 (i := 1) C q hq hd rfl hn hok kk
theorem sj_astore_1 {X : sj_X} {M : sj_M} (C : sj_C X M) {S : sj_St} {cl sl : Nat} {t : List (Option Value)} {a0 b : Option Value} {pc : Nat} {rest : List Value} {x : Nat} (q : Nat) (hq : pc + 2 = q) (hd : decode M.2.1 pc = .ok (.astore 1, 2)) (hn : Nat.ble 2 M.2.2.1 = true) (hok : sj_okb (a0 :: b :: t) 1 = true) (kk : sj_G X S cl sl (a0 :: some (.ref x) :: t) q rest) : sj_G X S cl sl (a0 :: b :: t) pc (.ref x :: rest) := sj_astore0 (i := 1) C q hq hd hn hok kk
theorem sj_astore_n_2 {X : sj_X} {M : sj_M} (C : sj_C X M) {S : sj_St} {cl sl : Nat} {t : List (Option Value)} {a0 a1 b : Option Value} {pc : Nat} {rest : List Value} {x : Nat} (q : Nat) (hq : pc + 1 = q) (hd : decode M.2.1 pc = .ok (.astore_n 2, 1)) (hn : Nat.ble 3 M.2.2.1 = true) (hok : sj_okb (a0 :: a1 :: b :: t) 2 = true) (kk : sj_G X S cl sl (a0 :: a1 :: some (.ref x) :: t) q rest) : sj_G X S cl sl (a0 :: a1 :: b :: t) pc (.ref x :: rest) := sj_astore_n0 (i := 2) C q hq hd rfl hn hok kk
theorem sj_astore_2 {X : sj_X} {M : sj_M} (C : sj_C X M) {S : sj_St} {cl sl : Nat} {t : List (Option Value)} {a0 a1 b : Option Value} {pc : Nat} {rest : List Value} {x : Nat} (q : Nat) (hq : pc + 2 = q) (hd : decode M.2.1 pc = .ok (.astore 2, 2)) (hn : Nat.ble 3 M.2.2.1 = true) (hok : sj_okb (a0 :: a1 :: b :: t) 2 = true) (kk : sj_G X S cl sl (a0 :: a1 :: some (.ref x) :: t) q rest) : sj_G X S cl sl (a0 :: a1 :: b :: t) pc (.ref x :: rest) := sj_astore0 (i := 2) C q hq hd hn hok kk
theorem sj_astore_n_3 {X : sj_X} {M : sj_M} (C : sj_C X M) {S : sj_St} {cl sl : Nat} {t : List (Option Value)} {a0 a1 a2 b : Option Value} {pc : Nat} {rest : List Value} {x : Nat} (q : Nat) (hq : pc + 1 = q) (hd : decode M.2.1 pc = .ok (.astore_n 3, 1)) (hn : Nat.ble 4 M.2.2.1 = true) (hok : sj_okb (a0 :: a1 :: a2 :: b :: t) 3 = true) (kk : sj_G X S cl sl (a0 :: a1 :: a2 :: some (.ref x) :: t) q rest) : sj_G X S cl sl (a0 :: a1 :: a2 :: b :: t) pc (.ref x :: rest) := sj_astore_n0 (i := 3) C q hq hd rfl hn hok kk
theorem sj_astore_3 {X : sj_X} {M : sj_M} (C : sj_C X M) {S : sj_St} {cl sl : Nat} {t : List (Option Value)} {a0 a1 a2 b : Option Value} {pc : Nat} {rest : List Value} {x : Nat} (q : Nat) (hq : pc + 2 = q) (hd : decode M.2.1 pc = .ok (.astore 3, 2)) (hn : Nat.ble 4 M.2.2.1 = true) (hok : sj_okb (a0 :: a1 :: a2 :: b :: t) 3 = true) (kk : sj_G X S cl sl (a0 :: a1 :: a2 :: some (.ref x) :: t) q rest) : sj_G X S cl sl (a0 :: a1 :: a2 :: b :: t) pc (.ref x :: rest) := sj_astore0 (i := 3) C q hq hd hn hok kk
theorem sj_astore_4 {X : sj_X} {M : sj_M} (C : sj_C X M) {S : sj_St} {cl sl : Nat} {t : List (Option Value)} {a0 a1 a2 a3 b : Option Value} {pc : Nat} {rest : List Value} {x : Nat} (q : Nat) (hq : pc + 2 = q) (hd : decode M.2.1 pc = .ok (.astore 4, 2)) (hn : Nat.ble 5 M.2.2.1 = true) (hok : sj_okb (a0 :: a1 :: a2 :: a3 :: b :: t) 4 = true) (kk : sj_G X S cl sl (a0 :: a1 :: a2 :: a3 :: some (.ref x) :: t) q rest) : sj_G X S cl sl (a0 :: a1 :: a2 :: a3 :: b :: t) pc (.ref x :: rest) := sj_astore0 (i := 4) C q hq hd hn hok kk
theorem sj_astore_5 {X : sj_X} {M : sj_M} (C : sj_C X M) {S : sj_St} {cl sl : Nat} {t : List (Option Value)} {a0 a1 a2 a3 a4 b : Option Value} {pc : Nat} {rest : List Value} {x : Nat} (q : Nat) (hq : pc + 2 = q) (hd : decode M.2.1 pc = .ok (.astore 5, 2)) (hn : Nat.ble 6 M.2.2.1 = true) (hok : sj_okb (a0 :: a1 :: a2 :: a3 :: a4 :: b :: t) 5 = true) (kk : sj_G X S cl sl (a0 :: a1 :: a2 :: a3 :: a4 :: some (.ref x) :: t) q rest) : sj_G X S cl sl (a0 :: a1 :: a2 :: a3 :: a4 :: b :: t) pc (.ref x :: rest) := sj_astore0 (i := 5) C q hq hd hn hok kk
theorem sj_astore_6 {X : sj_X} {M : sj_M} (C : sj_C X M) {S : sj_St} {cl sl : Nat} {t : List (Option Value)} {a0 a1 a2 a3 a4 a5 b : Option Value} {pc : Nat} {rest : List Value} {x : Nat} (q : Nat) (hq : pc + 2 = q) (hd : decode M.2.1 pc = .ok (.astore 6, 2)) (hn : Nat.ble 7 M.2.2.1 = true) (hok : sj_okb (a0 :: a1 :: a2 :: a3 :: a4 :: a5 :: b :: t) 6 = true) (kk : sj_G X S cl sl (a0 :: a1 :: a2 :: a3 :: a4 :: a5 :: some (.ref x) :: t) q rest) : sj_G X S cl sl (a0 :: a1 :: a2 :: a3 :: a4 :: a5 :: b :: t) pc (.ref x :: rest) := sj_astore0 (i := 6) C q hq hd hn hok kk
theorem sj_astore_7 {X : sj_X} {M : sj_M} (C : sj_C X M) {S : sj_St} {cl sl : Nat} {t : List (Option Value)} {a0 a1 a2 a3 a4 a5 a6 b : Option Value} {pc : Nat} {rest : List Value} {x : Nat} (q : Nat) (hq : pc + 2 = q) (hd : decode M.2.1 pc = .ok (.astore 7, 2)) (hn : Nat.ble 8 M.2.2.1 = true) (hok : sj_okb (a0 :: a1 :: a2 :: a3 :: a4 :: a5 :: a6 :: b :: t) 7 = true) (kk : sj_G X S cl sl (a0 :: a1 :: a2 :: a3 :: a4 :: a5 :: a6 :: some (.ref x) :: t) q rest) : sj_G X S cl sl (a0 :: a1 :: a2 :: a3 :: a4 :: a5 :: a6 :: b :: t) pc (.ref x :: rest) := sj_astore0 (i := 7) C q hq hd hn hok kk
theorem sj_astore_8 {X : sj_X} {M : sj_M} (C : sj_C X M) {S : sj_St} {cl sl : Nat} {t : List (Option Value)} {a0 a1 a2 a3 a4 a5 a6 a7 b : Option Value} {pc : Nat} {rest : List Value} {x : Nat} (q : Nat) (hq : pc + 2 = q) (hd : decode M.2.1 pc = .ok (.astore 8, 2)) (hn : Nat.ble 9 M.2.2.1 = true) (hok : sj_okb (a0 :: a1 :: a2 :: a3 :: a4 :: a5 :: a6 :: a7 :: b :: t) 8 = true) (kk : sj_G X S cl sl (a0 :: a1 :: a2 :: a3 :: a4 :: a5 :: a6 :: a7 :: some (.ref x) :: t) q rest) : sj_G X S cl sl (a0 :: a1 :: a2 :: a3 :: a4 :: a5 :: a6 :: a7 :: b :: t) pc (.ref x :: rest) := sj_astore0 (i := 8) C q hq hd hn hok kk
theorem sj_astore_9 {X : sj_X} {M : sj_M} (C : sj_C X M) {S : sj_St} {cl sl : Nat} {t : List (Option Value)} {a0 a1 a2 a3 a4 a5 a6 a7 a8 b : Option Value} {pc : Nat} {rest : List Value} {x : Nat} (q : Nat) (hq : pc + 2 = q) (hd : decode M.2.1 pc = .ok (.astore 9, 2)) (hn : Nat.ble 10 M.2.2.1 = true) (hok : sj_okb (a0 :: a1 :: a2 :: a3 :: a4 :: a5 :: a6 :: a7 :: a8 :: b :: t) 9 = true) (kk : sj_G X S cl sl (a0 :: a1 :: a2 :: a3 :: a4 :: a5 :: a6 :: a7 :: a8 :: some (.ref x) :: t) q rest) : sj_G X S cl sl (a0 :: a1 :: a2 :: a3 :: a4 :: a5 :: a6 :: a7 :: a8 :: b :: t) pc (.ref x :: rest) := sj_astore0 (i := 9) C q hq hd hn hok kk
theorem sj_astore_10 {X : sj_X} {M : sj_M} (C : sj_C X M) {S : sj_St} {cl sl : Nat} {t : List (Option Value)} {a0 a1 a2 a3 a4 a5 a6 a7 a8 a9 b : Option Value} {pc : Nat} {rest : List Value} {x : Nat} (q : Nat) (hq : pc + 2 = q) (hd : decode M.2.1 pc = .ok (.astore 10, 2)) (hn : Nat.ble 11 M.2.2.1 = true) (hok : sj_okb (a0 :: a1 :: a2 :: a3 :: a4 :: a5 :: a6 :: a7 :: a8 :: a9 :: b :: t) 10 = true) (kk : sj_G X S cl sl (a0 :: a1 :: a2 :: a3 :: a4 :: a5 :: a6 :: a7 :: a8 :: a9 :: some (.ref x) :: t) q rest) : sj_G X S cl sl (a0 :: a1 :: a2 :: a3 :: a4 :: a5 :: a6 :: a7 :: a8 :: a9 :: b :: t) pc (.ref x :: rest) := sj_astore0 (i := 10) C q hq hd hn hok kk
theorem sj_astore_11 {X : sj_X} {M : sj_M} (C : sj_C X M) {S : sj_St} {cl sl : Nat} {t : List (Option Value)} {a0 a1 a2 a3 a4 a5 a6 a7 a8 a9 a10 b : Option Value} {pc : Nat} {rest : List Value} {x : Nat} (q : Nat) (hq : pc + 2 = q) (hd : decode M.2.1 pc = .ok (.astore 11, 2)) (hn : Nat.ble 12 M.2.2.1 = true) (hok : sj_okb (a0 :: a1 :: a2 :: a3 :: a4 :: a5 :: a6 :: a7 :: a8 :: a9 :: a10 :: b :: t) 11 = true) (kk : sj_G X S cl sl (a0 :: a1 :: a2 :: a3 :: a4 :: a5 :: a6 :: a7 :: a8 :: a9 :: a10 :: some (.ref x) :: t) q rest) : sj_G X S cl sl (a0 :: a1 :: a2 :: a3 :: a4 :: a5 :: a6 :: a7 :: a8 :: a9 :: a10 :: b :: t) pc (.ref x :: rest) := sj_astore0 (i := 11) C q hq hd hn hok kk
theorem sj_lstore_n_0 {X : sj_X} {M : sj_M} (C : sj_C X M) {S : sj_St} {cl sl : Nat} {t : List (Option Value)} {b b2 : Option Value} {pc : Nat} {rest : List Value} {x : Int64} (q : Nat) (hq : pc + 1 = q) (hd : decode M.2.1 pc = .ok (.lstore_n 0, 1)) (hn : Nat.ble 2 M.2.2.1 = true) (hok : sj_okb (b :: b2 :: t) 0 = true) (kk : sj_G X S cl sl (some (.long x) :: none :: t) q rest) : sj_G X S cl sl (b :: b2 :: t) pc (.long x :: rest) := sj_lstore_n0 (i := 0) C q hq hd rfl hn hok kk
theorem sj_lstore_0 {X : sj_X} {M : sj_M} (C : sj_C X M) {S : sj_St} {cl sl : Nat} {t : List (Option Value)} {b b2 : Option Value} {pc : Nat} {rest : List Value} {x : Int64} (q : Nat) (hq : pc + 2 = q) (hd : decode M.2.1 pc = .ok (.lstore 0, 2)) (hn : Nat.ble 2 M.2.2.1 = true) (hok : sj_okb (b :: b2 :: t) 0 = true) (kk : sj_G X S cl sl (some (.long x) :: none :: t) q rest) : sj_G X S cl sl (b :: b2 :: t) pc (.long x :: rest) := sj_lstore0 (i := 0) C q hq hd hn hok kk
theorem sj_lstore_n_1 {X : sj_X} {M : sj_M} (C : sj_C X M) {S : sj_St} {cl sl : Nat} {t : List (Option Value)} {a0 b b2 : Option Value} {pc : Nat} {rest : List Value} {x : Int64} (q : Nat) (hq : pc + 1 = q) (hd : decode M.2.1 pc = .ok (.lstore_n 1, 1)) (hn : Nat.ble 3 M.2.2.1 = true) (hok : sj_okb (a0 :: b :: b2 :: t) 1 = true) (kk : sj_G X S cl sl (a0 :: some (.long x) :: none :: t) q rest) : sj_G X S cl sl (a0 :: b :: b2 :: t) pc (.long x :: rest) := sj_lstore_n0 (i := 1) C q hq hd rfl hn hok kk
theorem sj_lstore_1 {X : sj_X} {M : sj_M} (C : sj_C X M) {S : sj_St} {cl sl : Nat} {t : List (Option Value)} {a0 b b2 : Option Value} {pc : Nat} {rest : List Value} {x : Int64} (q : Nat) (hq : pc + 2 = q) (hd : decode M.2.1 pc = .ok (.lstore 1, 2)) (hn : Nat.ble 3 M.2.2.1 = true) (hok : sj_okb (a0 :: b :: b2 :: t) 1 = true) (kk : sj_G X S cl sl (a0 :: some (.long x) :: none :: t) q rest) : sj_G X S cl sl (a0 :: b :: b2 :: t) pc (.long x :: rest) := sj_lstore0 (i := 1) C q hq hd hn hok kk
theorem sj_lstore_n_2 {X : sj_X} {M : sj_M} (C : sj_C X M) {S : sj_St} {cl sl : Nat} {t : List (Option Value)} {a0 a1 b b2 : Option Value} {pc : Nat} {rest : List Value} {x : Int64} (q : Nat) (hq : pc + 1 = q) (hd : decode M.2.1 pc = .ok (.lstore_n 2, 1)) (hn : Nat.ble 4 M.2.2.1 = true) (hok : sj_okb (a0 :: a1 :: b :: b2 :: t) 2 = true) (kk : sj_G X S cl sl (a0 :: a1 :: some (.long x) :: none :: t) q rest) : sj_G X S cl sl (a0 :: a1 :: b :: b2 :: t) pc (.long x :: rest) := sj_lstore_n0 (i := 2) C q hq hd rfl hn hok kk
theorem sj_lstore_2 {X : sj_X} {M : sj_M} (C : sj_C X M) {S : sj_St} {cl sl : Nat} {t : List (Option Value)} {a0 a1 b b2 : Option Value} {pc : Nat} {rest : List Value} {x : Int64} (q : Nat) (hq : pc + 2 = q) (hd : decode M.2.1 pc = .ok (.lstore 2, 2)) (hn : Nat.ble 4 M.2.2.1 = true) (hok : sj_okb (a0 :: a1 :: b :: b2 :: t) 2 = true) (kk : sj_G X S cl sl (a0 :: a1 :: some (.long x) :: none :: t) q rest) : sj_G X S cl sl (a0 :: a1 :: b :: b2 :: t) pc (.long x :: rest) := sj_lstore0 (i := 2) C q hq hd hn hok kk
theorem sj_lstore_n_3 {X : sj_X} {M : sj_M} (C : sj_C X M) {S : sj_St} {cl sl : Nat} {t : List (Option Value)} {a0 a1 a2 b b2 : Option Value} {pc : Nat} {rest : List Value} {x : Int64} (q : Nat) (hq : pc + 1 = q) (hd : decode M.2.1 pc = .ok (.lstore_n 3, 1)) (hn : Nat.ble 5 M.2.2.1 = true) (hok : sj_okb (a0 :: a1 :: a2 :: b :: b2 :: t) 3 = true) (kk : sj_G X S cl sl (a0 :: a1 :: a2 :: some (.long x) :: none :: t) q rest) : sj_G X S cl sl (a0 :: a1 :: a2 :: b :: b2 :: t) pc (.long x :: rest) := sj_lstore_n0 (i := 3) C q hq hd rfl hn hok kk
theorem sj_lstore_3 {X : sj_X} {M : sj_M} (C : sj_C X M) {S : sj_St} {cl sl : Nat} {t : List (Option Value)} {a0 a1 a2 b b2 : Option Value} {pc : Nat} {rest : List Value} {x : Int64} (q : Nat) (hq : pc + 2 = q) (hd : decode M.2.1 pc = .ok (.lstore 3, 2)) (hn : Nat.ble 5 M.2.2.1 = true) (hok : sj_okb (a0 :: a1 :: a2 :: b :: b2 :: t) 3 = true) (kk : sj_G X S cl sl (a0 :: a1 :: a2 :: some (.long x) :: none :: t) q rest) : sj_G X S cl sl (a0 :: a1 :: a2 :: b :: b2 :: t) pc (.long x :: rest) := sj_lstore0 (i := 3) C q hq hd hn hok kk
theorem sj_lstore_4 {X : sj_X} {M : sj_M} (C : sj_C X M) {S : sj_St} {cl sl : Nat} {t : List (Option Value)} {a0 a1 a2 a3 b b2 : Option Value} {pc : Nat} {rest : List Value} {x : Int64} (q : Nat) (hq : pc + 2 = q) (hd : decode M.2.1 pc = .ok (.lstore 4, 2)) (hn : Nat.ble 6 M.2.2.1 = true) (hok : sj_okb (a0 :: a1 :: a2 :: a3 :: b :: b2 :: t) 4 = true) (kk : sj_G X S cl sl (a0 :: a1 :: a2 :: a3 :: some (.long x) :: none :: t) q rest) : sj_G X S cl sl (a0 :: a1 :: a2 :: a3 :: b :: b2 :: t) pc (.long x :: rest) := sj_lstore0 (i := 4) C q hq hd hn hok kk
theorem sj_lstore_5 {X : sj_X} {M : sj_M} (C : sj_C X M) {S : sj_St} {cl sl : Nat} {t : List (Option Value)} {a0 a1 a2 a3 a4 b b2 : Option Value} {pc : Nat} {rest : List Value} {x : Int64} (q : Nat) (hq : pc + 2 = q) (hd : decode M.2.1 pc = .ok (.lstore 5, 2)) (hn : Nat.ble 7 M.2.2.1 = true) (hok : sj_okb (a0 :: a1 :: a2 :: a3 :: a4 :: b :: b2 :: t) 5 = true) (kk : sj_G X S cl sl (a0 :: a1 :: a2 :: a3 :: a4 :: some (.long x) :: none :: t) q rest) : sj_G X S cl sl (a0 :: a1 :: a2 :: a3 :: a4 :: b :: b2 :: t) pc (.long x :: rest) := sj_lstore0 (i := 5) C q hq hd hn hok kk
theorem sj_lstore_6 {X : sj_X} {M : sj_M} (C : sj_C X M) {S : sj_St} {cl sl : Nat} {t : List (Option Value)} {a0 a1 a2 a3 a4 a5 b b2 : Option Value} {pc : Nat} {rest : List Value} {x : Int64} (q : Nat) (hq : pc + 2 = q) (hd : decode M.2.1 pc = .ok (.lstore 6, 2)) (hn : Nat.ble 8 M.2.2.1 = true) (hok : sj_okb (a0 :: a1 :: a2 :: a3 :: a4 :: a5 :: b :: b2 :: t) 6 = true) (kk : sj_G X S cl sl (a0 :: a1 :: a2 :: a3 :: a4 :: a5 :: some (.long x) :: none :: t) q rest) : sj_G X S cl sl (a0 :: a1 :: a2 :: a3 :: a4 :: a5 :: b :: b2 :: t) pc (.long x :: rest) := sj_lstore0 (i := 6) C q hq hd hn hok kk
theorem sj_lstore_7 {X : sj_X} {M : sj_M} (C : sj_C X M) {S : sj_St} {cl sl : Nat} {t : List (Option Value)} {a0 a1 a2 a3 a4 a5 a6 b b2 : Option Value} {pc : Nat} {rest : List Value} {x : Int64} (q : Nat) (hq : pc + 2 = q) (hd : decode M.2.1 pc = .ok (.lstore 7, 2)) (hn : Nat.ble 9 M.2.2.1 = true) (hok : sj_okb (a0 :: a1 :: a2 :: a3 :: a4 :: a5 :: a6 :: b :: b2 :: t) 7 = true) (kk : sj_G X S cl sl (a0 :: a1 :: a2 :: a3 :: a4 :: a5 :: a6 :: some (.long x) :: none :: t) q rest) : sj_G X S cl sl (a0 :: a1 :: a2 :: a3 :: a4 :: a5 :: a6 :: b :: b2 :: t) pc (.long x :: rest) := sj_lstore0 (i := 7) C q hq hd hn hok kk
theorem sj_lstore_8 {X : sj_X} {M : sj_M} (C : sj_C X M) {S : sj_St} {cl sl : Nat} {t : List (Option Value)} {a0 a1 a2 a3 a4 a5 a6 a7 b b2 : Option Value} {pc : Nat} {rest : List Value} {x : Int64} (q : Nat) (hq : pc + 2 = q) (hd : decode M.2.1 pc = .ok (.lstore 8, 2)) (hn : Nat.ble 10 M.2.2.1 = true) (hok : sj_okb (a0 :: a1 :: a2 :: a3 :: a4 :: a5 :: a6 :: a7 :: b :: b2 :: t) 8 = true) (kk : sj_G X S cl sl (a0 :: a1 :: a2 :: a3 :: a4 :: a5 :: a6 :: a7 :: some (.long x) :: none :: t) q rest) : sj_G X S cl sl (a0 :: a1 :: a2 :: a3 :: a4 :: a5 :: a6 :: a7 :: b :: b2 :: t) pc (.long x :: rest) := sj_lstore0 (i := 8) C q hq hd hn hok kk
theorem sj_lstore_9 {X : sj_X} {M : sj_M} (C : sj_C X M) {S : sj_St} {cl sl : Nat} {t : List (Option Value)} {a0 a1 a2 a3 a4 a5 a6 a7 a8 b b2 : Option Value} {pc : Nat} {rest : List Value} {x : Int64} (q : Nat) (hq : pc + 2 = q) (hd : decode M.2.1 pc = .ok (.lstore 9, 2)) (hn : Nat.ble 11 M.2.2.1 = true) (hok : sj_okb (a0 :: a1 :: a2 :: a3 :: a4 :: a5 :: a6 :: a7 :: a8 :: b :: b2 :: t) 9 = true) (kk : sj_G X S cl sl (a0 :: a1 :: a2 :: a3 :: a4 :: a5 :: a6 :: a7 :: a8 :: some (.long x) :: none :: t) q rest) : sj_G X S cl sl (a0 :: a1 :: a2 :: a3 :: a4 :: a5 :: a6 :: a7 :: a8 :: b :: b2 :: t) pc (.long x :: rest) := sj_lstore0 (i := 9) C q hq hd hn hok kk
theorem sj_lstore_10 {X : sj_X} {M : sj_M} (C : sj_C X M) {S : sj_St} {cl sl : Nat} {t : List (Option Value)} {a0 a1 a2 a3 a4 a5 a6 a7 a8 a9 b b2 : Option Value} {pc : Nat} {rest : List Value} {x : Int64} (q : Nat) (hq : pc + 2 = q) (hd : decode M.2.1 pc = .ok (.lstore 10, 2)) (hn : Nat.ble 12 M.2.2.1 = true) (hok : sj_okb (a0 :: a1 :: a2 :: a3 :: a4 :: a5 :: a6 :: a7 :: a8 :: a9 :: b :: b2 :: t) 10 = true) (kk : sj_G X S cl sl (a0 :: a1 :: a2 :: a3 :: a4 :: a5 :: a6 :: a7 :: a8 :: a9 :: some (.long x) :: none :: t) q rest) : sj_G X S cl sl (a0 :: a1 :: a2 :: a3 :: a4 :: a5 :: a6 :: a7 :: a8 :: a9 :: b :: b2 :: t) pc (.long x :: rest) := sj_lstore0 (i := 10) C q hq hd hn hok kk
theorem sj_lstore_11 {X : sj_X} {M : sj_M} (C : sj_C X M) {S : sj_St} {cl sl : Nat} {t : List (Option Value)} {a0 a1 a2 a3 a4 a5 a6 a7 a8 a9 a10 b b2 : Option Value} {pc : Nat} {rest : List Value} {x : Int64} (q : Nat) (hq : pc + 2 = q) (hd : decode M.2.1 pc = .ok (.lstore 11, 2)) (hn : Nat.ble 13 M.2.2.1 = true) (hok : sj_okb (a0 :: a1 :: a2 :: a3 :: a4 :: a5 :: a6 :: a7 :: a8 :: a9 :: a10 :: b :: b2 :: t) 11 = true) (kk : sj_G X S cl sl (a0 :: a1 :: a2 :: a3 :: a4 :: a5 :: a6 :: a7 :: a8 :: a9 :: a10 :: some (.long x) :: none :: t) q rest) : sj_G X S cl sl (a0 :: a1 :: a2 :: a3 :: a4 :: a5 :: a6 :: a7 :: a8 :: a9 :: a10 :: b :: b2 :: t) pc (.long x :: rest) := sj_lstore0 (i := 11) C q hq hd hn hok kk
theorem sj_dstore_n_0 {X : sj_X} {M : sj_M} (C : sj_C X M) {S : sj_St} {cl sl : Nat} {t : List (Option Value)} {b b2 : Option Value} {pc : Nat} {rest : List Value} {x : UInt64} (q : Nat) (hq : pc + 1 = q) (hd : decode M.2.1 pc = .ok (.dstore_n 0, 1)) (hn : Nat.ble 2 M.2.2.1 = true) (hok : sj_okb (b :: b2 :: t) 0 = true) (kk : sj_G X S cl sl (some (.double x) :: none :: t) q rest) : sj_G X S cl sl (b :: b2 :: t) pc (.double x :: rest) := sj_dstore_n0 (i := 0) C q hq hd rfl hn hok kk
theorem sj_dstore_0 {X : sj_X} {M : sj_M} (C : sj_C X M) {S : sj_St} {cl sl : Nat} {t : List (Option Value)} {b b2 : Option Value} {pc : Nat} {rest : List Value} {x : UInt64} (q : Nat) (hq : pc + 2 = q) (hd : decode M.2.1 pc = .ok (.dstore 0, 2)) (hn : Nat.ble 2 M.2.2.1 = true) (hok : sj_okb (b :: b2 :: t) 0 = true) (kk : sj_G X S cl sl (some (.double x) :: none :: t) q rest) : sj_G X S cl sl (b :: b2 :: t) pc (.double x :: rest) := sj_dstore0 (i := 0) C q hq hd hn hok kk
theorem sj_dstore_n_1 {X : sj_X} {M : sj_M} (C : sj_C X M) {S : sj_St} {cl sl : Nat} {t : List (Option Value)} {a0 b b2 : Option Value} {pc : Nat} {rest : List Value} {x : UInt64} (q : Nat) (hq : pc + 1 = q) (hd : decode M.2.1 pc = .ok (.dstore_n 1, 1)) (hn : Nat.ble 3 M.2.2.1 = true) (hok : sj_okb (a0 :: b :: b2 :: t) 1 = true) (kk : sj_G X S cl sl (a0 :: some (.double x) :: none :: t) q rest) : sj_G X S cl sl (a0 :: b :: b2 :: t) pc (.double x :: rest) := sj_dstore_n0 (i := 1) C q hq hd rfl hn hok kk
theorem sj_dstore_1 {X : sj_X} {M : sj_M} (C : sj_C X M) {S : sj_St} {cl sl : Nat} {t : List (Option Value)} {a0 b b2 : Option Value} {pc : Nat} {rest : List Value} {x : UInt64} (q : Nat) (hq : pc + 2 = q) (hd : decode M.2.1 pc = .ok (.dstore 1, 2)) (hn : Nat.ble 3 M.2.2.1 = true) (hok : sj_okb (a0 :: b :: b2 :: t) 1 = true) (kk : sj_G X S cl sl (a0 :: some (.double x) :: none :: t) q rest) : sj_G X S cl sl (a0 :: b :: b2 :: t) pc (.double x :: rest) := sj_dstore0 (i := 1) C q hq hd hn hok kk
theorem sj_dstore_n_2 {X : sj_X} {M : sj_M} (C : sj_C X M) {S : sj_St} {cl sl : Nat} {t : List (Option Value)} {a0 a1 b b2 : Option Value} {pc : Nat} {rest : List Value} {x : UInt64} (q : Nat) (hq : pc + 1 = q) (hd : decode M.2.1 pc = .ok (.dstore_n 2, 1)) (hn : Nat.ble 4 M.2.2.1 = true) (hok : sj_okb (a0 :: a1 :: b :: b2 :: t) 2 = true) (kk : sj_G X S cl sl (a0 :: a1 :: some (.double x) :: none :: t) q rest) : sj_G X S cl sl (a0 :: a1 :: b :: b2 :: t) pc (.double x :: rest) := sj_dstore_n0 (i := 2) C q hq hd rfl hn hok kk
theorem sj_dstore_2 {X : sj_X} {M : sj_M} (C : sj_C X M) {S : sj_St} {cl sl : Nat} {t : List (Option Value)} {a0 a1 b b2 : Option Value} {pc : Nat} {rest : List Value} {x : UInt64} (q : Nat) (hq : pc + 2 = q) (hd : decode M.2.1 pc = .ok (.dstore 2, 2)) (hn : Nat.ble 4 M.2.2.1 = true) (hok : sj_okb (a0 :: a1 :: b :: b2 :: t) 2 = true) (kk : sj_G X S cl sl (a0 :: a1 :: some (.double x) :: none :: t) q rest) : sj_G X S cl sl (a0 :: a1 :: b :: b2 :: t) pc (.double x :: rest) := sj_dstore0 (i := 2) C q hq hd hn hok kk
theorem sj_dstore_n_3 {X : sj_X} {M : sj_M} (C : sj_C X M) {S : sj_St} {cl sl : Nat} {t : List (Option Value)} {a0 a1 a2 b b2 : Option Value} {pc : Nat} {rest : List Value} {x : UInt64} (q : Nat) (hq : pc + 1 = q) (hd : decode M.2.1 pc = .ok (.dstore_n 3, 1)) (hn : Nat.ble 5 M.2.2.1 = true) (hok : sj_okb (a0 :: a1 :: a2 :: b :: b2 :: t) 3 = true) (kk : sj_G X S cl sl (a0 :: a1 :: a2 :: some (.double x) :: none :: t) q rest) : sj_G X S cl sl (a0 :: a1 :: a2 :: b :: b2 :: t) pc (.double x :: rest) := sj_dstore_n0 (i := 3) C q hq hd rfl hn hok kk
theorem sj_dstore_3 {X : sj_X} {M : sj_M} (C : sj_C X M) {S : sj_St} {cl sl : Nat} {t : List (Option Value)} {a0 a1 a2 b b2 : Option Value} {pc : Nat} {rest : List Value} {x : UInt64} (q : Nat) (hq : pc + 2 = q) (hd : decode M.2.1 pc = .ok (.dstore 3, 2)) (hn : Nat.ble 5 M.2.2.1 = true) (hok : sj_okb (a0 :: a1 :: a2 :: b :: b2 :: t) 3 = true) (kk : sj_G X S cl sl (a0 :: a1 :: a2 :: some (.double x) :: none :: t) q rest) : sj_G X S cl sl (a0 :: a1 :: a2 :: b :: b2 :: t) pc (.double x :: rest) := sj_dstore0 (i := 3) C q hq hd hn hok kk
theorem sj_dstore_4 {X : sj_X} {M : sj_M} (C : sj_C X M) {S : sj_St} {cl sl : Nat} {t : List (Option Value)} {a0 a1 a2 a3 b b2 : Option Value} {pc : Nat} {rest : List Value} {x : UInt64} (q : Nat) (hq : pc + 2 = q) (hd : decode M.2.1 pc = .ok (.dstore 4, 2)) (hn : Nat.ble 6 M.2.2.1 = true) (hok : sj_okb (a0 :: a1 :: a2 :: a3 :: b :: b2 :: t) 4 = true) (kk : sj_G X S cl sl (a0 :: a1 :: a2 :: a3 :: some (.double x) :: none :: t) q rest) : sj_G X S cl sl (a0 :: a1 :: a2 :: a3 :: b :: b2 :: t) pc (.double x :: rest) := sj_dstore0 (i := 4) C q hq hd hn hok kk
theorem sj_dstore_5 {X : sj_X} {M : sj_M} (C : sj_C X M) {S : sj_St} {cl sl : Nat} {t : List (Option Value)} {a0 a1 a2 a3 a4 b b2 : Option Value} {pc : Nat} {rest : List Value} {x : UInt64} (q : Nat) (hq : pc + 2 = q) (hd : decode M.2.1 pc = .ok (.dstore 5, 2)) (hn : Nat.ble 7 M.2.2.1 = true) (hok : sj_okb (a0 :: a1 :: a2 :: a3 :: a4 :: b :: b2 :: t) 5 = true) (kk : sj_G X S cl sl (a0 :: a1 :: a2 :: a3 :: a4 :: some (.double x) :: none :: t) q rest) : sj_G X S cl sl (a0 :: a1 :: a2 :: a3 :: a4 :: b :: b2 :: t) pc (.double x :: rest) := sj_dstore0 (i := 5) C q hq hd hn hok kk
theorem sj_dstore_6 {X : sj_X} {M : sj_M} (C : sj_C X M) {S : sj_St} {cl sl : Nat} {t : List (Option Value)} {a0 a1 a2 a3 a4 a5 b b2 : Option Value} {pc : Nat} {rest : List Value} {x : UInt64} (q : Nat) (hq : pc + 2 = q) (hd : decode M.2.1 pc = .ok (.dstore 6, 2)) (hn : Nat.ble 8 M.2.2.1 = true) (hok : sj_okb (a0 :: a1 :: a2 :: a3 :: a4 :: a5 :: b :: b2 :: t) 6 = true) (kk : sj_G X S cl sl (a0 :: a1 :: a2 :: a3 :: a4 :: a5 :: some (.double x) :: none :: t) q rest) : sj_G X S cl sl (a0 :: a1 :: a2 :: a3 :: a4 :: a5 :: b :: b2 :: t) pc (.double x :: rest) := sj_dstore0 (i := 6) C q hq hd hn hok kk
theorem sj_dstore_7 {X : sj_X} {M : sj_M} (C : sj_C X M) {S : sj_St} {cl sl : Nat} {t : List (Option Value)} {a0 a1 a2 a3 a4 a5 a6 b b2 : Option Value} {pc : Nat} {rest : List Value} {x : UInt64} (q : Nat) (hq : pc + 2 = q) (hd : decode M.2.1 pc = .ok (.dstore 7, 2)) (hn : Nat.ble 9 M.2.2.1 = true) (hok : sj_okb (a0 :: a1 :: a2 :: a3 :: a4 :: a5 :: a6 :: b :: b2 :: t) 7 = true) (kk : sj_G X S cl sl (a0 :: a1 :: a2 :: a3 :: a4 :: a5 :: a6 :: some (.double x) :: none :: t) q rest) : sj_G X S cl sl (a0 :: a1 :: a2 :: a3 :: a4 :: a5 :: a6 :: b :: b2 :: t) pc (.double x :: rest) := sj_dstore0 (i := 7) C q hq hd hn hok kk
theorem sj_dstore_8 {X : sj_X} {M : sj_M} (C : sj_C X M) {S : sj_St} {cl sl : Nat} {t : List (Option Value)} {a0 a1 a2 a3 a4 a5 a6 a7 b b2 : Option Value} {pc : Nat} {rest : List Value} {x : UInt64} (q : Nat) (hq : pc + 2 = q) (hd : decode M.2.1 pc = .ok (.dstore 8, 2)) (hn : Nat.ble 10 M.2.2.1 = true) (hok : sj_okb (a0 :: a1 :: a2 :: a3 :: a4 :: a5 :: a6 :: a7 :: b :: b2 :: t) 8 = true) (kk : sj_G X S cl sl (a0 :: a1 :: a2 :: a3 :: a4 :: a5 :: a6 :: a7 :: some (.double x) :: none :: t) q rest) : sj_G X S cl sl (a0 :: a1 :: a2 :: a3 :: a4 :: a5 :: a6 :: a7 :: b :: b2 :: t) pc (.double x :: rest) := sj_dstore0 (i := 8) C q hq hd hn hok kk
theorem sj_dstore_9 {X : sj_X} {M : sj_M} (C : sj_C X M) {S : sj_St} {cl sl : Nat} {t : List (Option Value)} {a0 a1 a2 a3 a4 a5 a6 a7 a8 b b2 : Option Value} {pc : Nat} {rest : List Value} {x : UInt64} (q : Nat) (hq : pc + 2 = q) (hd : decode M.2.1 pc = .ok (.dstore 9, 2)) (hn : Nat.ble 11 M.2.2.1 = true) (hok : sj_okb (a0 :: a1 :: a2 :: a3 :: a4 :: a5 :: a6 :: a7 :: a8 :: b :: b2 :: t) 9 = true) (kk : sj_G X S cl sl (a0 :: a1 :: a2 :: a3 :: a4 :: a5 :: a6 :: a7 :: a8 :: some (.double x) :: none :: t) q rest) : sj_G X S cl sl (a0 :: a1 :: a2 :: a3 :: a4 :: a5 :: a6 :: a7 :: a8 :: b :: b2 :: t) pc (.double x :: rest) := sj_dstore0 (i := 9) C q hq hd hn hok kk
theorem sj_dstore_10 {X : sj_X} {M : sj_M} (C : sj_C X M) {S : sj_St} {cl sl : Nat} {t : List (Option Value)} {a0 a1 a2 a3 a4 a5 a6 a7 a8 a9 b b2 : Option Value} {pc : Nat} {rest : List Value} {x : UInt64} (q : Nat) (hq : pc + 2 = q) (hd : decode M.2.1 pc = .ok (.dstore 10, 2)) (hn : Nat.ble 12 M.2.2.1 = true) (hok : sj_okb (a0 :: a1 :: a2 :: a3 :: a4 :: a5 :: a6 :: a7 :: a8 :: a9 :: b :: b2 :: t) 10 = true) (kk : sj_G X S cl sl (a0 :: a1 :: a2 :: a3 :: a4 :: a5 :: a6 :: a7 :: a8 :: a9 :: some (.double x) :: none :: t) q rest) : sj_G X S cl sl (a0 :: a1 :: a2 :: a3 :: a4 :: a5 :: a6 :: a7 :: a8 :: a9 :: b :: b2 :: t) pc (.double x :: rest) := sj_dstore0 (i := 10) C q hq hd hn hok kk
theorem sj_dstore_11 {X : sj_X} {M : sj_M} (C : sj_C X M) {S : sj_St} {cl sl : Nat} {t : List (Option Value)} {a0 a1 a2 a3 a4 a5 a6 a7 a8 a9 a10 b b2 : Option Value} {pc : Nat} {rest : List Value} {x : UInt64} (q : Nat) (hq : pc + 2 = q) (hd : decode M.2.1 pc = .ok (.dstore 11, 2)) (hn : Nat.ble 13 M.2.2.1 = true) (hok : sj_okb (a0 :: a1 :: a2 :: a3 :: a4 :: a5 :: a6 :: a7 :: a8 :: a9 :: a10 :: b :: b2 :: t) 11 = true) (kk : sj_G X S cl sl (a0 :: a1 :: a2 :: a3 :: a4 :: a5 :: a6 :: a7 :: a8 :: a9 :: a10 :: some (.double x) :: none :: t) q rest) : sj_G X S cl sl (a0 :: a1 :: a2 :: a3 :: a4 :: a5 :: a6 :: a7 :: a8 :: a9 :: a10 :: b :: b2 :: t) pc (.double x :: rest) := sj_dstore0 (i := 11) C q hq hd hn hok kk
theorem sj_iinc_0 {X : sj_X} {M : sj_M} (C : sj_C X M) {S : sj_St} {cl sl : Nat} {t : List (Option Value)} {pc : Nat} {rest : List Value} {n : Int} {x : Int32} (q : Nat) (hq : pc + 3 = q) (hd : decode M.2.1 pc = .ok (.iinc 0 n, 3)) (hn : Nat.ble 1 M.2.2.1 = true) (hok : sj_okb (some (.int x) :: t) 0 = true) (kk : sj_G X S cl sl (some (.int (x + Int32.ofInt n)) :: t) q rest) : sj_G X S cl sl (some (.int x) :: t) pc rest := sj_iinc0 (i := 0) C q hq hd hn hok rfl kk
theorem sj_iinc_1 {X : sj_X} {M : sj_M} (C : sj_C X M) {S : sj_St} {cl sl : Nat} {t : List (Option Value)} {a0 : Option Value} {pc : Nat} {rest : List Value} {n : Int} {x : Int32} (q : Nat) (hq : pc + 3 = q) (hd : decode M.2.1 pc = .ok (.iinc 1 n, 3)) (hn : Nat.ble 2 M.2.2.1 = true) (hok : sj_okb (a0 :: some (.int x) :: t) 1 = true) (kk : sj_G X S cl sl (a0 :: some (.int (x + Int32.ofInt n)) :: t) q rest) : sj_G X S cl sl (a0 :: some (.int x) :: t) pc rest := sj_iinc0 (i := 1) C q hq hd hn hok rfl kk
theorem sj_iinc_2 {X : sj_X} {M : sj_M} (C : sj_C X M) {S : sj_St} {cl sl : Nat} {t : List (Option Value)} {a0 a1 : Option Value} {pc : Nat} {rest : List Value} {n : Int} {x : Int32} (q : Nat) (hq : pc + 3 = q) (hd : decode M.2.1 pc = .ok (.iinc 2 n, 3)) (hn : Nat.ble 3 M.2.2.1 = true) (hok : sj_okb (a0 :: a1 :: some (.int x) :: t) 2 = true) (kk : sj_G X S cl sl (a0 :: a1 :: some (.int (x + Int32.ofInt n)) :: t) q rest) : sj_G X S cl sl (a0 :: a1 :: some (.int x) :: t) pc rest := sj_iinc0 (i := 2) C q hq hd hn hok rfl kk
theorem sj_iinc_3 {X : sj_X} {M : sj_M} (C : sj_C X M) {S : sj_St} {cl sl : Nat} {t : List (Option Value)} {a0 a1 a2 : Option Value} {pc : Nat} {rest : List Value} {n : Int} {x : Int32} (q : Nat) (hq : pc + 3 = q) (hd : decode M.2.1 pc = .ok (.iinc 3 n, 3)) (hn : Nat.ble 4 M.2.2.1 = true) (hok : sj_okb (a0 :: a1 :: a2 :: some (.int x) :: t) 3 = true) (kk : sj_G X S cl sl (a0 :: a1 :: a2 :: some (.int (x + Int32.ofInt n)) :: t) q rest) : sj_G X S cl sl (a0 :: a1 :: a2 :: some (.int x) :: t) pc rest := sj_iinc0 (i := 3) C q hq hd hn hok rfl kk
theorem sj_iinc_4 {X : sj_X} {M : sj_M} (C : sj_C X M) {S : sj_St} {cl sl : Nat} {t : List (Option Value)} {a0 a1 a2 a3 : Option Value} {pc : Nat} {rest : List Value} {n : Int} {x : Int32} (q : Nat) (hq : pc + 3 = q) (hd : decode M.2.1 pc = .ok (.iinc 4 n, 3)) (hn : Nat.ble 5 M.2.2.1 = true) (hok : sj_okb (a0 :: a1 :: a2 :: a3 :: some (.int x) :: t) 4 = true) (kk : sj_G X S cl sl (a0 :: a1 :: a2 :: a3 :: some (.int (x + Int32.ofInt n)) :: t) q rest) : sj_G X S cl sl (a0 :: a1 :: a2 :: a3 :: some (.int x) :: t) pc rest := sj_iinc0 (i := 4) C q hq hd hn hok rfl kk
theorem sj_iinc_5 {X : sj_X} {M : sj_M} (C : sj_C X M) {S : sj_St} {cl sl : Nat} {t : List (Option Value)} {a0 a1 a2 a3 a4 : Option Value} {pc : Nat} {rest : List Value} {n : Int} {x : Int32} (q : Nat) (hq : pc + 3 = q) (hd : decode M.2.1 pc = .ok (.iinc 5 n, 3)) (hn : Nat.ble 6 M.2.2.1 = true) (hok : sj_okb (a0 :: a1 :: a2 :: a3 :: a4 :: some (.int x) :: t) 5 = true) (kk : sj_G X S cl sl (a0 :: a1 :: a2 :: a3 :: a4 :: some (.int (x + Int32.ofInt n)) :: t) q rest) : sj_G X S cl sl (a0 :: a1 :: a2 :: a3 :: a4 :: some (.int x) :: t) pc rest := sj_iinc0 (i := 5) C q hq hd hn hok rfl kk
theorem sj_iinc_6 {X : sj_X} {M : sj_M} (C : sj_C X M) {S : sj_St} {cl sl : Nat} {t : List (Option Value)} {a0 a1 a2 a3 a4 a5 : Option Value} {pc : Nat} {rest : List Value} {n : Int} {x : Int32} (q : Nat) (hq : pc + 3 = q) (hd : decode M.2.1 pc = .ok (.iinc 6 n, 3)) (hn : Nat.ble 7 M.2.2.1 = true) (hok : sj_okb (a0 :: a1 :: a2 :: a3 :: a4 :: a5 :: some (.int x) :: t) 6 = true) (kk : sj_G X S cl sl (a0 :: a1 :: a2 :: a3 :: a4 :: a5 :: some (.int (x + Int32.ofInt n)) :: t) q rest) : sj_G X S cl sl (a0 :: a1 :: a2 :: a3 :: a4 :: a5 :: some (.int x) :: t) pc rest := sj_iinc0 (i := 6) C q hq hd hn hok rfl kk
theorem sj_iinc_7 {X : sj_X} {M : sj_M} (C : sj_C X M) {S : sj_St} {cl sl : Nat} {t : List (Option Value)} {a0 a1 a2 a3 a4 a5 a6 : Option Value} {pc : Nat} {rest : List Value} {n : Int} {x : Int32} (q : Nat) (hq : pc + 3 = q) (hd : decode M.2.1 pc = .ok (.iinc 7 n, 3)) (hn : Nat.ble 8 M.2.2.1 = true) (hok : sj_okb (a0 :: a1 :: a2 :: a3 :: a4 :: a5 :: a6 :: some (.int x) :: t) 7 = true) (kk : sj_G X S cl sl (a0 :: a1 :: a2 :: a3 :: a4 :: a5 :: a6 :: some (.int (x + Int32.ofInt n)) :: t) q rest) : sj_G X S cl sl (a0 :: a1 :: a2 :: a3 :: a4 :: a5 :: a6 :: some (.int x) :: t) pc rest := sj_iinc0 (i := 7) C q hq hd hn hok rfl kk
theorem sj_iinc_8 {X : sj_X} {M : sj_M} (C : sj_C X M) {S : sj_St} {cl sl : Nat} {t : List (Option Value)} {a0 a1 a2 a3 a4 a5 a6 a7 : Option Value} {pc : Nat} {rest : List Value} {n : Int} {x : Int32} (q : Nat) (hq : pc + 3 = q) (hd : decode M.2.1 pc = .ok (.iinc 8 n, 3)) (hn : Nat.ble 9 M.2.2.1 = true) (hok : sj_okb (a0 :: a1 :: a2 :: a3 :: a4 :: a5 :: a6 :: a7 :: some (.int x) :: t) 8 = true) (kk : sj_G X S cl sl (a0 :: a1 :: a2 :: a3 :: a4 :: a5 :: a6 :: a7 :: some (.int (x + Int32.ofInt n)) :: t) q rest) : sj_G X S cl sl (a0 :: a1 :: a2 :: a3 :: a4 :: a5 :: a6 :: a7 :: some (.int x) :: t) pc rest := sj_iinc0 (i := 8) C q hq hd hn hok rfl kk
theorem sj_iinc_9 {X : sj_X} {M : sj_M} (C : sj_C X M) {S : sj_St} {cl sl : Nat} {t : List (Option Value)} {a0 a1 a2 a3 a4 a5 a6 a7 a8 : Option Value} {pc : Nat} {rest : List Value} {n : Int} {x : Int32} (q : Nat) (hq : pc + 3 = q) (hd : decode M.2.1 pc = .ok (.iinc 9 n, 3)) (hn : Nat.ble 10 M.2.2.1 = true) (hok : sj_okb (a0 :: a1 :: a2 :: a3 :: a4 :: a5 :: a6 :: a7 :: a8 :: some (.int x) :: t) 9 = true) (kk : sj_G X S cl sl (a0 :: a1 :: a2 :: a3 :: a4 :: a5 :: a6 :: a7 :: a8 :: some (.int (x + Int32.ofInt n)) :: t) q rest) : sj_G X S cl sl (a0 :: a1 :: a2 :: a3 :: a4 :: a5 :: a6 :: a7 :: a8 :: some (.int x) :: t) pc rest := sj_iinc0 (i := 9) C q hq hd hn hok rfl kk
theorem sj_iinc_10 {X : sj_X} {M : sj_M} (C : sj_C X M) {S : sj_St} {cl sl : Nat} {t : List (Option Value)} {a0 a1 a2 a3 a4 a5 a6 a7 a8 a9 : Option Value} {pc : Nat} {rest : List Value} {n : Int} {x : Int32} (q : Nat) (hq : pc + 3 = q) (hd : decode M.2.1 pc = .ok (.iinc 10 n, 3)) (hn : Nat.ble 11 M.2.2.1 = true) (hok : sj_okb (a0 :: a1 :: a2 :: a3 :: a4 :: a5 :: a6 :: a7 :: a8 :: a9 :: some (.int x) :: t) 10 = true) (kk : sj_G X S cl sl (a0 :: a1 :: a2 :: a3 :: a4 :: a5 :: a6 :: a7 :: a8 :: a9 :: some (.int (x + Int32.ofInt n)) :: t) q rest) : sj_G X S cl sl (a0 :: a1 :: a2 :: a3 :: a4 :: a5 :: a6 :: a7 :: a8 :: a9 :: some (.int x) :: t) pc rest := sj_iinc0 (i := 10) C q hq hd hn hok rfl kk
theorem sj_iinc_11 {X : sj_X} {M : sj_M} (C : sj_C X M) {S : sj_St} {cl sl : Nat} {t : List (Option Value)} {a0 a1 a2 a3 a4 a5 a6 a7 a8 a9 a10 : Option Value} {pc : Nat} {rest : List Value} {n : Int} {x : Int32} (q : Nat) (hq : pc + 3 = q) (hd : decode M.2.1 pc = .ok (.iinc 11 n, 3)) (hn : Nat.ble 12 M.2.2.1 = true) (hok : sj_okb (a0 :: a1 :: a2 :: a3 :: a4 :: a5 :: a6 :: a7 :: a8 :: a9 :: a10 :: some (.int x) :: t) 11 = true) (kk : sj_G X S cl sl (a0 :: a1 :: a2 :: a3 :: a4 :: a5 :: a6 :: a7 :: a8 :: a9 :: a10 :: some (.int (x + Int32.ofInt n)) :: t) q rest) : sj_G X S cl sl (a0 :: a1 :: a2 :: a3 :: a4 :: a5 :: a6 :: a7 :: a8 :: a9 :: a10 :: some (.int x) :: t) pc rest := sj_iinc0 (i := 11) C q hq hd hn hok rfl kk
theorem sj_icmp_eq {X : sj_X} {M : sj_M} (C : sj_C X M) {S : sj_St} {cl sl : Nat} {L : List (Option Value)} {pc : Nat} {rest : List Value} {x y : Int32} {off : Int} (tgt q : Nat) (hq : pc + 3 = q) (ht : (pc : Int) + off = (tgt : Int)) (hd : decode M.2.1 pc = .ok (.if_icmp .eq off, 3)) (kt : x = y → sj_G X S cl sl L tgt rest) (kf : ¬ x = y → sj_G X S cl sl L q rest) : sj_G X S cl sl L pc (.int y :: .int x :: rest) := by
  obtain ⟨p, l, e, R, s, m, args, below, meth, c, D, cy, A, nL, Q⟩ := X
  obtain ⟨ym, cc, nL0, ret, fr, lo, mc, ms⟩ := M
  obtain ⟨hx, hb, ⟨hml, hnL⟩, hown, hts, ⟨hlk, hret, hnm⟩, hK, hAm, hA, hRR⟩ := C
  subst hq
  intro H locs ls h1 h2 h3
  exact lv_icmp_eq hx hb hd ht (fun h => kt h H locs ls h1 h2 h3) (fun h => kf h H locs ls h1 h2 h3)
theorem sj_icmp_ne {X : sj_X} {M : sj_M} (C : sj_C X M) {S : sj_St} {cl sl : Nat} {L : List (Option Value)} {pc : Nat} {rest : List Value} {x y : Int32} {off : Int} (tgt q : Nat) (hq : pc + 3 = q) (ht : (pc : Int) + off = (tgt : Int)) (hd : decode M.2.1 pc = .ok (.if_icmp .ne off, 3)) (kt : ¬ x = y → sj_G X S cl sl L tgt rest) (kf : x = y → sj_G X S cl sl L q rest) : sj_G X S cl sl L pc (.int y :: .int x :: rest) := by
  obtain ⟨p, l, e, R, s, m, args, below, meth, c, D, cy, A, nL, Q⟩ := X
  obtain ⟨ym, cc, nL0, ret, fr, lo, mc, ms⟩ := M
  obtain ⟨hx, hb, ⟨hml, hnL⟩, hown, hts, ⟨hlk, hret, hnm⟩, hK, hAm, hA, hRR⟩ := C
  subst hq
  intro H locs ls h1 h2 h3
  exact lv_icmp_ne hx hb hd ht (fun h => kt h H locs ls h1 h2 h3) (fun h => kf h H locs ls h1 h2 h3)
theorem sj_icmp_lt {X : sj_X} {M : sj_M} (C : sj_C X M) {S : sj_St} {cl sl : Nat} {L : List (Option Value)} {pc : Nat} {rest : List Value} {x y : Int32} {off : Int} (tgt q : Nat) (hq : pc + 3 = q) (ht : (pc : Int) + off = (tgt : Int)) (hd : decode M.2.1 pc = .ok (.if_icmp .lt off, 3)) (kt : x < y → sj_G X S cl sl L tgt rest) (kf : ¬ x < y → sj_G X S cl sl L q rest) : sj_G X S cl sl L pc (.int y :: .int x :: rest) := by
  obtain ⟨p, l, e, R, s, m, args, below, meth, c, D, cy, A, nL, Q⟩ := X
  obtain ⟨ym, cc, nL0, ret, fr, lo, mc, ms⟩ := M
  obtain ⟨hx, hb, ⟨hml, hnL⟩, hown, hts, ⟨hlk, hret, hnm⟩, hK, hAm, hA, hRR⟩ := C
  subst hq
  intro H locs ls h1 h2 h3
  exact lv_icmp_lt hx hb hd ht (fun h => kt h H locs ls h1 h2 h3) (fun h => kf h H locs ls h1 h2 h3)
theorem sj_icmp_ge {X : sj_X} {M : sj_M} (C : sj_C X M) {S : sj_St} {cl sl : Nat} {L : List (Option Value)} {pc : Nat} {rest : List Value} {x y : Int32} {off : Int} (tgt q : Nat) (hq : pc + 3 = q) (ht : (pc : Int) + off = (tgt : Int)) (hd : decode M.2.1 pc = .ok (.if_icmp .ge off, 3)) (kt : y ≤ x → sj_G X S cl sl L tgt rest) (kf : ¬ y ≤ x → sj_G X S cl sl L q rest) : sj_G X S cl sl L pc (.int y :: .int x :: rest) := by
  obtain ⟨p, l, e, R, s, m, args, below, meth, c, D, cy, A, nL, Q⟩ := X
  obtain ⟨ym, cc, nL0, ret, fr, lo, mc, ms⟩ := M
  obtain ⟨hx, hb, ⟨hml, hnL⟩, hown, hts, ⟨hlk, hret, hnm⟩, hK, hAm, hA, hRR⟩ := C
  subst hq
  intro H locs ls h1 h2 h3
  exact lv_icmp_ge hx hb hd ht (fun h => kt h H locs ls h1 h2 h3) (fun h => kf h H locs ls h1 h2 h3)
theorem sj_icmp_gt {X : sj_X} {M : sj_M} (C : sj_C X M) {S : sj_St} {cl sl : Nat} {L : List (Option Value)} {pc : Nat} {rest : List Value} {x y : Int32} {off : Int} (tgt q : Nat) (hq : pc + 3 = q) (ht : (pc : Int) + off = (tgt : Int)) (hd : decode M.2.1 pc = .ok (.if_icmp .gt off, 3)) (kt : y < x → sj_G X S cl sl L tgt rest) (kf : ¬ y < x → sj_G X S cl sl L q rest) : sj_G X S cl sl L pc (.int y :: .int x :: rest) := by
  obtain ⟨p, l, e, R, s, m, args, below, meth, c, D, cy, A, nL, Q⟩ := X
  obtain ⟨ym, cc, nL0, ret, fr, lo, mc, ms⟩ := M
  obtain ⟨hx, hb, ⟨hml, hnL⟩, hown, hts, ⟨hlk, hret, hnm⟩, hK, hAm, hA, hRR⟩ := C
  subst hq
  intro H locs ls h1 h2 h3
  exact lv_icmp_gt hx hb hd ht (fun h => kt h H locs ls h1 h2 h3) (fun h => kf h H locs ls h1 h2 h3)
theorem sj_icmp_le {X : sj_X} {M : sj_M} (C : sj_C X M) {S : sj_St} {cl sl : Nat} {L : List (Option Value)} {pc : Nat} {rest : List Value} {x y : Int32} {off : Int} (tgt q : Nat) (hq : pc + 3 = q) (ht : (pc : Int) + off = (tgt : Int)) (hd : decode M.2.1 pc = .ok (.if_icmp .le off, 3)) (kt : x ≤ y → sj_G X S cl sl L tgt rest) (kf : ¬ x ≤ y → sj_G X S cl sl L q rest) : sj_G X S cl sl L pc (.int y :: .int x :: rest) := by
  obtain ⟨p, l, e, R, s, m, args, below, meth, c, D, cy, A, nL, Q⟩ := X
  obtain ⟨ym, cc, nL0, ret, fr, lo, mc, ms⟩ := M
  obtain ⟨hx, hb, ⟨hml, hnL⟩, hown, hts, ⟨hlk, hret, hnm⟩, hK, hAm, hA, hRR⟩ := C
  subst hq
  intro H locs ls h1 h2 h3
  exact lv_icmp_le hx hb hd ht (fun h => kt h H locs ls h1 h2 h3) (fun h => kf h H locs ls h1 h2 h3)
theorem sj_if_eq {X : sj_X} {M : sj_M} (C : sj_C X M) {S : sj_St} {cl sl : Nat} {L : List (Option Value)} {pc : Nat} {rest : List Value} {x : Int32} {off : Int} (tgt q : Nat) (hq : pc + 3 = q) (ht : (pc : Int) + off = (tgt : Int)) (hd : decode M.2.1 pc = .ok (.ifCond .eq off, 3)) (kt : x = 0 → sj_G X S cl sl L tgt rest) (kf : ¬ x = 0 → sj_G X S cl sl L q rest) : sj_G X S cl sl L pc (.int x :: rest) := by
  obtain ⟨p, l, e, R, s, m, args, below, meth, c, D, cy, A, nL, Q⟩ := X
  obtain ⟨ym, cc, nL0, ret, fr, lo, mc, ms⟩ := M
  obtain ⟨hx, hb, ⟨hml, hnL⟩, hown, hts, ⟨hlk, hret, hnm⟩, hK, hAm, hA, hRR⟩ := C
  subst hq
  intro H locs ls h1 h2 h3
  exact lv_if_eq hx hb hd ht (fun h => kt h H locs ls h1 h2 h3) (fun h => kf h H locs ls h1 h2 h3)
theorem sj_if_ne {X : sj_X} {M : sj_M} (C : sj_C X M) {S : sj_St} {cl sl : Nat} {L : List (Option Value)} {pc : Nat} {rest : List Value} {x : Int32} {off : Int} (tgt q : Nat) (hq : pc + 3 = q) (ht : (pc : Int) + off = (tgt : Int)) (hd : decode M.2.1 pc = .ok (.ifCond .ne off, 3)) (kt : ¬ x = 0 → sj_G X S cl sl L tgt rest) (kf : x = 0 → sj_G X S cl sl L q rest) : sj_G X S cl sl L pc (.int x :: rest) := by
  obtain ⟨p, l, e, R, s, m, args, below, meth, c, D, cy, A, nL, Q⟩ := X
  obtain ⟨ym, cc, nL0, ret, fr, lo, mc, ms⟩ := M
  obtain ⟨hx, hb, ⟨hml, hnL⟩, hown, hts, ⟨hlk, hret, hnm⟩, hK, hAm, hA, hRR⟩ := C
  subst hq
  intro H locs ls h1 h2 h3
  exact lv_if_ne hx hb hd ht (fun h => kt h H locs ls h1 h2 h3) (fun h => kf h H locs ls h1 h2 h3)
theorem sj_if_lt {X : sj_X} {M : sj_M} (C : sj_C X M) {S : sj_St} {cl sl : Nat} {L : List (Option Value)} {pc : Nat} {rest : List Value} {x : Int32} {off : Int} (tgt q : Nat) (hq : pc + 3 = q) (ht : (pc : Int) + off = (tgt : Int)) (hd : decode M.2.1 pc = .ok (.ifCond .lt off, 3)) (kt : x < 0 → sj_G X S cl sl L tgt rest) (kf : ¬ x < 0 → sj_G X S cl sl L q rest) : sj_G X S cl sl L pc (.int x :: rest) := by
  obtain ⟨p, l, e, R, s, m, args, below, meth, c, D, cy, A, nL, Q⟩ := X
  obtain ⟨ym, cc, nL0, ret, fr, lo, mc, ms⟩ := M
  obtain ⟨hx, hb, ⟨hml, hnL⟩, hown, hts, ⟨hlk, hret, hnm⟩, hK, hAm, hA, hRR⟩ := C
  subst hq
  intro H locs ls h1 h2 h3
  exact lv_if_lt hx hb hd ht (fun h => kt h H locs ls h1 h2 h3) (fun h => kf h H locs ls h1 h2 h3)
theorem sj_if_ge {X : sj_X} {M : sj_M} (C : sj_C X M) {S : sj_St} {cl sl : Nat} {L : List (Option Value)} {pc : Nat} {rest : List Value} {x : Int32} {off : Int} (tgt q : Nat) (hq : pc + 3 = q) (ht : (pc : Int) + off = (tgt : Int)) (hd : decode M.2.1 pc = .ok (.ifCond .ge off, 3)) (kt : 0 ≤ x → sj_G X S cl sl L tgt rest) (kf : ¬ 0 ≤ x → sj_G X S cl sl L q rest) : sj_G X S cl sl L pc (.int x :: rest) := by
  obtain ⟨p, l, e, R, s, m, args, below, meth, c, D, cy, A, nL, Q⟩ := X
  obtain ⟨ym, cc, nL0, ret, fr, lo, mc, ms⟩ := M
  obtain ⟨hx, hb, ⟨hml, hnL⟩, hown, hts, ⟨hlk, hret, hnm⟩, hK, hAm, hA, hRR⟩ := C
  subst hq
  intro H locs ls h1 h2 h3
  exact lv_if_ge hx hb hd ht (fun h => kt h H locs ls h1 h2 h3) (fun h => kf h H locs ls h1 h2 h3)
theorem sj_if_gt {X : sj_X} {M : sj_M} (C : sj_C X M) {S : sj_St} {cl sl : Nat} {L : List (Option Value)} {pc : Nat} {rest : List Value} {x : Int32} {off : Int} (tgt q : Nat) (hq : pc + 3 = q) (ht : (pc : Int) + off = (tgt : Int)) (hd : decode M.2.1 pc = .ok (.ifCond .gt off, 3)) (kt : 0 < x → sj_G X S cl sl L tgt rest) (kf : ¬ 0 < x → sj_G X S cl sl L q rest) : sj_G X S cl sl L pc (.int x :: rest) := by
  obtain ⟨p, l, e, R, s, m, args, below, meth, c, D, cy, A, nL, Q⟩ := X
  obtain ⟨ym, cc, nL0, ret, fr, lo, mc, ms⟩ := M
  obtain ⟨hx, hb, ⟨hml, hnL⟩, hown, hts, ⟨hlk, hret, hnm⟩, hK, hAm, hA, hRR⟩ := C
  subst hq
  intro H locs ls h1 h2 h3
  exact lv_if_gt hx hb hd ht (fun h => kt h H locs ls h1 h2 h3) (fun h => kf h H locs ls h1 h2 h3)
theorem sj_if_le {X : sj_X} {M : sj_M} (C : sj_C X M) {S : sj_St} {cl sl : Nat} {L : List (Option Value)} {pc : Nat} {rest : List Value} {x : Int32} {off : Int} (tgt q : Nat) (hq : pc + 3 = q) (ht : (pc : Int) + off = (tgt : Int)) (hd : decode M.2.1 pc = .ok (.ifCond .le off, 3)) (kt : x ≤ 0 → sj_G X S cl sl L tgt rest) (kf : ¬ x ≤ 0 → sj_G X S cl sl L q rest) : sj_G X S cl sl L pc (.int x :: rest) := by
  obtain ⟨p, l, e, R, s, m, args, below, meth, c, D, cy, A, nL, Q⟩ := X
  obtain ⟨ym, cc, nL0, ret, fr, lo, mc, ms⟩ := M
  obtain ⟨hx, hb, ⟨hml, hnL⟩, hown, hts, ⟨hlk, hret, hnm⟩, hK, hAm, hA, hRR⟩ := C
  subst hq
  intro H locs ls h1 h2 h3
  exact lv_if_le hx hb hd ht (fun h => kt h H locs ls h1 h2 h3) (fun h => kf h H locs ls h1 h2 h3)
theorem sj_goto {X : sj_X} {M : sj_M} (C : sj_C X M) {S : sj_St} {cl sl : Nat} {L : List (Option Value)} {pc : Nat} {rest : List Value} {off : Int} (tgt : Nat) (ht : (pc : Int) + off = (tgt : Int)) (hd : decode M.2.1 pc = .ok (.goto off, 3)) (k : sj_G X S cl sl L tgt rest) : sj_G X S cl sl L pc rest := by
  obtain ⟨p, l, e, R, s, m, args, below, meth, c, D, cy, A, nL, Q⟩ := X
  obtain ⟨ym, cc, nL0, ret, fr, lo, mc, ms⟩ := M
  obtain ⟨hx, hb, ⟨hml, hnL⟩, hown, hts, ⟨hlk, hret, hnm⟩, hK, hAm, hA, hRR⟩ := C
  intro H locs ls h1 h2 h3
  exact lv_goto hx hb hd ht (k H locs ls h1 h2 h3)
theorem sj_ifnonnullS {X : sj_X} {M : sj_M} (C : sj_C X M) {S : sj_St} {cl sl : Nat} {L : List (Option Value)} {pc : Nat} {rest : List Value} {off : Int} {a : Nat} (tgt : Nat) (ht : (pc : Int) + off = (tgt : Int)) (hd : decode M.2.1 pc = .ok (.ifnonnull off, 3)) (k : sj_G X S cl sl L tgt rest) : sj_G X S cl sl L pc (.ref a :: rest) := by
  obtain ⟨p, l, e, R, s, m, args, below, meth, c, D, cy, A, nL, Q⟩ := X
  obtain ⟨ym, cc, nL0, ret, fr, lo, mc, ms⟩ := M
  obtain ⟨hx, hb, ⟨hml, hnL⟩, hown, hts, ⟨hlk, hret, hnm⟩, hK, hAm, hA, hRR⟩ := C
  intro H locs ls h1 h2 h3
  exact lv_ifnonnull hx hb hd ht (k H locs ls h1 h2 h3)
theorem sj_ifnullS {X : sj_X} {M : sj_M} (C : sj_C X M) {S : sj_St} {cl sl : Nat} {L : List (Option Value)} {pc : Nat} {rest : List Value} {off : Int} {a : Nat} (q : Nat) (hq : pc + 3 = q) (hd : decode M.2.1 pc = .ok (.ifnull off, 3)) (k : sj_G X S cl sl L q rest) : sj_G X S cl sl L pc (.ref a :: rest) := by
  obtain ⟨p, l, e, R, s, m, args, below, meth, c, D, cy, A, nL, Q⟩ := X
  obtain ⟨ym, cc, nL0, ret, fr, lo, mc, ms⟩ := M
  obtain ⟨hx, hb, ⟨hml, hnL⟩, hown, hts, ⟨hlk, hret, hnm⟩, hK, hAm, hA, hRR⟩ := C
  subst hq
  intro H locs ls h1 h2 h3
  exact lv_ifnull hx hb hd (k H locs ls h1 h2 h3)
theorem sj_ifnonnull {X : sj_X} {M : sj_M} (C : sj_C X M) {S : sj_St} {cl sl : Nat} {L : List (Option Value)} {pc : Nat} {rest : List Value} {off : Int} {o : Option Nat} (tgt q : Nat) (hq : pc + 3 = q) (ht : (pc : Int) + off = (tgt : Int)) (hd : decode M.2.1 pc = .ok (.ifnonnull off, 3)) (kt : ∀ a, o = some a → sj_G X S cl sl L tgt rest) (kf : o = none → sj_G X S cl sl L q rest) : sj_G X S cl sl L pc (va_rf o :: rest) := by
  obtain ⟨p, l, e, R, s, m, args, below, meth, c, D, cy, A, nL, Q⟩ := X
  obtain ⟨ym, cc, nL0, ret, fr, lo, mc, ms⟩ := M
  obtain ⟨hx, hb, ⟨hml, hnL⟩, hown, hts, ⟨hlk, hret, hnm⟩, hK, hAm, hA, hRR⟩ := C
  subst hq
  intro H locs ls h1 h2 h3
  cases o with
  | some a => exact lv_ifnonnull hx hb hd ht (kt a rfl H locs ls h1 h2 h3)
  | none => exact lv_ifnonnullN hx hb hd (kf rfl H locs ls h1 h2 h3)
theorem sj_ifnull {X : sj_X} {M : sj_M} (C : sj_C X M) {S : sj_St} {cl sl : Nat} {L : List (Option Value)} {pc : Nat} {rest : List Value} {off : Int} {o : Option Nat} (tgt q : Nat) (hq : pc + 3 = q) (ht : (pc : Int) + off = (tgt : Int)) (hd : decode M.2.1 pc = .ok (.ifnull off, 3)) (kt : o = none → sj_G X S cl sl L tgt rest) (kf : ∀ a, o = some a → sj_G X S cl sl L q rest) : sj_G X S cl sl L pc (va_rf o :: rest) := by
  obtain ⟨p, l, e, R, s, m, args, below, meth, c, D, cy, A, nL, Q⟩ := X
  obtain ⟨ym, cc, nL0, ret, fr, lo, mc, ms⟩ := M
  obtain ⟨hx, hb, ⟨hml, hnL⟩, hown, hts, ⟨hlk, hret, hnm⟩, hK, hAm, hA, hRR⟩ := C
  subst hq
  intro H locs ls h1 h2 h3
  cases o with
  | some a => exact lv_ifnull hx hb hd (kf a rfl H locs ls h1 h2 h3)
  | none => exact lv_ifnullN hx hb hd ht (kt rfl H locs ls h1 h2 h3)
theorem sj_tableIn {X : sj_X} {M : sj_M} (C : sj_C X M) {S : sj_St} {cl sl : Nat} {L : List (Option Value)} {pc : Nat} {rest : List Value} {dflt lo hi : Int} {offs : Array Int} {len : Nat} {x : Int32} {off : Int} (tgt : Nat) (hd : decode M.2.1 pc = .ok (.tableswitch dflt lo hi offs, len)) (h1 : ¬ x.toInt < lo) (h2 : ¬ hi < x.toInt) (ho : offs[(x.toInt - lo).toNat]? = some off) (ht : (pc : Int) + off = (tgt : Int)) (k : sj_G X S cl sl L tgt rest) : sj_G X S cl sl L pc (.int x :: rest) := by
  obtain ⟨p, l, e, R, s, m, args, below, meth, c, D, cy, A, nL, Q⟩ := X
  obtain ⟨ym, cc, nL0, ret, fr, lo9, mc, ms⟩ := M
  obtain ⟨hx, hb, ⟨hml, hnL⟩, hown, hts, ⟨hlk, hret, hnm⟩, hK, hAm, hA, hRR⟩ := C
  intro H locs ls g1 g2 g3
  exact lv_tableIn hx hb hd h1 h2 ho ht (k H locs ls g1 g2 g3)
theorem sj_tableOut {X : sj_X} {M : sj_M} (C : sj_C X M) {S : sj_St} {cl sl : Nat} {L : List (Option Value)} {pc : Nat} {rest : List Value} {dflt lo hi : Int} {offs : Array Int} {len : Nat} {x : Int32} (tgt : Nat) (hd : decode M.2.1 pc = .ok (.tableswitch dflt lo hi offs, len)) (h : x.toInt < lo ∨ hi < x.toInt) (ht : (pc : Int) + dflt = (tgt : Int)) (k : sj_G X S cl sl L tgt rest) : sj_G X S cl sl L pc (.int x :: rest) := by
  obtain ⟨p, l, e, R, s, m, args, below, meth, c, D, cy, A, nL, Q⟩ := X
  obtain ⟨ym, cc, nL0, ret, fr, lo9, mc, ms⟩ := M
  obtain ⟨hx, hb, ⟨hml, hnL⟩, hown, hts, ⟨hlk, hret, hnm⟩, hK, hAm, hA, hRR⟩ := C
  intro H locs ls g1 g2 g3
  exact lv_tableOut hx hb hd h ht (k H locs ls g1 g2 g3)
theorem sj_lookup {X : sj_X} {M : sj_M} (C : sj_C X M) {S : sj_St} {cl sl : Nat} {L : List (Option Value)} {pc : Nat} {rest : List Value} {dflt : Int} {ps : Array (Int × Int)} {len : Nat} {x : Int32} {off : Int} (tgt : Nat) (hd : decode M.2.1 pc = .ok (.lookupswitch dflt ps, len)) (hp : (ps.toList.zip (ps.toList.drop 1)).all (fun (a, next) => a.1 < next.1) = true) (ho : Op.lookupswitch.offset ps.toList dflt x.toInt = off) (ht : (pc : Int) + off = (tgt : Int)) (k : sj_G X S cl sl L tgt rest) : sj_G X S cl sl L pc (.int x :: rest) := by
  obtain ⟨p, l, e, R, s, m, args, below, meth, c, D, cy, A, nL, Q⟩ := X
  obtain ⟨ym, cc, nL0, ret, fr, lo, mc, ms⟩ := M
  obtain ⟨hx, hb, ⟨hml, hnL⟩, hown, hts, ⟨hlk, hret, hnm⟩, hK, hAm, hA, hRR⟩ := C
  intro H locs ls g1 g2 g3
  exact lv_lookup hx hb hd hp ho ht (k H locs ls g1 g2 g3)
theorem sj_ldc2 {X : sj_X} {M : sj_M} (C : sj_C X M) {S : sj_St} {cl sl : Nat} {L : List (Option Value)} {pc : Nat} {rest : List Value} {idx : Nat} (v : Int64) (q : Nat) (hq : pc + 3 = q) (hw : Cond.constantLong M.1.cls idx v ∈ sj_GT) (hd : decode M.2.1 pc = .ok (.ldc2_w idx, 3)) (k : sj_G X S cl sl L q (.long v :: rest)) : sj_G X S cl sl L pc rest := by
  obtain ⟨p, l, e, R, s, m, args, below, meth, c, D, cy, A, nL, Q⟩ := X
  obtain ⟨ym, cc, nL0, ret, fr, lo, mc, ms⟩ := M
  obtain ⟨hx, hb, ⟨hml, hnL⟩, hown, hts, ⟨hlk, hret, hnm⟩, hK, hAm, hA, hRR⟩ := C
  subst hq
  intro H locs ls g1 g2 g3
  exact lv_ldc2 hx hb hown (hts _ hw) hd (k H locs ls g1 g2 g3)
theorem sj_ldc2d {X : sj_X} {M : sj_M} (C : sj_C X M) {S : sj_St} {cl sl : Nat} {L : List (Option Value)} {pc : Nat} {rest : List Value} {idx : Nat} (v : UInt64) (q : Nat) (hq : pc + 3 = q) (hw : Cond.constantDouble M.1.cls idx v ∈ sj_GT) (hd : decode M.2.1 pc = .ok (.ldc2_w idx, 3)) (k : sj_G X S cl sl L q (.double v :: rest)) : sj_G X S cl sl L pc rest := by
  obtain ⟨p, l, e, R, s, m, args, below, meth, c, D, cy, A, nL, Q⟩ := X
  obtain ⟨ym, cc, nL0, ret, fr, lo, mc, ms⟩ := M
  obtain ⟨hx, hb, ⟨hml, hnL⟩, hown, hts, ⟨hlk, hret, hnm⟩, hK, hAm, hA, hRR⟩ := C
  subst hq
  intro H locs ls g1 g2 g3
  exact lv_ldc2d hx hb hown (hts _ hw) hd (k H locs ls g1 g2 g3)
