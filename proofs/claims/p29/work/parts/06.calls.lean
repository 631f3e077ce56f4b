/-! calls whose answers a relation tells, and that make nothing -/
theorem sj_callVp {X : sj_X} {M N : sj_M} (C : sj_C X M) {S : sj_St} {cl sl : Nat} {L : List (Option Value)} {pc idx n : Nat} {b : Nat} {As st rest : List Value} {Post : Option Value → sj_St → Prop} (q : Nat) (hq : pc + 3 = q) (hd : decode M.2.1 pc = .ok (.invokevirtual idx, 3)) (hV : sj_V M.1.cls idx N n) (hfit : sj_fit M N cl sl = true) (hM : sj_Ctr X.2.1 N (.ref b :: As) S Post) (hst : st = As.reverse ++ .ref b :: rest) (hn : As.length = n) (hcat : Nat.ble (rest.map fun v => v.category).sum 8 = true) (hb8 : sj_is S b N.1.cls) (h00 : N.2.2.2.2.2.2.1 = 0 ∧ N.2.2.2.2.2.2.2 = 0) (kk : ∀ (v : Option Value) (S' : sj_St), Post v S' → sj_G X S' cl sl L q (v.toList ++ rest)) : sj_G X S cl sl L pc st := by
  refine sj_callV C q hq hd hV hfit hM hst hn hcat hb8 (fun v S' hp => ?_)
  rw [h00.1, h00.2]
  exact kk v S' hp
theorem sj_callVNp {X : sj_X} {M N : sj_M} (C : sj_C X M) {S : sj_St} {cl sl : Nat} {L : List (Option Value)} {pc idx n : Nat} {b : Nat} {As st rest : List Value} {Post : Option Value → sj_St → Prop} (q : Nat) (hq : pc + 3 = q) (hd : decode M.2.1 pc = .ok (.invokevirtual idx, 3)) (hV : sj_Vn M.1.cls idx N n) (hfit : sj_fit M N cl sl = true) (hM : sj_Ctr X.2.1 N (.ref b :: As) S Post) (hst : st = As.reverse ++ .ref b :: rest) (hn : As.length = n) (hcat : Nat.ble (rest.map fun v => v.category).sum 8 = true) (hb8 : sj_is S b N.1.cls) (h00 : N.2.2.2.2.2.2.1 = 0 ∧ N.2.2.2.2.2.2.2 = 0) (kk : ∀ (v : Option Value) (S' : sj_St), Post v S' → sj_G X S' cl sl L q (v.toList ++ rest)) : sj_G X S cl sl L pc st := by
  refine sj_callVN C q hq hd hV hfit hM hst hn hcat hb8 (fun v S' hp => ?_)
  rw [h00.1, h00.2]
  exact kk v S' hp
theorem sj_callSp {X : sj_X} {M N : sj_M} (C : sj_C X M) {S : sj_St} {cl sl : Nat} {L : List (Option Value)} {pc idx n : Nat} {As st rest : List Value} {Post : Option Value → sj_St → Prop} (q : Nat) (hq : pc + 3 = q) (hd : decode M.2.1 pc = .ok (.invokestatic idx, 3)) (hV : sj_Vs M.1.cls idx N n) (hfit : sj_fit M N cl sl = true) (hM : sj_Ctr X.2.1 N (As) S Post) (hst : st = As.reverse ++ rest) (hn : As.length = n) (hcat : Nat.ble (rest.map fun v => v.category).sum 8 = true) (h00 : N.2.2.2.2.2.2.1 = 0 ∧ N.2.2.2.2.2.2.2 = 0) (kk : ∀ (v : Option Value) (S' : sj_St), Post v S' → sj_G X S' cl sl L q (v.toList ++ rest)) : sj_G X S cl sl L pc st := by
  refine sj_callS C q hq hd hV hfit hM hst hn hcat (fun v S' hp => ?_)
  rw [h00.1, h00.2]
  exact kk v S' hp
theorem sj_callSNp {X : sj_X} {M N : sj_M} (C : sj_C X M) {S : sj_St} {cl sl : Nat} {L : List (Option Value)} {pc idx n : Nat} {As st rest : List Value} {Post : Option Value → sj_St → Prop} (q : Nat) (hq : pc + 3 = q) (hd : decode M.2.1 pc = .ok (.invokestatic idx, 3)) (hV : sj_Vsn M.1.cls idx N n) (hfit : sj_fit M N cl sl = true) (hM : sj_Ctr X.2.1 N (As) S Post) (hst : st = As.reverse ++ rest) (hn : As.length = n) (hcat : Nat.ble (rest.map fun v => v.category).sum 8 = true) (h00 : N.2.2.2.2.2.2.1 = 0 ∧ N.2.2.2.2.2.2.2 = 0) (kk : ∀ (v : Option Value) (S' : sj_St), Post v S' → sj_G X S' cl sl L q (v.toList ++ rest)) : sj_G X S cl sl L pc st := by
  refine sj_callSN C q hq hd hV hfit hM hst hn hcat (fun v S' hp => ?_)
  rw [h00.1, h00.2]
  exact kk v S' hp
