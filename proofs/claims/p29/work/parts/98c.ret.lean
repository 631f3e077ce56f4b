/-! THE LAW'S END -/
/-- the law's own end -/
def sj_RL (X : sj_X) (b : Nat) : Prop := match X with
  | (_, _, _, R, s, _, args, below, meth, _, _, _, A, _, Q) => R = room_1 ∧ args = #[Value.ref b] ∧ Q = lw_Z below #[Value.ref b] s ∧ meth.locks = false ∧ meth.sig.returnType = ret ∧ ∀ q, A q → s.heap.size ≤ q
theorem sj_lret_law {X : sj_X} {nm : String} (C : sj_C X (mL_law nm)) {b : Nat} (hR : sj_RL X b) {S : sj_St} {cl sl : Nat} {L : List (Option Value)} {pc : Nat} (hc : cl ≤ 677992) (hs : sl ≤ 7067491) (hd : decode cL_law pc = .ok (.ireturn, 1)) : sj_G X S cl sl L pc [.int 1] := by
  obtain ⟨p, l, e, R, s, m, args, below, meth, c, D, cy, A, nL, Q⟩ := X
  obtain ⟨hx, hb, ⟨hml, hnL⟩, hown, hts, ⟨hlk, hret, hnm⟩, hK, hAm, hA, hRR⟩ := C
  obtain ⟨rfl, rfl, rfl, hlk2, hret2, hAA⟩ := hR
  intro H locs ls h1 h2 h3
  refine va_forget (fun q hq => hAA _ (h2.2.2 q hq)) ?_
  refine W.widen (k := 677992) (n := 7067491) hc hs ?_
  refine W.base ?_
  exact lw_ret (Drawn.sameBut.refl s.drawn lw_cs) hx hb hret2 hlk2 hd
