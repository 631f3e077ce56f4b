/-! THE REFERENCE: the hands -/
def sj_tn (x : Int32) : Nat := x.toNatClampNeg
def sj_jn (n : Nat) (f : Nat → Int32) (a c : Int32) : Nat → Int32 := fun k => if k < n ∧ (f k = a ∨ f k = c) then (if a < c then a else c) else f k
/-- the hands behind the first k oaths, but oath w -/
def sj_hnd (m : Nat → Int32) (w : Int32) : Nat → Nat → Int32
  | 0 => nI
  | k + 1 => if ¬ nI k = w ∧ sj_oa m k 2 = 1 then sj_jn (sj_tn (m 9)) (sj_hnd m w k) (sj_hnd m w k (sj_tn (sj_oa m k 0))) (sj_hnd m w k (sj_tn (sj_oa m k 1))) else sj_hnd m w k
/-- the numbers of sheets and oaths as they may be, and the oaths' ends -/
def sj_oav (m : Nat → Int32) : Prop := (m 9 = nI (sj_tn (m 9)) ∧ sj_tn (m 9) ≤ 8) ∧ (m 10 = nI (sj_tn (m 10)) ∧ sj_tn (m 10) ≤ 28) ∧ ∀ k, k < sj_tn (m 10) → (sj_oa m k 0 = nI (sj_tn (sj_oa m k 0)) ∧ sj_tn (sj_oa m k 0) < sj_tn (m 9)) ∧ (sj_oa m k 1 = nI (sj_tn (sj_oa m k 1)) ∧ sj_tn (sj_oa m k 1) < sj_tn (m 9)) ∧ (sj_oa m k 2 = 0 ∨ sj_oa m k 2 = 1)
def sj_hH (m : Nat → Int32) (w : Int32) : Nat → Int32 := sj_hnd m w (sj_tn (m 10))
def sj_scr (r : Option Value) (S : sj_St) (b : Nat → Nat) : Option Value → sj_St → Prop := fun v S' => v = r ∧ ∃ g, S' = sj_sIa S (b 15) g
theorem sj_jn_0 (f : Nat → Int32) (a c : Int32) : sj_jn 0 f a c = f := by
  funext j
  exact if_neg (by omega)
theorem sj_jn_k (k : Nat) (f : Nat → Int32) (a c : Int32) : sj_jn k f a c k = f k := if_neg (by omega)
theorem sj_jn_s {k : Nat} {f : Nat → Int32} {a c v : Int32} (hv : v = if f k = a ∨ f k = c then (if a < c then a else c) else f k) : upd (sj_jn k f a c) k v = sj_jn (k + 1) f a c := by
  subst hv
  funext j
  unfold upd sj_jn
  by_cases h : j = k
  · subst h
    rw [if_pos rfl]
    by_cases h2 : f j = a ∨ f j = c
    · rw [if_pos h2, if_pos (show j < j + 1 ∧ (f j = a ∨ f j = c) from ⟨by omega, h2⟩)]
    · rw [if_neg h2, if_neg (fun h3 => h2 h3.2)]
  · rw [if_neg h]
    by_cases h2 : j < k ∧ (f j = a ∨ f j = c)
    · rw [if_pos h2, if_pos (show j < k + 1 ∧ (f j = a ∨ f j = c) from ⟨by omega, h2.2⟩)]
    · rw [if_neg h2, if_neg (fun h3 => h2 ⟨by omega, h3.2⟩)]
theorem sj_jn_cp {n p q : Nat} (hn : n ≤ 8) (hp : p < 8) (hq : q < 8) (H f : Nat → Int32) : sj_jn n (sj_cp 8 H f) (sj_cp 8 H f p) (sj_cp 8 H f q) = sj_cp 8 (sj_jn n H (H p) (H q)) f := by
  have e1 : sj_cp 8 H f p = H p := if_pos hp
  have e2 : sj_cp 8 H f q = H q := if_pos hq
  rw [e1, e2]
  funext j
  by_cases h : j < 8
  · have e3 : sj_cp 8 H f j = H j := if_pos h
    have e4 : sj_cp 8 (sj_jn n H (H p) (H q)) f j = sj_jn n H (H p) (H q) j := if_pos h
    rw [e4]
    unfold sj_jn
    rw [e3]
  · have e3 : sj_cp 8 H f j = f j := if_neg h
    have e4 : sj_cp 8 (sj_jn n H (H p) (H q)) f j = f j := if_neg h
    rw [e4]
    unfold sj_jn
    rw [e3]
    exact if_neg (by omega)
theorem sj_cp_cp (n : Nat) (H G f : Nat → Int32) : sj_cp n H (sj_cp n G f) = sj_cp n H f := by
  funext j
  unfold sj_cp
  by_cases h : j < n
  · rw [if_pos h, if_pos h]
  · rw [if_neg h, if_neg h, if_neg h]
theorem sj_mo_ne {S : sj_St} {h : Nat} {b : Nat → Nat} (hm : sj_mo S h b) {i j : Nat} (hi : i < 16) (hj : j < 16) (hij : i ≠ j) : b i ≠ b j := fun e => hij (hm.2.2.2.2.2.2.2.2 i j hi hj e)
theorem sj_mm_15 {S : sj_St} {h : Nat} {b : Nat → Nat} {m : Nat → Int32} (hm : sj_mm S h b m) (g : Nat → Int32) : sj_mm (sj_sIa S (b 15) g) h b m := ⟨hm.1, (sj_ia_sIa_ne S g (sj_mo_ne hm.1 (by omega) (by omega) (by omega))).trans hm.2⟩
