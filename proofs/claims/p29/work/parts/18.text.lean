/-! THE REFERENCE: texts -/
def sj_ps (S : sj_St) (h : Nat) (b : Nat → Nat) (n : Nat) (B : Nat → Int32) (p : Nat) : Prop := sj_fi S h 8 = nI n ∧ n ≤ 60 ∧ sj_fi S h 9 = nI p ∧ p ≤ n ∧ sj_ia S (b 7) = B
def sj_nx (B : Nat → Int32) (n p : Nat) : Int32 := if p < n then B p else 0
def sj_tk (B : Nat → Int32) (n : Nat) (c : Int32) (p : Nat) : Nat := if sj_nx B n p = c then p + 1 else p
def sj_rdn (B : Nat → Int32) (n : Nat) (a z : Int32) (p : Nat) : Int32 × Nat :=
  if sj_wi (sj_nx B n p - 48) a 9 = false ∨ z < sj_nx B n p - 48 then (-1, p)
  else if 0 < sj_nx B n p - 48 ∧ sj_wi (sj_nx B n (p + 1)) 48 57 = true ∧ 10 * (sj_nx B n p - 48) + sj_nx B n (p + 1) - 48 ≤ z then (10 * (sj_nx B n p - 48) + sj_nx B n (p + 1) - 48, p + 2)
  else (sj_nx B n p - 48, p + 1)
theorem sj_nx_lt {B : Nat → Int32} {n p : Nat} (h : ¬ sj_nx B n p = 0) : p < n := Nat.not_le.mp fun h1 => h (if_neg (Nat.not_lt.mpr h1))
theorem sj_tk_le {B : Nat → Int32} {n p : Nat} {c : Int32} (hc : ¬ c = 0) (hp : p ≤ n) : sj_tk B n c p ≤ n := by
  unfold sj_tk
  by_cases h : sj_nx B n p = c
  · rw [if_pos h]
    exact sj_nx_lt (by rw [h]; exact hc)
  · rw [if_neg h]
    exact hp
theorem sj_nx_dig {B : Nat → Int32} {n p : Nat} {a : Int32} (ha : 0 ≤ a) (h : sj_wi (sj_nx B n p - 48) a 9 = true) : p < n := by
  refine sj_nx_lt (B := B) (fun h0 => ?_)
  rw [h0] at h
  have h1 := (sj_wi_iff.mp h).1
  exact absurd (Int32.le_trans ha h1) (by decide)
theorem sj_rdn_le {B : Nat → Int32} {n p : Nat} {a z : Int32} (ha : 0 ≤ a) (hp : p ≤ n) : (sj_rdn B n a z p).2 ≤ n := by
  unfold sj_rdn
  by_cases h : sj_wi (sj_nx B n p - 48) a 9 = false ∨ z < sj_nx B n p - 48
  · rw [if_pos h]
    exact hp
  · rw [if_neg h]
    have h1 : p < n := sj_nx_dig ha (by
      cases h2 : sj_wi (sj_nx B n p - 48) a 9 with
      | true => rfl
      | false => exact absurd (Or.inl h2) h)
    by_cases h3 : 0 < sj_nx B n p - 48 ∧ sj_wi (sj_nx B n (p + 1)) 48 57 = true ∧ 10 * (sj_nx B n p - 48) + sj_nx B n (p + 1) - 48 ≤ z
    · rw [if_pos h3]
      have h4 : p + 1 < n := sj_nx_lt (B := B) (fun h0 => by
        have h5 := h3.2.1
        rw [h0] at h5
        exact absurd h5 (by decide))
      exact h4
    · rw [if_neg h3]
      exact h1
theorem sj_wFi_id {S : sj_St} {a k : Nat} {v : Int32} (h : sj_fi S a k = v) : sj_wFi S a k v = S := by
  subst h
  unfold sj_wFi sj_fi
  rw [sj_up_id, sj_up_id]
theorem sj_ps_f {S : sj_St} {h : Nat} {b : Nat → Nat} {n : Nat} {B : Nat → Int32} {p q : Nat} (hp : sj_ps S h b n B p) (hq : q ≤ n) : sj_ps (sj_wFi S h 9 (nI q)) h b n B q := ⟨(sj_fi_wFi_k S h _ (by omega)).trans hp.1, hp.2.1, sj_fi_wFi S h 9 _, hq, hp.2.2.2.2⟩
