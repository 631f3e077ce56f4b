/-! readings stay inside -/
theorem sj_rdn_in {B : Nat → Int32} {n : Nat} {a z : Int32} {p : Nat} (h0 : 0 ≤ a) (hz : 0 ≤ z) (hz2 : z ≤ 99) (h : ¬ (sj_rdn B n a z p).1 = -1) : a ≤ (sj_rdn B n a z p).1 ∧ (sj_rdn B n a z p).1 ≤ z := by
  unfold sj_rdn at h ⊢
  by_cases h1 : sj_wi (sj_nx B n p - 48) a 9 = false ∨ z < sj_nx B n p - 48
  · rw [if_pos h1] at h
    exact absurd rfl h
  · rw [if_neg h1]
    have h2 : sj_wi (sj_nx B n p - 48) a 9 = true := by
      cases h8 : sj_wi (sj_nx B n p - 48) a 9 with
      | true => rfl
      | false => exact absurd (Or.inl h8) h1
    obtain ⟨h3, h4⟩ := sj_wi_iff.mp h2
    have h5 : sj_nx B n p - 48 ≤ z := sj_nlt.mp (fun h8 => h1 (Or.inr h8))
    by_cases h6 : 0 < sj_nx B n p - 48 ∧ sj_wi (sj_nx B n (p + 1)) 48 57 = true ∧ 10 * (sj_nx B n p - 48) + sj_nx B n (p + 1) - 48 ≤ z
    · rw [if_pos h6]
      refine ⟨?_, h6.2.2⟩
      generalize sj_nx B n p - 48 = u at *
      obtain ⟨h7, h8⟩ := sj_wi_iff.mp h6.2.1
      generalize sj_nx B n (p + 1) = v at *
      have hu1 := sj_ltT.mp h6.1
      have hu2 := sj_leT.mp h4
      have hv1 := sj_leT.mp h7
      have hv2 := sj_leT.mp h8
      have ha := sj_leT.mp h3
      rw [show (0 : Int32).toInt = 0 from rfl] at hu1
      rw [show (9 : Int32).toInt = 9 from rfl] at hu2
      rw [show (48 : Int32).toInt = 48 from rfl] at hv1
      rw [show (57 : Int32).toInt = 57 from rfl] at hv2
      have e1 : (10 * u).toInt = 10 * u.toInt := sj_ti_mul (c := 10 * u.toInt) rfl (by omega) (by omega)
      have e2 : (10 * u + v).toInt = 10 * u.toInt + v.toInt := by
        rw [sj_ti_add (by omega) (by omega) (by omega) (by omega), e1]
      have e3 : (10 * u + v - 48).toInt = 10 * u.toInt + v.toInt - 48 := by
        rw [sj_ti_sub (by omega) (by omega) (by decide) (by decide), e2]
        rfl
      apply sj_leT.mpr
      show a.toInt ≤ (10 * u + v - 48).toInt
      rw [e3]
      omega
    · rw [if_neg h6]
      exact ⟨h3, h5⟩
