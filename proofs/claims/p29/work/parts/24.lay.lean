/-! THE REFERENCE: laying a sheet; a likeness behind some years -/
def sj_ly1 (m : Nat → Int32) (ns : Nat) (age : Int32) (k : Nat) : Nat → Int32 := upd (upd m (98 + 42 * ns) age) (98 + 42 * ns + 1) (nI k)
def sj_lyf (k : Nat) (f : Nat → Int32) : Nat → Int32 := fun j => if j < 5 * k then f j else 0
def sj_ly2 (m : Nat → Int32) (ns : Nat) (age : Int32) (k : Nat) (f : Nat → Int32) (j : Nat) : Nat → Int32 := sj_cpo (98 + 42 * ns + 2) j (sj_lyf k f) (sj_ly1 m ns age k)
def sj_lay (m : Nat → Int32) (ns : Nat) (age : Int32) (k : Nat) (f : Nat → Int32) : Nat → Int32 := upd (sj_ly2 m ns age k f 40) 9 (nI (ns + 1))
theorem sj_ly2_9 (m : Nat → Int32) (ns : Nat) (age : Int32) (k : Nat) (f : Nat → Int32) (j : Nat) : sj_ly2 m ns age k f j 9 = m 9 := by
  unfold sj_ly2 sj_cpo sj_ly1
  rw [if_neg (by omega), sj_upd_ne _ _ (by omega), sj_upd_ne _ _ (by omega)]
theorem sj_shx_k8 (B : Nat → Int32) (n : Nat) : ∀ (j k p : Nat) (f : Nat → Int32), k + j ≤ 8 → (sj_shx B n j k p f).2.2.1 ≤ 8
  | 0, k, p, f, h => by
    show k ≤ 8
    omega
  | j + 1, k, p, f, h => by
    have hk2 : sj_k2 (sj_rst B n p) k ≤ k + 1 := by
      unfold sj_k2
      split <;> omega
    by_cases h1 : (sj_rst B n p).1 = false
    · rw [sj_shx_1 h1]
      show sj_k2 _ _ ≤ 8
      omega
    · by_cases h2 : (sj_rst B n p).2.1 = n
      · rw [sj_shx_2 h1 h2]
        show k + 1 ≤ 8
        omega
      · by_cases h3 : k + 1 = 8
        · rw [sj_shx_3 h1 h2 h3]
          show k + 1 ≤ 8
          omega
        · by_cases h4 : sj_nx B n (sj_rst B n p).2.1 = 44
          · rw [sj_shx_4 h1 h2 h3 h4]
            exact sj_shx_k8 B n j (k + 1) _ _ (by omega)
          · rw [sj_shx_5 h1 h2 h3 h4]
            show k + 1 ≤ 8
            omega
/-- where the reading of a sheet's text ends -/
def sj_lyT (S : sj_St) (h : Nat) (b : Nat → Nat) (r : Int32 × Nat × Nat × (Nat → Int32)) : sj_St := sj_tS (sj_wFi S h 0 0) h b r.2.1 r.2.2.1 r.2.2.2
def sj_lyU (S : sj_St) (h : Nat) (b : Nat → Nat) (q : Nat) (m : Nat → Int32) (r : Int32 × Nat × Nat × (Nat → Int32)) : sj_St := sj_wFi (sj_sIa (sj_lyT S h b r) (b 3) (sj_sv q m (sj_ia (sj_lyT S h b r) (b 3)))) h 4 (nI (sj_qn q + 1))
theorem sj_lyU_mm {S : sj_St} {h : Nat} {b : Nat → Nat} {m : Nat → Int32} (hm : sj_mm S h b m) (q : Nat) (r : Int32 × Nat × Nat × (Nat → Int32)) : sj_mm (sj_lyU S h b q m r) h b m := ⟨hm.1, (sj_ia_sIa_ne (sj_lyT S h b r) _ (sj_mo_ne hm.1 (i := 1) (j := 3) (by omega) (by omega) (by omega))).trans (sj_tS_mm (sj_mm_f hm h 0 0) _ _ _).2⟩
