/-! THE REFERENCE: ages, oaths, undo and the snapshot -/
theorem sj_only16 : ∀ i t, (sj_tyl 7)[i]? = some t → i ≠ 16 → t < 2 := by
  intro i t h hne
  have hi : i < 17 := (List.getElem?_eq_some_iff.mp h).1
  have key : ∀ i, i < 17 → i ≠ 16 → (sj_tyl 7).getD i 0 < 2 := by decide
  have e : (sj_tyl 7).getD i 0 = t := by rw [List.getD_eq_getElem?_getD, h]; rfl
  rw [← e]
  exact key i hi hne
theorem sj_mm_1 {S : sj_St} {h : Nat} {b : Nat → Nat} {m : Nat → Int32} (hm : sj_mm S h b m) (g : Nat → Int32) : sj_mm (sj_sIa S (b 1) g) h b g := ⟨hm.1, sj_ia_sIa _ _ _⟩
theorem sj_mm_f {S : sj_St} {h : Nat} {b : Nat → Nat} {m : Nat → Int32} (hm : sj_mm S h b m) (a k : Nat) (v : Int32) : sj_mm (sj_wFi S a k v) h b m := hm
theorem sj_upd_self (f : Nat → Int32) (k : Nat) (v : Int32) : upd f k v k = v := if_pos rfl
theorem sj_upd_ne (f : Nat → Int32) {k j : Nat} (v : Int32) (h : j ≠ k) : upd f k v j = f j := if_neg h
def sj_age (m : Nat → Int32) (y : Int32) (k : Nat) : Int32 := if 99 < sj_of m k 0 + y then 99 else sj_of m k 0 + y
def sj_pas (m : Nat → Int32) (y : Int32) : Nat → Nat → Int32
  | 0 => m
  | k + 1 => upd (sj_pas m y k) (98 + 42 * k) (sj_age m y k)
def sj_old (m : Nat → Int32) (y : Int32) : Nat → Int32
  | 0 => -1
  | k + 1 => if sj_old m y k < sj_age m y k then sj_age m y k else sj_old m y k
theorem sj_pas_lo (m : Nat → Int32) (y : Int32) {j : Nat} (hj : j < 98) : ∀ k, sj_pas m y k j = m j
  | 0 => rfl
  | k + 1 => (sj_upd_ne _ _ (by omega)).trans (sj_pas_lo m y hj k)
theorem sj_pas_hi (m : Nat → Int32) (y : Int32) {j : Nat} : ∀ k, 98 + 42 * k ≤ j → sj_pas m y k j = m j
  | 0, _ => rfl
  | k + 1, h => (sj_upd_ne _ _ (by omega)).trans (sj_pas_hi m y k (by omega))
theorem sj_i98z (k : Nat) : (98 : Int32) + 42 * nI k + 0 = nI (98 + 42 * k) := by
  rw [show (98 : Int32) = nI 98 from rfl, show (42 : Int32) = nI 42 from rfl, sj_nmul, nI_add, Int32.add_zero]
theorem sj_i14z (k : Nat) : (14 : Int32) + 3 * nI k = nI (14 + 3 * k) := by
  rw [show (14 : Int32) = nI 14 from rfl, show (3 : Int32) = nI 3 from rfl, sj_nmul, nI_add]
theorem sj_i98y (k : Nat) : (98 : Int32) + 42 * nI k = nI (98 + 42 * k) := by
  rw [show (98 : Int32) = nI 98 from rfl, show (42 : Int32) = nI 42 from rfl, sj_nmul, nI_add]
/-- an oath is dropped: the number of oaths, and the numbers behind its place up to j, three down -/
def sj_dj (m : Nat → Int32) (n k j : Nat) : Nat → Int32 := fun i => if i = 10 then nI n else if 14 + 3 * k ≤ i ∧ i < j then m (i + 3) else m i
def sj_dO (m : Nat → Int32) (k : Nat) : Nat → Int32 := sj_dj m (sj_tn (m 10) - 1) k (14 + 3 * (sj_tn (m 10) - 1))
theorem sj_dj_0 (m : Nat → Int32) (n k : Nat) : sj_dj m n k (14 + 3 * k) = upd m 10 (nI n) := by
  funext i
  unfold sj_dj upd
  by_cases h : i = 10
  · rw [if_pos h, if_pos h]
  · rw [if_neg h, if_neg h, if_neg (by omega)]
theorem sj_dj_3 (m : Nat → Int32) (n k j : Nat) (h : 14 + 3 * k ≤ j) : sj_dj m n k j (j + 3) = m (j + 3) := by
  unfold sj_dj
  rw [if_neg (by omega), if_neg (by omega)]
theorem sj_dj_s (m : Nat → Int32) (n k j : Nat) (h : 14 + 3 * k ≤ j) : upd (sj_dj m n k j) j (m (j + 3)) = sj_dj m n k (j + 1) := by
  funext i
  unfold upd sj_dj
  by_cases h1 : i = j
  · subst h1
    rw [if_pos rfl, if_neg (by omega), if_pos ⟨h, by omega⟩]
  · rw [if_neg h1]
    by_cases h2 : i = 10
    · rw [if_pos h2, if_pos h2]
    · rw [if_neg h2, if_neg h2]
      by_cases h3 : 14 + 3 * k ≤ i ∧ i < j
      · rw [if_pos h3, if_pos ⟨h3.1, by omega⟩]
      · rw [if_neg h3, if_neg (fun h4 => h3 ⟨h4.1, by omega⟩)]
def sj_sw1 (m : Nat → Int32) (i e : Nat) (like : Bool) : Nat → Int32 := upd (upd (upd m (14 + 3 * sj_tn (m 10)) (nI i)) (14 + 3 * sj_tn (m 10) + 1) (nI e)) (14 + 3 * sj_tn (m 10) + 2) (sj_bi like)
def sj_sw2 (f : Nat → Int32) : Nat → Int32 := upd f 10 (f 10 + 1)
def sj_sw (m : Nat → Int32) (i e : Nat) (like : Bool) : Nat → Int32 := upd (sj_sw2 (sj_sw1 m i e like)) 11 (sj_sw2 (sj_sw1 m i e like) 11 + 1)
