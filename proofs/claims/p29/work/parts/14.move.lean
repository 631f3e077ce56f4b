/-! THE REFERENCE: what changes its rows -/
theorem sj_wFi_wFi (S : sj_St) (a k : Nat) (u v : Int32) : sj_wFi (sj_wFi S a k u) a k v = sj_wFi S a k v := by
  unfold sj_wFi
  dsimp only
  rw [sj_up_self, sj_up_up, sj_up_up]
theorem sj_sIa_wFi (S : sj_St) (a k : Nat) (v : Int32) (c : Nat) (g : Nat → Int32) : sj_sIa (sj_wFi S a k v) c g = sj_wFi (sj_sIa S c g) a k v := rfl
theorem sj_fi_wFi (S : sj_St) (a k : Nat) (v : Int32) : sj_fi (sj_wFi S a k v) a k = v := by
  show (sj_up _ a _ : Nat → Nat → Int32) a k = v
  rw [sj_up_self, sj_up_self]
theorem sj_fi_wFi_k (S : sj_St) (a : Nat) {k j : Nat} (v : Int32) (h : j ≠ k) : sj_fi (sj_wFi S a k v) a j = sj_fi S a j := by
  show (sj_up _ a _ : Nat → Nat → Int32) a j = _
  rw [sj_up_self, sj_up_ne _ _ h]
  rfl
theorem sj_fi_wFi_a (S : sj_St) {a c : Nat} (k j : Nat) (v : Int32) (h : c ≠ a) : sj_fi (sj_wFi S a k v) c j = sj_fi S c j := by
  show (sj_up _ a _ : Nat → Nat → Int32) c j = _
  rw [sj_up_ne _ _ h]
  rfl
/-- from base on, k places of f, the rest of g -/
def sj_cpo (base k : Nat) (f g : Nat → Int32) : Nat → Int32 := fun j => if base ≤ j ∧ j < base + k then f (j - base) else g j
theorem sj_cpo_0 (base : Nat) (f g : Nat → Int32) : sj_cpo base 0 f g = g := by
  funext j
  exact if_neg (by omega)
theorem sj_cpo_s (base k : Nat) (f g : Nat → Int32) : upd (sj_cpo base k f g) (base + k) (f k) = sj_cpo base (k + 1) f g := by
  funext j
  unfold upd sj_cpo
  by_cases h : j = base + k
  · subst h
    rw [if_pos rfl, if_pos ⟨by omega, by omega⟩, Nat.add_sub_cancel_left]
  · rw [if_neg h]
    by_cases h2 : base ≤ j ∧ j < base + k
    · rw [if_pos h2, if_pos ⟨h2.1, by omega⟩]
    · rw [if_neg h2, if_neg (fun h3 => h2 ⟨h3.1, by omega⟩)]
/-- the first k places d further -/
def sj_sh (d k : Nat) (f : Nat → Int32) : Nat → Int32 := fun j => if j < k then f (j + d) else f j
theorem sj_sh_0 (d : Nat) (f : Nat → Int32) : sj_sh d 0 f = f := by
  funext j
  exact if_neg (by omega)
theorem sj_sh_s (d k : Nat) (hd : 0 < d) (f : Nat → Int32) : upd (sj_sh d k f) k (sj_sh d k f (k + d)) = sj_sh d (k + 1) f := by
  have e : sj_sh d k f (k + d) = f (k + d) := if_neg (by omega)
  rw [e]
  funext j
  unfold upd sj_sh
  by_cases h : j = k
  · subst h
    rw [if_pos rfl, if_pos (by omega)]
  · rw [if_neg h]
    by_cases h2 : j < k
    · rw [if_pos h2, if_pos (by omega)]
    · rw [if_neg h2, if_neg (by omega)]
def sj_qn (q : Nat) : Nat := if q = 6 then 5 else q
/-- the saved states, with one more -/
def sj_sv (q : Nat) (m f : Nat → Int32) : Nat → Int32 := sj_cpo (434 * sj_qn q) 434 m (if q = 6 then sj_sh 434 2170 f else f)
