/-! THE REFERENCE: works as a text -/
def sj_pS (S : sj_St) (h p : Nat) (sg f1 f2 : Int32) : sj_St := sj_wFi (sj_wFi (sj_wFi (sj_wFi S h 9 (nI p)) h 10 sg) h 11 f1) h 12 f2
theorem sj_pS_9 (S : sj_St) (h p : Nat) (sg f1 f2 : Int32) : sj_fi (sj_pS S h p sg f1 f2) h 9 = nI p := (sj_fi_wFi_k _ h _ (by omega)).trans ((sj_fi_wFi_k _ h _ (by omega)).trans ((sj_fi_wFi_k _ h _ (by omega)).trans (sj_fi_wFi S h 9 _)))
theorem sj_pS_10 (S : sj_St) (h p : Nat) (sg f1 f2 : Int32) : sj_fi (sj_pS S h p sg f1 f2) h 10 = sg := (sj_fi_wFi_k _ h _ (by omega)).trans ((sj_fi_wFi_k _ h _ (by omega)).trans (sj_fi_wFi _ h 10 _))
theorem sj_pS_11 (S : sj_St) (h p : Nat) (sg f1 f2 : Int32) : sj_fi (sj_pS S h p sg f1 f2) h 11 = f1 := (sj_fi_wFi_k _ h _ (by omega)).trans (sj_fi_wFi _ h 11 _)
theorem sj_pS_12 (S : sj_St) (h p : Nat) (sg f1 f2 : Int32) : sj_fi (sj_pS S h p sg f1 f2) h 12 = f2 := sj_fi_wFi _ h 12 _
theorem sj_pS_o (S : sj_St) (h p : Nat) (sg f1 f2 : Int32) {j : Nat} (hj : j < 9 ∨ 12 < j) : sj_fi (sj_pS S h p sg f1 f2) h j = sj_fi S h j := (sj_fi_wFi_k _ h _ (by omega)).trans ((sj_fi_wFi_k _ h _ (by omega)).trans ((sj_fi_wFi_k _ h _ (by omega)).trans (sj_fi_wFi_k S h _ (by omega))))
theorem sj_pS_w12 (S : sj_St) (h p : Nat) (sg f1 f2 v : Int32) : sj_wFi (sj_pS S h p sg f1 f2) h 12 v = sj_pS S h p sg f1 v := sj_wFi_wFi _ h 12 _ _
theorem sj_pS_w11 (S : sj_St) (h p : Nat) (sg f1 f2 v : Int32) : sj_wFi (sj_pS S h p sg f1 f2) h 11 v = sj_pS S h p sg v f2 := by
  unfold sj_pS
  rw [sj_wFi_comm _ h (by omega), sj_wFi_wFi]
theorem sj_pS_w10 (S : sj_St) (h p : Nat) (sg f1 f2 v : Int32) : sj_wFi (sj_pS S h p sg f1 f2) h 10 v = sj_pS S h p v f1 f2 := by
  unfold sj_pS
  rw [sj_wFi_comm _ h (by omega), sj_wFi_comm _ h (k := 11) (j := 10) (by omega), sj_wFi_wFi]
theorem sj_pS_w9 (S : sj_St) (h p q : Nat) (sg f1 f2 : Int32) : sj_wFi (sj_pS S h p sg f1 f2) h 9 (nI q) = sj_pS S h q sg f1 f2 := by
  unfold sj_pS
  rw [sj_wFi_comm _ h (by omega), sj_wFi_comm _ h (k := 11) (j := 9) (by omega), sj_wFi_comm _ h (k := 10) (j := 9) (by omega), sj_wFi_wFi]
theorem sj_pS_id {S : sj_St} {h p : Nat} (hp : sj_fi S h 9 = nI p) : sj_pS S h p (sj_fi S h 10) (sj_fi S h 11) (sj_fi S h 12) = S := by
  unfold sj_pS
  rw [sj_wFi_id hp, sj_wFi_id rfl, sj_wFi_id rfl, sj_wFi_id rfl]
theorem sj_pS_ps {S : sj_St} {h : Nat} {b : Nat → Nat} {n p0 : Nat} {B : Nat → Int32} (hps : sj_ps S h b n B p0) {p : Nat} (hp : p ≤ n) (sg f1 f2 : Int32) : sj_ps (sj_pS S h p sg f1 f2) h b n B p := ⟨(sj_pS_o S h p sg f1 f2 (Or.inl (by omega))).trans hps.1, hps.2.1, sj_pS_9 S h p sg f1 f2, hp, hps.2.2.2.2⟩
theorem sj_pS_mm {S : sj_St} {h : Nat} {b : Nat → Nat} {m : Nat → Int32} (hm : sj_mm S h b m) (p : Nat) (sg f1 f2 : Int32) : sj_mm (sj_pS S h p sg f1 f2) h b m := hm
abbrev sj_P5 : Type := Bool × Nat × Int32 × Option Int32 × Option Int32
def sj_p2 (B : Nat → Int32) (n : Nat) (sg r1 : Int32) (q : Nat) : sj_P5 :=
  if r1 = -1 ∨ sg = 121 ∨ sg = 100 then (decide (¬ r1 = -1), q, sg, some r1, none)
  else if sj_nx B n q = 47 then (decide (¬ (sj_rdn B n 0 7 (sj_tk B n 47 q)).1 = -1), (sj_rdn B n 0 7 (sj_tk B n 47 q)).2, sg, some r1, some (sj_rdn B n 0 7 (sj_tk B n 47 q)).1)
  else (false, sj_tk B n 47 q, sg, some r1, none)
/-- a part from p on: whether it is one, where the reading stands, its sign and its numbers -/
def sj_prt (B : Nat → Int32) (n p : Nat) : sj_P5 :=
  if sj_nx B n p = 108 ∨ sj_nx B n p = 117 ∨ sj_nx B n p = 121 ∨ sj_nx B n p = 100 then
    if sj_nx B n p = 121 then sj_p2 B n (sj_nx B n p) (sj_rdn B n 1 99 (p + 1)).1 (sj_rdn B n 1 99 (p + 1)).2
    else sj_p2 B n (sj_nx B n p) (sj_rdn B n 0 7 (p + 1)).1 (sj_rdn B n 0 7 (p + 1)).2
  else (false, p, sj_nx B n p, none, none)
theorem sj_sg_lt {B : Nat → Int32} {n p : Nat} (h : sj_nx B n p = 108 ∨ sj_nx B n p = 117 ∨ sj_nx B n p = 121 ∨ sj_nx B n p = 100) : p < n := sj_nx_lt (B := B) (fun h0 => by
  rw [h0] at h
  rcases h with h | h | h | h <;> exact absurd h (by decide))
theorem sj_rdn_ge (B : Nat → Int32) (n : Nat) (a z : Int32) (p : Nat) : p ≤ (sj_rdn B n a z p).2 := by
  unfold sj_rdn
  by_cases h : sj_wi (sj_nx B n p - 48) a 9 = false ∨ z < sj_nx B n p - 48
  · rw [if_pos h]
    exact Nat.le_refl _
  · rw [if_neg h]
    by_cases h3 : 0 < sj_nx B n p - 48 ∧ sj_wi (sj_nx B n (p + 1)) 48 57 = true ∧ 10 * (sj_nx B n p - 48) + sj_nx B n (p + 1) - 48 ≤ z
    · rw [if_pos h3]
      show p ≤ p + 2
      omega
    · rw [if_neg h3]
      show p ≤ p + 1
      omega
theorem sj_tk_ge (B : Nat → Int32) (n : Nat) (c : Int32) (p : Nat) : p ≤ sj_tk B n c p := by
  unfold sj_tk
  by_cases h : sj_nx B n p = c
  · rw [if_pos h]
    omega
  · rw [if_neg h]
    exact Nat.le_refl _
theorem sj_p2_le {B : Nat → Int32} {n : Nat} {sg r1 : Int32} {q : Nat} (hq : q ≤ n) : q ≤ (sj_p2 B n sg r1 q).2.1 ∧ (sj_p2 B n sg r1 q).2.1 ≤ n := by
  unfold sj_p2
  by_cases c1 : r1 = -1 ∨ sg = 121 ∨ sg = 100
  · rw [if_pos c1]
    exact ⟨Nat.le_refl _, hq⟩
  · rw [if_neg c1]
    have h1 : sj_tk B n 47 q ≤ n := sj_tk_le (by decide) hq
    have h2 := sj_tk_ge B n 47 q
    by_cases c2 : sj_nx B n q = 47
    · rw [if_pos c2]
      exact ⟨Nat.le_trans h2 (sj_rdn_ge B n 0 7 _), sj_rdn_le (by decide) h1⟩
    · rw [if_neg c2]
      exact ⟨h2, h1⟩
theorem sj_prt_le {B : Nat → Int32} {n p : Nat} (hp : p ≤ n) : p ≤ (sj_prt B n p).2.1 ∧ (sj_prt B n p).2.1 ≤ n ∧ ((sj_prt B n p).1 = true → p < (sj_prt B n p).2.1) := by
  unfold sj_prt
  by_cases c1 : sj_nx B n p = 108 ∨ sj_nx B n p = 117 ∨ sj_nx B n p = 121 ∨ sj_nx B n p = 100
  · have hlt := sj_sg_lt c1
    rw [if_pos c1]
    by_cases c2 : sj_nx B n p = 121
    · rw [if_pos c2]
      have h1 := sj_p2_le (B := B) (sg := sj_nx B n p) (r1 := (sj_rdn B n 1 99 (p + 1)).1) (sj_rdn_le (B := B) (a := 1) (z := 99) (p := p + 1) (by decide) hlt)
      have h2 := sj_rdn_ge B n 1 99 (p + 1)
      exact ⟨by omega, h1.2, fun _ => by omega⟩
    · rw [if_neg c2]
      have h1 := sj_p2_le (B := B) (sg := sj_nx B n p) (r1 := (sj_rdn B n 0 7 (p + 1)).1) (sj_rdn_le (B := B) (a := 0) (z := 7) (p := p + 1) (by decide) hlt)
      have h2 := sj_rdn_ge B n 0 7 (p + 1)
      exact ⟨by omega, h1.2, fun _ => by omega⟩
  · rw [if_neg c1]
    exact ⟨Nat.le_refl _, hp, fun h => by cases h⟩
def sj_pR (S : sj_St) (h : Nat) (f1 f2 : Int32) (r : sj_P5) : sj_St := sj_pS S h r.2.1 r.2.2.1 (r.2.2.2.1.getD f1) (r.2.2.2.2.getD f2)
/-- works from p on, with the numbers read last: -1 or the place of the error; the place, the sign and the numbers behind it -/
def sj_wkx (B : Nat → Int32) (n : Nat) : Nat → Nat → Int32 → Int32 → Int32 → Int32 × Nat × Int32 × Int32 × Int32
  | 0, p, sg, f1, f2 => (-1, p, sg, f1, f2)
  | j + 1, p, _, f1, f2 =>
    if (sj_prt B n p).1 = false then (nI (sj_prt B n p).2.1, (sj_prt B n p).2.1, (sj_prt B n p).2.2.1, (sj_prt B n p).2.2.2.1.getD f1, (sj_prt B n p).2.2.2.2.getD f2)
    else if (sj_prt B n p).2.1 = n then (-1, (sj_prt B n p).2.1, (sj_prt B n p).2.2.1, (sj_prt B n p).2.2.2.1.getD f1, (sj_prt B n p).2.2.2.2.getD f2)
    else if sj_nx B n (sj_prt B n p).2.1 = 59 then sj_wkx B n j (sj_tk B n 59 (sj_prt B n p).2.1) (sj_prt B n p).2.2.1 ((sj_prt B n p).2.2.2.1.getD f1) ((sj_prt B n p).2.2.2.2.getD f2)
    else (nI (sj_tk B n 59 (sj_prt B n p).2.1), sj_tk B n 59 (sj_prt B n p).2.1, (sj_prt B n p).2.2.1, (sj_prt B n p).2.2.2.1.getD f1, (sj_prt B n p).2.2.2.2.getD f2)
theorem sj_wkx_1 {B : Nat → Int32} {n j p : Nat} {sg f1 f2 : Int32} (h1 : (sj_prt B n p).1 = false) : sj_wkx B n (j + 1) p sg f1 f2 = (nI (sj_prt B n p).2.1, (sj_prt B n p).2.1, (sj_prt B n p).2.2.1, (sj_prt B n p).2.2.2.1.getD f1, (sj_prt B n p).2.2.2.2.getD f2) := if_pos h1
theorem sj_wkx_2 {B : Nat → Int32} {n j p : Nat} {sg f1 f2 : Int32} (h1 : ¬ (sj_prt B n p).1 = false) (h2 : (sj_prt B n p).2.1 = n) : sj_wkx B n (j + 1) p sg f1 f2 = (-1, (sj_prt B n p).2.1, (sj_prt B n p).2.2.1, (sj_prt B n p).2.2.2.1.getD f1, (sj_prt B n p).2.2.2.2.getD f2) := (if_neg h1).trans (if_pos h2)
theorem sj_wkx_3 {B : Nat → Int32} {n j p : Nat} {sg f1 f2 : Int32} (h1 : ¬ (sj_prt B n p).1 = false) (h2 : ¬ (sj_prt B n p).2.1 = n) (h3 : sj_nx B n (sj_prt B n p).2.1 = 59) : sj_wkx B n (j + 1) p sg f1 f2 = sj_wkx B n j (sj_tk B n 59 (sj_prt B n p).2.1) (sj_prt B n p).2.2.1 ((sj_prt B n p).2.2.2.1.getD f1) ((sj_prt B n p).2.2.2.2.getD f2) := (if_neg h1).trans ((if_neg h2).trans (if_pos h3))
theorem sj_wkx_4 {B : Nat → Int32} {n j p : Nat} {sg f1 f2 : Int32} (h1 : ¬ (sj_prt B n p).1 = false) (h2 : ¬ (sj_prt B n p).2.1 = n) (h3 : ¬ sj_nx B n (sj_prt B n p).2.1 = 59) : sj_wkx B n (j + 1) p sg f1 f2 = (nI (sj_tk B n 59 (sj_prt B n p).2.1), sj_tk B n 59 (sj_prt B n p).2.1, (sj_prt B n p).2.2.1, (sj_prt B n p).2.2.2.1.getD f1, (sj_prt B n p).2.2.2.2.getD f2) := (if_neg h1).trans ((if_neg h2).trans (if_neg h3))
def sj_wkt (B : Nat → Int32) (n : Nat) (sg f1 f2 : Int32) : Int32 × Nat × Int32 × Int32 × Int32 := sj_wkx B n (n + 1) 0 sg f1 f2
def sj_pW (S : sj_St) (h : Nat) (r : Int32 × Nat × Int32 × Int32 × Int32) : sj_St := sj_pS S h r.2.1 r.2.2.1 r.2.2.2.1 r.2.2.2.2
theorem sj_pS_id0 (S : sj_St) (h : Nat) : sj_pS S h 0 (sj_fi S h 10) (sj_fi S h 11) (sj_fi S h 12) = sj_wFi S h 9 0 := by
  have e := sj_pS_id (S := sj_wFi S h 9 0) (h := h) (p := 0) (sj_fi_wFi S h 9 _)
  rw [sj_fi_wFi_k S h _ (by omega), sj_fi_wFi_k S h _ (by omega), sj_fi_wFi_k S h _ (by omega)] at e
  unfold sj_pS at e ⊢
  rw [sj_wFi_wFi] at e
  exact e
theorem sj_ps_0 {S : sj_St} {h : Nat} {b : Nat → Nat} {n p : Nat} {B : Nat → Int32} {v : Int32} (hps : sj_ps S h b n B p) : sj_ps (sj_wFi S h 0 v) h b n B p := ⟨(sj_fi_wFi_k S h _ (by omega)).trans hps.1, hps.2.1, (sj_fi_wFi_k S h _ (by omega)).trans hps.2.2.1, hps.2.2.2⟩
