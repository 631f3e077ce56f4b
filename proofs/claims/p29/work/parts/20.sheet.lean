/-! THE REFERENCE: a sheet as a text -/
theorem sj_wFi_comm (S : sj_St) (a : Nat) {k j : Nat} (h : k ≠ j) (u v : Int32) : sj_wFi (sj_wFi S a k u) a j v = sj_wFi (sj_wFi S a j v) a k u := by
  unfold sj_wFi
  dsimp only
  rw [sj_up_self, sj_up_self, sj_up_up, sj_up_up, sj_up_comm _ h]
theorem sj_sIa_ne (S : sj_St) {a c : Nat} (h : a ≠ c) (f g : Nat → Int32) : sj_sIa (sj_sIa S a f) c g = sj_sIa (sj_sIa S c g) a f := by
  unfold sj_sIa
  dsimp only
  rw [sj_up_comm _ h]
/-- where a sheet's text stands: the place, the strokes so far, what is noted of them -/
def sj_tS (S : sj_St) (h : Nat) (b : Nat → Nat) (p k : Nat) (f : Nat → Int32) : sj_St := sj_wFi (sj_sIa (sj_wFi S h 9 (nI p)) (b 13) f) h 14 (nI k)
def sj_k2 (r : Bool × Nat × Option sj_W5) (k : Nat) : Nat := match r.2.2 with
  | none => k
  | some _ => k + 1
def sj_f2 (r : Bool × Nat × Option sj_W5) (k : Nat) (f : Nat → Int32) : Nat → Int32 := match r.2.2 with
  | none => f
  | some w => sj_wst f k w
theorem sj_tS_9 (S : sj_St) (h : Nat) (b : Nat → Nat) (p k : Nat) (f : Nat → Int32) : sj_fi (sj_tS S h b p k f) h 9 = nI p := (sj_fi_wFi_k _ h _ (by omega)).trans (sj_fi_wFi S h 9 _)
theorem sj_tS_14 (S : sj_St) (h : Nat) (b : Nat → Nat) (p k : Nat) (f : Nat → Int32) : sj_fi (sj_tS S h b p k f) h 14 = nI k := sj_fi_wFi _ h 14 _
theorem sj_tS_o (S : sj_St) (h : Nat) (b : Nat → Nat) (p k : Nat) (f : Nat → Int32) {j : Nat} (h9 : j ≠ 9) (h14 : j ≠ 14) : sj_fi (sj_tS S h b p k f) h j = sj_fi S h j := (sj_fi_wFi_k _ h _ h14).trans (sj_fi_wFi_k S h _ h9)
theorem sj_tS_13 (S : sj_St) (h : Nat) (b : Nat → Nat) (p k : Nat) (f : Nat → Int32) : sj_ia (sj_tS S h b p k f) (b 13) = f := sj_ia_sIa _ _ _
theorem sj_tS_w9 (S : sj_St) (h : Nat) (b : Nat → Nat) (p q k : Nat) (f : Nat → Int32) : sj_wFi (sj_tS S h b p k f) h 9 (nI q) = sj_tS S h b q k f := by
  unfold sj_tS
  rw [sj_wFi_comm _ h (by omega), sj_sIa_wFi, sj_sIa_wFi, sj_wFi_wFi]
theorem sj_tS_r (S : sj_St) (h : Nat) (b : Nat → Nat) (p k : Nat) (f : Nat → Int32) (r : Bool × Nat × Option sj_W5) : sj_rsS (sj_tS S h b p k f) h b k r = sj_tS S h b r.2.1 (sj_k2 r k) (sj_f2 r k f) := by
  obtain ⟨ok, q, w⟩ := r
  cases w with
  | none => exact sj_tS_w9 S h b p q k f
  | some w =>
    show sj_wFi (sj_sIa (sj_wFi (sj_tS S h b p k f) h 9 (nI q)) (b 13) (sj_wst (sj_ia (sj_tS S h b p k f) (b 13)) k w)) h 14 (nI (k + 1)) = sj_tS S h b q (k + 1) (sj_wst f k w)
    rw [sj_tS_w9, sj_tS_13]
    unfold sj_tS
    rw [sj_sIa_wFi, sj_sIa_sIa, sj_wFi_wFi]
theorem sj_tS_mm {S : sj_St} {h : Nat} {b : Nat → Nat} {m : Nat → Int32} (hm : sj_mm S h b m) (p k : Nat) (f : Nat → Int32) : sj_mm (sj_tS S h b p k f) h b m := ⟨hm.1, (sj_ia_sIa_ne (sj_wFi S h 9 (nI p)) f (sj_mo_ne hm.1 (i := 1) (j := 13) (by omega) (by omega) (by omega))).trans hm.2⟩
theorem sj_tS_ps {S : sj_St} {h : Nat} {b : Nat → Nat} {m : Nat → Int32} {n p0 : Nat} {B : Nat → Int32} (hm : sj_mm S h b m) (hps : sj_ps S h b n B p0) {p : Nat} (hp : p ≤ n) (k : Nat) (f : Nat → Int32) : sj_ps (sj_tS S h b p k f) h b n B p := ⟨(sj_tS_o S h b p k f (by omega) (by omega)).trans hps.1, hps.2.1, sj_tS_9 S h b p k f, hp, (sj_ia_sIa_ne (sj_wFi S h 9 (nI p)) f (sj_mo_ne hm.1 (i := 7) (j := 13) (by omega) (by omega) (by omega))).trans hps.2.2.2.2⟩
theorem sj_u3_le {B : Nat → Int32} {n : Nat} {sl hg lp : Int32} {p : Nat} (hp : p ≤ n) : (sj_u3 B n sl hg lp p).2.1 ≤ n ∧ ∃ w, (sj_u3 B n sl hg lp p).2.2 = some w := by
  have h1 : (sj_rdn B n 1 9 p).2 ≤ n := sj_rdn_le (by decide) hp
  have h2 : sj_tk B n 126 (sj_rdn B n 1 9 p).2 ≤ n := sj_tk_le (by decide) h1
  have h3 : (sj_rdn B n 1 9 (sj_tk B n 126 (sj_rdn B n 1 9 p).2)).2 ≤ n := sj_rdn_le (by decide) h2
  unfold sj_u3
  by_cases c1 : (sj_rdn B n 1 9 p).1 = -1
  · rw [if_pos c1]
    exact ⟨h1, _, rfl⟩
  · rw [if_neg c1]
    by_cases c2 : sj_nx B n (sj_rdn B n 1 9 p).2 = 126
    · rw [if_pos c2]
      exact ⟨h3, _, rfl⟩
    · rw [if_neg c2]
      exact ⟨h2, _, rfl⟩
theorem sj_rst_le {B : Nat → Int32} {n p : Nat} (hp : p ≤ n) : (sj_rst B n p).2.1 ≤ n ∧ ((sj_rst B n p).1 = true → ∃ w, (sj_rst B n p).2.2 = some w) := by
  unfold sj_rst
  generalize hlo : decide (sj_nx B n p = 45) = lo
  have h0 : sj_tk B n 45 p ≤ n := sj_tk_le (by decide) hp
  generalize sj_tk B n 45 p = p0 at h0
  have h1 : (sj_rdn B n (sj_bi lo) 45 p0).2 ≤ n := sj_rdn_le (sj_bi_le lo) h0
  unfold sj_u1
  by_cases c1 : (sj_rdn B n (sj_bi lo) 45 p0).1 = -1
  · rw [if_pos c1]
    exact ⟨h1, fun h => by cases h⟩
  · rw [if_neg c1]
    have h2 : sj_tk B n 58 (sj_rdn B n (sj_bi lo) 45 p0).2 ≤ n := sj_tk_le (by decide) h1
    by_cases c2 : sj_nx B n (sj_rdn B n (sj_bi lo) 45 p0).2 = 58
    · rw [if_pos c2]
      generalize sj_tk B n 58 (sj_rdn B n (sj_bi lo) 45 p0).2 = p2 at h2
      have h3 : (sj_rdn B n 1 60 p2).2 ≤ n := sj_rdn_le (by decide) h2
      unfold sj_u2
      by_cases c3 : (sj_rdn B n 1 60 p2).1 = -1
      · rw [if_pos c3]
        exact ⟨h3, fun h => by cases h⟩
      · rw [if_neg c3]
        have h4 : sj_tk B n 111 (sj_rdn B n 1 60 p2).2 ≤ n := sj_tk_le (by decide) h3
        generalize sj_tk B n 111 (sj_rdn B n 1 60 p2).2 = p4 at h4
        have h5 : sj_tk B n 112 p4 ≤ n := sj_tk_le (by decide) h4
        unfold sj_u2b
        by_cases c4 : sj_nx B n p4 = 112
        · rw [if_pos c4]
          have h6 := sj_u3_le (B := B) (sl := if lo then -(sj_rdn B n (sj_bi lo) 45 p0).1 else (sj_rdn B n (sj_bi lo) 45 p0).1) (hg := (sj_rdn B n 1 60 p2).1) (lp := sj_bi (decide (sj_nx B n (sj_rdn B n 1 60 p2).2 = 111))) h5
          exact ⟨h6.1, fun _ => h6.2⟩
        · rw [if_neg c4]
          exact ⟨h5, fun h => by cases h⟩
    · rw [if_neg c2]
      exact ⟨h2, fun h => by cases h⟩
/-- a sheet's text from p on, k strokes having been read, with j more that may be: -1 or the place of the error; the place, the strokes, what is noted of them -/
def sj_shx (B : Nat → Int32) (n : Nat) : Nat → Nat → Nat → (Nat → Int32) → Int32 × Nat × Nat × (Nat → Int32)
  | 0, k, p, f => (-1, p, k, f)
  | j + 1, k, p, f =>
    if (sj_rst B n p).1 = false then (nI (sj_rst B n p).2.1, (sj_rst B n p).2.1, sj_k2 (sj_rst B n p) k, sj_f2 (sj_rst B n p) k f)
    else if (sj_rst B n p).2.1 = n then (-1, (sj_rst B n p).2.1, k + 1, sj_f2 (sj_rst B n p) k f)
    else if k + 1 = 8 then (nI (sj_rst B n p).2.1, (sj_rst B n p).2.1, k + 1, sj_f2 (sj_rst B n p) k f)
    else if sj_nx B n (sj_rst B n p).2.1 = 44 then sj_shx B n j (k + 1) (sj_tk B n 44 (sj_rst B n p).2.1) (sj_f2 (sj_rst B n p) k f)
    else (nI (sj_tk B n 44 (sj_rst B n p).2.1), sj_tk B n 44 (sj_rst B n p).2.1, k + 1, sj_f2 (sj_rst B n p) k f)
theorem sj_shx_1 {B : Nat → Int32} {n j k p : Nat} {f : Nat → Int32} (h1 : (sj_rst B n p).1 = false) : sj_shx B n (j + 1) k p f = (nI (sj_rst B n p).2.1, (sj_rst B n p).2.1, sj_k2 (sj_rst B n p) k, sj_f2 (sj_rst B n p) k f) := if_pos h1
theorem sj_shx_2 {B : Nat → Int32} {n j k p : Nat} {f : Nat → Int32} (h1 : ¬ (sj_rst B n p).1 = false) (h2 : (sj_rst B n p).2.1 = n) : sj_shx B n (j + 1) k p f = (-1, (sj_rst B n p).2.1, k + 1, sj_f2 (sj_rst B n p) k f) := (if_neg h1).trans (if_pos h2)
theorem sj_shx_3 {B : Nat → Int32} {n j k p : Nat} {f : Nat → Int32} (h1 : ¬ (sj_rst B n p).1 = false) (h2 : ¬ (sj_rst B n p).2.1 = n) (h3 : k + 1 = 8) : sj_shx B n (j + 1) k p f = (nI (sj_rst B n p).2.1, (sj_rst B n p).2.1, k + 1, sj_f2 (sj_rst B n p) k f) := (if_neg h1).trans ((if_neg h2).trans (if_pos h3))
theorem sj_shx_4 {B : Nat → Int32} {n j k p : Nat} {f : Nat → Int32} (h1 : ¬ (sj_rst B n p).1 = false) (h2 : ¬ (sj_rst B n p).2.1 = n) (h3 : ¬ k + 1 = 8) (h4 : sj_nx B n (sj_rst B n p).2.1 = 44) : sj_shx B n (j + 1) k p f = sj_shx B n j (k + 1) (sj_tk B n 44 (sj_rst B n p).2.1) (sj_f2 (sj_rst B n p) k f) := (if_neg h1).trans ((if_neg h2).trans ((if_neg h3).trans (if_pos h4)))
theorem sj_shx_5 {B : Nat → Int32} {n j k p : Nat} {f : Nat → Int32} (h1 : ¬ (sj_rst B n p).1 = false) (h2 : ¬ (sj_rst B n p).2.1 = n) (h3 : ¬ k + 1 = 8) (h4 : ¬ sj_nx B n (sj_rst B n p).2.1 = 44) : sj_shx B n (j + 1) k p f = (nI (sj_tk B n 44 (sj_rst B n p).2.1), sj_tk B n 44 (sj_rst B n p).2.1, k + 1, sj_f2 (sj_rst B n p) k f) := (if_neg h1).trans ((if_neg h2).trans ((if_neg h3).trans (if_neg h4)))
def sj_sht (B : Nat → Int32) (n : Nat) (f : Nat → Int32) : Int32 × Nat × Nat × (Nat → Int32) := sj_shx B n 8 0 0 f
