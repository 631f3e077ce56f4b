/-! ONE ACTION OF BOTH: what only looks -/
/-- a contract's end may be said more loosely -/
theorem sj_Qc_imp {D : va_G} {cy : Nat → ClassId} {A : Nat → Prop} {P P' : Option Value → sj_St → Prop} (hp : ∀ v T, P v T → P' v T) {a : Array Value} {st t : State} {oc : Outcome} (h : sj_Qc D cy A P a st oc t) : sj_Qc D cy A P' a st oc t := by
  obtain ⟨⟨r, S', h1, h2, h3⟩, h4⟩ := h
  exact ⟨⟨r, S', h1, hp r S' h2, h3⟩, h4⟩
theorem sj_Ctr_mono {l : Launch} {M : sj_M} {av : List Value} {S : sj_St} {P P' : Option Value → sj_St → Prop} (h : sj_Ctr l M av S P) (hp : ∀ v T, P v T → P' v T) : sj_Ctr l M av S P' := by
  obtain ⟨y, cc, nL, ret, fr, lo, mc, ms⟩ := M
  intro D cy A sz hA p e ha hc hk s m args below hf happ hpre hK
  obtain ⟨k, o, h1, h2, h3, h4, h5⟩ := h D cy A sz hA p e ha hc hk s m args below hf happ hpre hK
  exact ⟨k, o, h1, h2, h3, sj_Qc_imp hp h4, h5⟩
theorem sj_CtW_mono {l : Launch} {M : sj_M} {hh : List (Nat × Nat × Nat × Nat)} {av : List Value} {S : sj_St} {P P' : Option Value → sj_St → Prop} (h : sj_CtW l M hh av S P) (hp : ∀ v T, P v T → P' v T) : sj_CtW l M hh av S P' := by
  obtain ⟨y, cc, nL, ret, fr, lo, mc, ms⟩ := M
  intro D cy A sz hA p e ha hc hk s m args below hf happ hpre hK
  obtain ⟨k, o, h1, h2, h3, h4⟩ := h D cy A sz hA p e ha hc hk s m args below hf happ hpre hK
  refine ⟨k, o, h1, h2, h3, ?_⟩
  rcases h4 with ⟨h4, h5⟩ | h4
  · exact Or.inl ⟨sj_Qc_imp hp h4, h5⟩
  · exact Or.inr h4
section
variable {l : Launch} {S : sj_St} {g : Nat → Nat} {m : Nat → Int32} {hs : Bool} {ms : Nat → Int32} {p q : Nat} {Q : Nat → Nat → Int32} {n : Nat} {B : Nat → Int32} {o : Nat}
theorem sq_Cl_o (hgo : ∀ i, i < 160 → g i ≠ o) : ¬ sq_Cl g o := fun ⟨i, hi, e⟩ => hgo i (by omega) e.symm
theorem sq_Mc_o (hgo : ∀ i, i < 160 → g i ≠ o) : ¬ sq_Mc g o := fun ⟨i, h1, h2, e⟩ => hgo i (by omega) e.symm
theorem sj_mm_ne (hi : ∀ i j, i < 160 → j < 160 → g i = g j → i = j) {j : Nat} (hj : j = 1 ∨ j = 3 ∨ j = 5 ∨ j = 7) {k : Nat} (hk : k = 15 ∨ k = 13 ∨ k = 2) : sq_b g j ≠ sq_b g k := by
  rcases hj with rfl | rfl | rfl | rfl <;> rcases hk with rfl | rfl | rfl <;> exact fun e => absurd (hi _ _ (by decide) (by decide) e) (by decide)
/-- a look's answer P: the class's end T, the reference's end U -/
theorem sq_J_look (hZ : sq_Z S g m hs ms p q Q n B) (ho : sj_ou S o) (hgo : ∀ i, i < 160 → g i ≠ o) {ML M7 : sj_M} {hh : List (Nat × Nat × Nat × Nat)} {avL av7 : List Value} (P : Int32 × Int32) {c : Nat} (hc : c = 15 ∨ c = 13 ∨ c = 2) (hL : sj_CtW l ML hh avL S (fun v T => v = some (.int P.2) ∧ ((P.2 = 0 ∧ T = sj_wLa S o 0 P.1.toInt64) ∨ (¬ P.2 = 0 ∧ sq_fr (sq_Cl g) S T ∧ sq_W T g m hs ms p q Q n B)))) (h7 : ∀ T, sj_mm T (g 142) (sq_b g) m → sj_fi T (g 142) 4 = nI q → sj_Ctr l M7 av7 T (fun v U => v = some (.int P.1) ∧ ∃ f, U = sj_sIa (sj_wFi T (g 142) 0 P.2) (sq_b g c) f)) : sq_J l S g o ML hh avL M7 av7 := by
  refine ⟨P.2, fun T => (P.2 = 0 ∧ T = sj_wLa S o 0 P.1.toInt64) ∨ (¬ P.2 = 0 ∧ sq_fr (sq_Cl g) S T ∧ sq_W T g m hs ms p q Q n B), hL, fun T hT => ?_⟩
  have hZT : sq_Z T g m hs ms p q Q n B ∧ sj_ou T o ∧ (P.2 = 0 → sj_la T o 0 = P.1.toInt64) := by
    rcases hT with ⟨h0, rfl⟩ | ⟨h0, hf, hW⟩
    · exact ⟨sq_Z_cl hZ sq_xp_la (sq_W_la hZ.1), sj_ou_xp (P := fun _ => False) sq_xp_la ho (fun h => h), fun _ => sj_la_w _ _ _ _⟩
    · exact ⟨sq_Z_cl hZ (sq_xp_fr hf) hW, sj_ou_xp (sq_xp_fr hf) ho (sq_Cl_o hgo), fun h => absurd h h0⟩
  obtain ⟨hZ1, ho1, hla⟩ := hZT
  have h7T := h7 T hZ1.2.1.1 hZ1.2.1.2.1.1
  have hi := sq_Z_inj hZ
  have hcM : sq_Mc g (sq_b g c) := by
    rcases hc with rfl | rfl | rfl
    · exact sq_M_15 g
    · exact sq_M_13 g
    · exact sq_M_2 g
  have hcg : ∃ k, k < 160 ∧ sq_b g c = g k ∧ k ≠ 142 := by
    rcases hc with rfl | rfl | rfl
    · exact ⟨149, by omega, rfl, by omega⟩
    · exact ⟨148, by omega, rfl, by omega⟩
    · exact ⟨144, by omega, rfl, by omega⟩
  refine ⟨hZ1.2.1.1.1.1, sj_Ctr_mono h7T ?_⟩
  rintro v U ⟨rfl, f, rfl⟩
  have hx : sq_xp (sq_Mc g) T (sj_sIa (sj_wFi T (g 142) 0 P.2) (sq_b g c) f) := sq_xp_tr (sq_m_fi 0 P.2) (sq_m_ia f hcM)
  have he : sq_me T (sj_sIa (sj_wFi T (g 142) 0 P.2) (sq_b g c) f) g := sq_me_tr (sq_me_f P.2 (by omega) (by omega) (by omega)) (sq_me_a f (sj_mm_ne hi (Or.inl rfl) hc) (sj_mm_ne hi (Or.inr (Or.inl rfl)) hc) (sj_mm_ne hi (Or.inr (Or.inr (Or.inl rfl))) hc) (sj_mm_ne hi (Or.inr (Or.inr (Or.inr rfl))) hc))
  exact ⟨P.1, rfl, sj_fi_wFi T (g 142) 0 P.2, hla, ⟨m, hs, ms, p, q, Q, n, B, sq_Z_rf hZ1 hx he⟩, sj_ou_xp hx ho1 (sq_Mc_o hgo)⟩
end
