/-! CLASS AND REFERENCE SIDE BY SIDE: what the one does keeps the other -/
section
variable {S T : sj_St} {P : Nat → Prop}
theorem sq_sm_xpM (h : sq_xp P S T) {F : Nat → Prop} (hPF : ∀ a, P a → F a) (h2 : ∀ a, P a → ¬ sj_kd S a = some 2) {m : Nat → Int32} {i a : Nat} (g : sq_sm S F m i a) : sq_sm T F m i a := by
  obtain ⟨rn, cn, rm, cm, g1, ⟨n1, n2, n3⟩, g3, g4⟩ := g
  have p1 : ¬ P a := fun hp => n1 (hPF _ hp)
  have p2 : ¬ P cn := fun hp => n2 (hPF _ hp)
  have p3 : ¬ P cm := fun hp => n3 (hPF _ hp)
  have p4 : ¬ P rn := fun hp => h2 _ hp g1.2.2.2.2.1.1
  have p5 : ¬ P rm := fun hp => h2 _ hp g1.2.2.2.2.2.2.1
  refine ⟨rn, cn, rm, cm, sq_sh_xp h p1 p4 p2 p5 p3 g1, ⟨n1, n2, n3⟩, fun k w hk hw => ?_, fun j hj => ?_⟩
  · rw [sq_x_ia h g1.2.2.2.2.1.2.2.1 p2]
    exact g3 k w hk hw
  · rw [sq_x_ia h g1.2.2.2.2.2.2.2.2.1 p3]
    exact g4 j hj
theorem sq_T_xpM (h : sq_xp P S T) {F : Nat → Prop} (hPF : ∀ a, P a → F a) (h2 : ∀ a, P a → ¬ sj_kd S a = some 2) {D : Nat → Nat} (hD : ∀ i, i < 16 → ¬ P (D i)) {m : Nat → Int32} (g : sq_T S F D m) : sq_T T F D m := by
  obtain ⟨gt, ⟨g1, g2, g3⟩, g4, g5, g6, g7⟩ := g
  have kt := gt.1
  have h0 := hD 0 (by omega)
  refine ⟨sq_tl_xp h hD gt, ⟨(sq_x_fi h kt h0 3).trans g1, (sq_x_fi h kt h0 6).trans g2, (sq_x_fi h kt h0 7).trans g3⟩, ?_, ?_, ?_, fun i hi => ?_⟩
  · rw [sq_x_ia h gt.2.2.2.1.2.2.2.1 (hD 4 (by omega))]
    exact g4
  · rw [sq_x_ia h gt.2.2.2.2.2.1.2.2.2.1 (hD 15 (by omega))]
    exact g5
  · rw [sq_or_xp h (hD 5 (by omega)) (fun i hi => hD (5 + i) (by omega)) gt.2.2.2.2.1.2]
    exact g6
  · obtain ⟨a, ha, hs⟩ := g7 i hi
    exact ⟨a, (sq_x_ra h gt.2.2.1.2.1 (hD 1 (by omega)) i).trans ha, sq_sm_xpM h hPF h2 hs⟩
theorem sq_hl_xpP (h : sq_xp P S T) {H sl : Nat} {Ts : Nat → Nat → Nat} (hH : ¬ P H) (hs : ¬ P sl) (g : sq_hl S H sl Ts) : sq_hl T H sl Ts := by
  obtain ⟨g0, g1, g2, g3, g4⟩ := g
  exact ⟨sq_x_k h g0, (sq_x_rf h g0 hH 0).trans g1, sq_x_k h g2, (sq_x_il h g2 hs).trans g3, fun j hj => (sq_x_ra h g2 hs j).trans (g4 j hj)⟩
theorem sq_k3_xpP (h : sq_xp P S T) {D : Nat → Nat} (hD : ¬ P (D 1)) (gt : sq_tl S D) (g : sq_k3 S D) : sq_k3 T D := fun j b hj hb => by
  rw [sq_x_ra h gt.2.2.1.2.1 hD j] at hb
  exact sq_x_k h (g j b hj hb)
end
/-- the cells of the reference -/
def sq_Mc (g : Nat → Nat) (a : Nat) : Prop := ∃ i, 142 ≤ i ∧ i < 150 ∧ a = g i
theorem sq_Mc_F {g : Nat → Nat} : ∀ a, sq_Mc g a → sq_F g a := fun a ⟨i, h1, h2, e⟩ => ⟨i, by omega, e⟩
theorem sq_Mc_no {g : Nat → Nat} (hi : ∀ i j, i < 160 → j < 160 → g i = g j → i = j) {k : Nat} (hk : k < 142) : ¬ sq_Mc g (g k) := fun ⟨i, h1, h2, e⟩ => by
  have := hi k i (by omega) (by omega) e
  omega
/-- what the reference does keeps the class -/
theorem sq_W_xpM {S T : sj_St} {g : Nat → Nat} (h : sq_xp (sq_Mc g) S T) (h2 : ∀ a, sq_Mc g a → ¬ sj_kd S a = some 2) {m : Nat → Int32} {hs : Bool} {ms : Nat → Int32} {p q : Nat} {Q : Nat → Nat → Int32} {n : Nat} {B : Nat → Int32} (hW : sq_W S g m hs ms p q Q n B) : sq_W T g m hs ms p q Q n B := by
  obtain ⟨⟨⟨c1, c2, c3, c4, c5⟩, c6, c7, c8⟩, ⟨t1, t2, t3⟩, k3, ⟨q1, q2, q3, q4, q5⟩, hX, hB⟩ := hW
  have hn : ∀ k, k < 142 → ¬ sq_Mc g (g k) := fun k hk => sq_Mc_no c8 hk
  have hD : ∀ t, t < 8 → ∀ i, i < 16 → ¬ sq_Mc g (sq_D g t i) := fun t ht i hi => hn (16 * t + i) (by omega)
  have hg := hn 141 (by omega)
  have hH := hn 139 (by omega)
  exact ⟨⟨⟨sq_x_k h c1, (sq_x_rf h c1 hg 0).trans c2, (sq_x_rf h c1 hg 1).trans c3, (sq_x_rf h c1 hg 2).trans c4, (sq_x_rf h c1 hg 3).trans c5⟩, fun t ht => sq_tl_xp h (hD t ht) (c6 t ht), sq_hl_xpP h hH (hn 140 (by omega)) c7, c8⟩, ⟨sq_T_xpM h sq_Mc_F h2 (hD 0 (by omega)) t1, (sq_x_fi h c1 hg 4).trans t2, fun hh => sq_T_xpM h sq_Mc_F h2 (hD 1 (by omega)) (t3 hh)⟩, fun t ht => sq_k3_xpP h (hD t ht 1 (by omega)) (c6 t ht) (k3 t ht), ⟨(sq_x_fi h c7.1 hH 1).trans q1, q2, (sq_x_fi h c7.1 hH 2).trans q3, q4, fun j hj => sq_T_xpM h sq_Mc_F h2 (hD (sq_pl p j) (by unfold sq_pl; omega)) (q5 j hj)⟩, sq_xl_xpP h (hn 128 (by omega)) (fun i hi => hn (128 + i) (by omega)) hX, hB⟩
/-- where the reference's rows lie among the g's -/
def sq_be : Nat → Nat
  | 1 => 143
  | 2 => 144
  | 3 => 145
  | 5 => 146
  | 7 => 147
  | 13 => 148
  | 15 => 149
  | 0 => 150
  | 4 => 151
  | 6 => 152
  | 8 => 153
  | 9 => 154
  | 10 => 155
  | 11 => 156
  | 12 => 157
  | _ => 158
def sq_b (g : Nat → Nat) : Nat → Nat := fun i => g (sq_be i)
/-- the reference beside the class -/
def sq_M (S : sj_St) (g : Nat → Nat) (m : Nat → Int32) (hs : Bool) (ms : Nat → Int32) (q : Nat) (Q : Nat → Nat → Int32) (n : Nat) (B : Nat → Int32) : Prop := sj_mm S (g 142) (sq_b g) m ∧ (sj_fi S (g 142) 4 = nI q ∧ ∀ j, j < q → ∀ a, a < 434 → sj_ia S (g 145) (434 * (q - 1 - j) + a) = Q j a) ∧ (sj_fi S (g 142) 6 = sj_bi hs ∧ (hs = true → ∀ a, a < 434 → sj_ia S (g 146) a = ms a)) ∧ sj_pb S (g 142) (sq_b g) n B
/-- all that holds between two actions -/
def sq_Z (S : sj_St) (g : Nat → Nat) (m : Nat → Int32) (hs : Bool) (ms : Nat → Int32) (p q : Nat) (Q : Nat → Nat → Int32) (n : Nat) (B : Nat → Int32) : Prop := sq_W S g m hs ms p q Q n B ∧ sq_M S g m hs ms q Q n B ∧ (sj_inv m ∧ sj_uc m) ∧ (hs = true → sj_inv ms ∧ sj_uc ms) ∧ (∀ j, j < q → sj_inv (Q j) ∧ sj_uc (Q j)) ∧ ∀ i, i < 160 → ∃ c, sj_kd S (g i) = some c
theorem sq_Mc_2 {S : sj_St} {g : Nat → Nat} {m : Nat → Int32} (hm : sj_mm S (g 142) (sq_b g) m) : ∀ a, sq_Mc g a → ¬ sj_kd S a = some 2 := by
  obtain ⟨⟨k0, ⟨-, k1, -⟩, ⟨-, k2, -⟩, ⟨-, k3, -⟩, ⟨-, k5, -⟩, ⟨-, k7, -⟩, ⟨-, k13, -⟩, ⟨-, k15, -⟩, -⟩, -⟩ := hm
  rintro a ⟨i, h1, h2, rfl⟩ hk
  have hc : i = 142 ∨ i = 143 ∨ i = 144 ∨ i = 145 ∨ i = 146 ∨ i = 147 ∨ i = 148 ∨ i = 149 := by omega
  rcases hc with rfl | rfl | rfl | rfl | rfl | rfl | rfl | rfl
  · exact absurd (k0.symm.trans hk) (by decide)
  · exact absurd (k1.symm.trans hk) (by decide)
  · exact absurd (k2.symm.trans hk) (by decide)
  · exact absurd (k3.symm.trans hk) (by decide)
  · exact absurd (k5.symm.trans hk) (by decide)
  · exact absurd (k7.symm.trans hk) (by decide)
  · exact absurd (k13.symm.trans hk) (by decide)
  · exact absurd (k15.symm.trans hk) (by decide)
/-- what the class does keeps the reference -/
theorem sq_Cl_no {g : Nat → Nat} (hi : ∀ i j, i < 160 → j < 160 → g i = g j → i = j) {k : Nat} (h1 : 142 ≤ k) (h2 : k < 160) : ¬ sq_Cl g (g k) := fun ⟨i, h3, e⟩ => by
  have := hi k i (by omega) (by omega) e
  omega
theorem sq_M_xpC {S T : sj_St} {g : Nat → Nat} (hi : ∀ i j, i < 160 → j < 160 → g i = g j → i = j) (h : sq_xp (sq_Cl g) S T) {m : Nat → Int32} {hs : Bool} {ms : Nat → Int32} {q : Nat} {Q : Nat → Nat → Int32} {n : Nat} {B : Nat → Int32} (hM : sq_M S g m hs ms q Q n B) : sq_M T g m hs ms q Q n B := by
  obtain ⟨⟨⟨k0, ⟨r1, k1, i1⟩, ⟨r2, k2, i2⟩, ⟨r3, k3, i3⟩, ⟨r5, k5, i5⟩, ⟨r7, k7, i7⟩, ⟨r13, k13, i13⟩, ⟨r15, k15, i15⟩, inj⟩, e1⟩, ⟨f4, f4'⟩, ⟨f6, f6'⟩, f8, f60, e7⟩ := hM
  have hn : ∀ k, 142 ≤ k → k < 160 → ¬ sq_Cl g (g k) := fun k h1 h2 => sq_Cl_no hi h1 h2
  have n0 := hn 142 (by omega) (by omega)
  have n1 : ¬ sq_Cl g (sq_b g 1) := hn 143 (by omega) (by omega)
  have n2 : ¬ sq_Cl g (sq_b g 2) := hn 144 (by omega) (by omega)
  have n3 : ¬ sq_Cl g (sq_b g 3) := hn 145 (by omega) (by omega)
  have n5 : ¬ sq_Cl g (sq_b g 5) := hn 146 (by omega) (by omega)
  have n7 : ¬ sq_Cl g (sq_b g 7) := hn 147 (by omega) (by omega)
  have n13 : ¬ sq_Cl g (sq_b g 13) := hn 148 (by omega) (by omega)
  have n15 : ¬ sq_Cl g (sq_b g 15) := hn 149 (by omega) (by omega)
  refine ⟨⟨⟨sq_x_k h k0, ⟨(sq_x_rf h k0 n0 1).trans r1, sq_x_k h k1, (sq_x_il h k1 n1).trans i1⟩, ⟨(sq_x_rf h k0 n0 2).trans r2, sq_x_k h k2, (sq_x_il h k2 n2).trans i2⟩, ⟨(sq_x_rf h k0 n0 3).trans r3, sq_x_k h k3, (sq_x_il h k3 n3).trans i3⟩, ⟨(sq_x_rf h k0 n0 5).trans r5, sq_x_k h k5, (sq_x_il h k5 n5).trans i5⟩, ⟨(sq_x_rf h k0 n0 7).trans r7, sq_x_k h k7, (sq_x_il h k7 n7).trans i7⟩, ⟨(sq_x_rf h k0 n0 13).trans r13, sq_x_k h k13, (sq_x_il h k13 n13).trans i13⟩, ⟨(sq_x_rf h k0 n0 15).trans r15, sq_x_k h k15, (sq_x_il h k15 n15).trans i15⟩, inj⟩, (sq_x_ia h k1 n1).trans e1⟩, ⟨(sq_x_fi h k0 n0 4).trans f4, ?_⟩, ⟨(sq_x_fi h k0 n0 6).trans f6, ?_⟩, (sq_x_fi h k0 n0 8).trans f8, f60, (sq_x_ia h k7 n7).trans e7⟩
  · have e3 : sj_ia T (g 145) = sj_ia S (g 145) := sq_x_ia h k3 n3
    rw [e3]
    exact f4'
  · have e5 : sj_ia T (g 146) = sj_ia S (g 146) := sq_x_ia h k5 n5
    rw [e5]
    exact f6'
