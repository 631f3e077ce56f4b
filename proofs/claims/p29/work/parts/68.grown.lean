/-! WHAT STAYS WHEN THINGS ARE MADE -/
section
variable {S T : sj_St} {P : Nat → Prop}
theorem sq_x_k (h : sq_xp P S T) {a c : Nat} (hk : sj_kd S a = some c) : sj_kd T a = some c := (h a c hk).1
theorem sq_x_rf (h : sq_xp P S T) {a c : Nat} (hk : sj_kd S a = some c) (hp : ¬ P a) (j : Nat) : sj_rf T a j = sj_rf S a j := congrFun ((h a c hk).2 hp).1 j
theorem sq_x_il (h : sq_xp P S T) {a c : Nat} (hk : sj_kd S a = some c) (hp : ¬ P a) : sj_il T a = sj_il S a := ((h a c hk).2 hp).2.1
theorem sq_x_fi (h : sq_xp P S T) {a c : Nat} (hk : sj_kd S a = some c) (hp : ¬ P a) (j : Nat) : sj_fi T a j = sj_fi S a j := congrFun ((h a c hk).2 hp).2.2.1 j
theorem sq_x_ia (h : sq_xp P S T) {a c : Nat} (hk : sj_kd S a = some c) (hp : ¬ P a) : sj_ia T a = sj_ia S a := ((h a c hk).2 hp).2.2.2.1
theorem sq_x_ra (h : sq_xp P S T) {a c : Nat} (hk : sj_kd S a = some c) (hp : ¬ P a) (j : Nat) : sj_ra T a j = sj_ra S a j := congrFun ((h a c hk).2 hp).2.2.2.2.1 j
theorem sq_ol_xp (h : sq_xp P S T) {o : Nat} {d : Nat → Nat} (ho : ¬ P o) (hd : ∀ i, i < 9 → ¬ P (d i)) (g : sq_ol S o d) : sq_ol T o d := by
  obtain ⟨g0, ⟨g1, r1⟩, ⟨g2, r2⟩, ⟨g3, r3⟩, ⟨g4, r4⟩, gi⟩ := g
  exact ⟨sq_x_k h g0, ⟨(sq_x_rf h g0 ho 2).trans g1, sj_rw_xp h (hd 1 (by omega)) (hd 2 (by omega)) r1⟩, ⟨(sq_x_rf h g0 ho 3).trans g2, sj_rw_xp h (hd 3 (by omega)) (hd 4 (by omega)) r2⟩, ⟨(sq_x_rf h g0 ho 4).trans g3, sj_rw_xp h (hd 5 (by omega)) (hd 6 (by omega)) r3⟩, ⟨(sq_x_rf h g0 ho 5).trans g4, sj_rw_xp h (hd 7 (by omega)) (hd 8 (by omega)) r4⟩, gi⟩
theorem sq_tl_xp (h : sq_xp P S T) {D : Nat → Nat} (hD : ∀ i, i < 16 → ¬ P (D i)) (g : sq_tl S D) : sq_tl T D := by
  obtain ⟨g0, g1, ⟨g2, g3, g4⟩, ⟨g5, r5⟩, ⟨g6, o6⟩, ⟨g7, r7⟩, gi⟩ := g
  have h0 := hD 0 (by omega)
  exact ⟨sq_x_k h g0, (sq_x_rf h g0 h0 0).trans g1, ⟨(sq_x_rf h g0 h0 1).trans g2, sq_x_k h g3, (sq_x_il h g3 (hD 1 (by omega))).trans g4⟩, ⟨(sq_x_rf h g0 h0 2).trans g5, sj_rw_xp h (hD 3 (by omega)) (hD 4 (by omega)) r5⟩, ⟨(sq_x_rf h g0 h0 4).trans g6, sq_ol_xp h (hD 5 (by omega)) (fun i hi => hD (5 + i) (by omega)) o6⟩, ⟨(sq_x_rf h g0 h0 5).trans g7, sj_rw_xp h (hD 14 (by omega)) (hD 15 (by omega)) r7⟩, gi⟩
theorem sq_sh_xp (h : sq_xp P S T) {a rn cn rm cm n : Nat} (h1 : ¬ P a) (h2 : ¬ P rn) (h3 : ¬ P cn) (h4 : ¬ P rm) (h5 : ¬ P cm) (g : sq_sh S a rn cn rm cm n) : sq_sh T a rn cn rm cm n := by
  obtain ⟨g0, g1, g2, g3, r3, g4, r4⟩ := g
  exact ⟨sq_x_k h g0, (sq_x_fi h g0 h1 0).trans g1, g2, (sq_x_rf h g0 h1 1).trans g3, sj_rw_xp h h2 h3 r3, (sq_x_rf h g0 h1 2).trans g4, sj_rw_xp h h4 h5 r4⟩
theorem sq_or_xp (h : sq_xp P S T) {o : Nat} {d : Nat → Nat} (ho : ¬ P o) (hd : ∀ i, i < 9 → ¬ P (d i)) (g : sq_ol S o d) : sq_or T o d = sq_or S o d := by
  obtain ⟨g0, ⟨g1, r1⟩, ⟨g2, r2⟩, ⟨g3, r3⟩, ⟨g4, r4⟩, gi⟩ := g
  unfold sq_or
  rw [sq_x_fi h g0 ho 0, sq_x_fi h g0 ho 1, sq_x_ia h r1.2.2.1 (hd 2 (by omega)), sq_x_ia h r2.2.2.1 (hd 4 (by omega)), sq_x_ia h r3.2.2.1 (hd 6 (by omega)), sq_x_ia h r4.2.2.1 (hd 8 (by omega))]
end
section
variable {S T : sj_St}
theorem sq_sm_xp (h : sq_xp (fun _ => False) S T) {F : Nat → Prop} {m : Nat → Int32} {i a : Nat} (g : sq_sm S F m i a) : sq_sm T F m i a := by
  obtain ⟨rn, cn, rm, cm, g1, g2, g3, g4⟩ := g
  have h0 : ∀ a : Nat, ¬ (fun _ : Nat => False) a := fun _ h => h
  refine ⟨rn, cn, rm, cm, sq_sh_xp h (h0 a) (h0 rn) (h0 cn) (h0 rm) (h0 cm) g1, g2, fun k w hk hw => ?_, fun j hj => ?_⟩
  · rw [sq_x_ia h g1.2.2.2.2.1.2.2.1 (h0 cn)]
    exact g3 k w hk hw
  · rw [sq_x_ia h g1.2.2.2.2.2.2.2.2.1 (h0 cm)]
    exact g4 j hj
theorem sq_T_xp (h : sq_xp (fun _ => False) S T) {F : Nat → Prop} {D : Nat → Nat} {m : Nat → Int32} (g : sq_T S F D m) : sq_T T F D m := by
  obtain ⟨gt, ⟨g1, g2, g3⟩, g4, g5, g6, g7⟩ := g
  have h0 : ∀ a : Nat, ¬ (fun _ : Nat => False) a := fun _ h => h
  have kt := gt.1
  refine ⟨sq_tl_xp h (fun i _ => h0 (D i)) gt, ⟨(sq_x_fi h kt (h0 (D 0)) 3).trans g1, (sq_x_fi h kt (h0 (D 0)) 6).trans g2, (sq_x_fi h kt (h0 (D 0)) 7).trans g3⟩, ?_, ?_, ?_, fun i hi => ?_⟩
  · rw [sq_x_ia h gt.2.2.2.1.2.2.2.1 (h0 (D 4))]
    exact g4
  · rw [sq_x_ia h gt.2.2.2.2.2.1.2.2.2.1 (h0 (D 15))]
    exact g5
  · rw [sq_or_xp h (h0 (D 5)) (fun i _ => h0 (D (5 + i))) gt.2.2.2.2.1.2]
    exact g6
  · obtain ⟨a, ha, hs⟩ := g7 i hi
    exact ⟨a, (sq_x_ra h gt.2.2.1.2.1 (h0 (D 1)) i).trans ha, sq_sm_xp h hs⟩
theorem sq_k3_xp (h : sq_xp (fun _ => False) S T) {D : Nat → Nat} (gt : sq_tl S D) (g : sq_k3 S D) : sq_k3 T D := fun j b hj hb => by
  rw [sq_x_ra h gt.2.2.1.2.1 (fun h => h) j] at hb
  exact sq_x_k h (g j b hj hb)
theorem sq_xl_xp (h : sq_xp (fun _ => False) S T) {x : Nat} {e : Nat → Nat} {n : Nat} {B : Nat → Int32} (g : sq_xl S x e n B) : sq_xl T x e n B := by
  obtain ⟨g0, ⟨g1, r1⟩, ⟨g2, r2⟩, ⟨g3, r3⟩, ⟨g4, r4⟩, ⟨g5, r5⟩, ⟨g6, g7, g8⟩, gi⟩ := g
  have h0 : ∀ a : Nat, ¬ (fun _ : Nat => False) a := fun _ h => h
  have hx := h0 x
  refine ⟨sq_x_k h g0, ⟨(sq_x_rf h g0 hx 0).trans g1, sj_rw_xp h (h0 (e 1)) (h0 (e 2)) r1⟩, ⟨(sq_x_rf h g0 hx 4).trans g2, sj_rw_xp h (h0 (e 3)) (h0 (e 4)) r2⟩, ⟨(sq_x_rf h g0 hx 6).trans g3, sj_rw_xp h (h0 (e 5)) (h0 (e 6)) r3⟩, ⟨(sq_x_rf h g0 hx 7).trans g4, sj_rw_xp h (h0 (e 7)) (h0 (e 8)) r4⟩, ⟨(sq_x_rf h g0 hx 8).trans g5, sj_rw_xp h (h0 (e 9)) (h0 (e 10)) r5⟩, ⟨(sq_x_fi h g0 hx 1).trans g6, g7, ?_⟩, gi⟩
  rw [sq_x_ia h r1.2.2.1 (h0 (e 2))]
  exact g8
theorem sq_hl_xp (h : sq_xp (fun _ => False) S T) {H sl : Nat} {Ts : Nat → Nat → Nat} (g : sq_hl S H sl Ts) : sq_hl T H sl Ts := by
  obtain ⟨g0, g1, g2, g3, g4⟩ := g
  have h0 : ∀ a : Nat, ¬ (fun _ : Nat => False) a := fun _ h => h
  exact ⟨sq_x_k h g0, (sq_x_rf h g0 (h0 H) 0).trans g1, sq_x_k h g2, (sq_x_il h g2 (h0 sl)).trans g3, fun j hj => (sq_x_ra h g2 (h0 sl) j).trans (g4 j hj)⟩
theorem sq_W_xp (h : sq_xp (fun _ => False) S T) {g : Nat → Nat} {m : Nat → Int32} {hs : Bool} {ms : Nat → Int32} {p q : Nat} {Q : Nat → Nat → Int32} {n : Nat} {B : Nat → Int32} (hW : sq_W S g m hs ms p q Q n B) : sq_W T g m hs ms p q Q n B := by
  obtain ⟨⟨⟨c1, c2, c3, c4, c5⟩, c6, c7, c8⟩, ⟨t1, t2, t3⟩, k3, ⟨q1, q2, q3, q4, q5⟩, hX, hB⟩ := hW
  have h0 : ∀ a : Nat, ¬ (fun _ : Nat => False) a := fun _ h => h
  have hg := h0 (g 141)
  have hH := h0 (g 139)
  exact ⟨⟨⟨sq_x_k h c1, (sq_x_rf h c1 hg 0).trans c2, (sq_x_rf h c1 hg 1).trans c3, (sq_x_rf h c1 hg 2).trans c4, (sq_x_rf h c1 hg 3).trans c5⟩, fun t ht => sq_tl_xp h (fun i _ => h0 (sq_D g t i)) (c6 t ht), sq_hl_xp h c7, c8⟩, ⟨sq_T_xp h t1, (sq_x_fi h c1 hg 4).trans t2, fun hh => sq_T_xp h (t3 hh)⟩, fun t ht => sq_k3_xp h (c6 t ht) (k3 t ht), ⟨(sq_x_fi h c7.1 hH 1).trans q1, q2, (sq_x_fi h c7.1 hH 2).trans q3, q4, fun j hj => sq_T_xp h (q5 j hj)⟩, sq_xl_xp h hX, hB⟩
end
