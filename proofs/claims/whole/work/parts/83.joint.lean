/-! ONE ACTION OF BOTH -/
def sq_ZZ (U : sj_St) (g : Nat → Nat) (o : Nat) : Prop := (∃ (m : Nat → Int32) (hs : Bool) (ms : Nat → Int32) (p q : Nat) (Q : Nat → Nat → Int32) (n : Nat) (B : Nat → Int32), sq_Z U g m hs ms p q Q n B) ∧ sj_ou U o
/-- the wrapper tells t, the reference tells t too, and the answers are the same where nothing was thrown -/
def sq_J (l : Launch) (S : sj_St) (g : Nat → Nat) (o : Nat) (ML : sj_M) (hh : List (Nat × Nat × Nat × Nat)) (avL : List Value) (M7 : sj_M) (av7 : List Value) : Prop := ∃ (t : Int32) (A : sj_St → Prop), sj_CtW l ML hh avL S (fun v T => v = some (.int t) ∧ A T) ∧ ∀ T, A T → sj_kd T (g 142) = some 7 ∧ sj_Ctr l M7 av7 T (fun v U => ∃ r : Int32, v = some (.int r) ∧ sj_fi U (g 142) 0 = t ∧ (t = 0 → sj_la U o 0 = r.toInt64) ∧ sq_ZZ U g o)
theorem sq_xp_la {P : Nat → Prop} {S : sj_St} {a k : Nat} {v : Int64} : sq_xp P S (sj_wLa S a k v) := fun _ _ hb => ⟨hb, fun _ => ⟨rfl, rfl, rfl, rfl, rfl, rfl⟩⟩
theorem sj_la_w (S : sj_St) (o k : Nat) (v : Int64) : sj_la (sj_wLa S o k v) o k = v := by
  show sj_up _ o (vp_updL _ k v) o k = v
  rw [sj_up_self]
  exact if_pos rfl
section
variable {S T : sj_St} {g : Nat → Nat} {m : Nat → Int32} {hs : Bool} {ms : Nat → Int32} {p q : Nat} {Q : Nat → Nat → Int32} {n : Nat} {B : Nat → Int32}
theorem sq_Z_inj (hZ : sq_Z S g m hs ms p q Q n B) : ∀ i j, i < 160 → j < 160 → g i = g j → i = j := hZ.1.1.2.2.2
theorem sq_M_la {o : Nat} {v : Int64} (h : sq_M S g m hs ms q Q n B) : sq_M (sj_wLa S o 0 v) g m hs ms q Q n B := h
theorem sq_W_la {o : Nat} {v : Int64} (h : sq_W S g m hs ms p q Q n B) : sq_W (sj_wLa S o 0 v) g m hs ms p q Q n B := sq_W_xp sq_xp_la h
/-- the class has kept all -/
theorem sq_Z_cl (hZ : sq_Z S g m hs ms p q Q n B) (hx : sq_xp (sq_Cl g) S T) (hW : sq_W T g m hs ms p q Q n B) : sq_Z T g m hs ms p q Q n B := ⟨hW, sq_M_xpC (sq_Z_inj hZ) hx hZ.2.1, hZ.2.2.1, hZ.2.2.2.1, hZ.2.2.2.2.1, fun i hi => (hZ.2.2.2.2.2 i hi).imp (fun _ hc => sq_x_k hx hc)⟩
/-- the reference has kept all -/
theorem sq_Z_rf (hZ : sq_Z S g m hs ms p q Q n B) (hx : sq_xp (sq_Mc g) S T) (he : sq_me S T g) : sq_Z T g m hs ms p q Q n B := ⟨sq_W_xpM hx (sq_Mc_2 hZ.2.1.1) hZ.1, sq_M_e hZ.2.1 he, hZ.2.2.1, hZ.2.2.2.1, hZ.2.2.2.2.1, fun i hi => (hZ.2.2.2.2.2 i hi).imp (fun _ hc => sq_x_k hx hc)⟩
theorem sj_ou_xp {P : Nat → Prop} {o : Nat} (h : sq_xp P S T) (ho : sj_ou S o) (hn : ¬ P o) : sj_ou T o := ⟨sq_x_k h ho.1, (sq_x_il h ho.1 hn).trans ho.2⟩
end
