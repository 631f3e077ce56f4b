/-! WHAT IS MADE: rows, sheets -/
def sj_nf (own : String) (idx : Nat) : Cond → Bool
  | .fieldLinkNest o i _ _ _ _ => decide (o = own) && decide (i = idx)
  | _ => false
theorem sj_noN (own : String) (idx : Nat) (h : sj_NWl.all (fun w => !sj_nf own idx w) = true) : ∀ a b c e, ¬ Cond.fieldLinkNest own idx a b c e ∈ sj_NWl := fun a b c e hm => by
  have h1 := List.all_eq_true.mp h _ hm
  simp [sj_nf] at h1
/-- T has what S has, but for the cells of P and what is new -/
def sq_xp (P : Nat → Prop) (S T : sj_St) : Prop := ∀ a c, sj_kd S a = some c → sj_kd T a = some c ∧ (¬ P a → sj_rf T a = sj_rf S a ∧ sj_il T a = sj_il S a ∧ sj_fi T a = sj_fi S a ∧ sj_ia T a = sj_ia S a ∧ sj_ra T a = sj_ra S a ∧ sj_fl T a = sj_fl S a)
theorem sq_xp_id {P : Nat → Prop} {S : sj_St} : sq_xp P S S := fun _ _ h => ⟨h, fun _ => ⟨rfl, rfl, rfl, rfl, rfl, rfl⟩⟩
theorem sq_xp_tr {P : Nat → Prop} {S T U : sj_St} (h : sq_xp P S T) (g : sq_xp P T U) : sq_xp P S U := fun a c hk => by
  obtain ⟨h1, h2⟩ := h a c hk
  obtain ⟨g1, g2⟩ := g a c h1
  refine ⟨g1, fun hp => ?_⟩
  obtain ⟨x1, x2, x3, x4, x5, x6⟩ := h2 hp
  obtain ⟨y1, y2, y3, y4, y5, y6⟩ := g2 hp
  exact ⟨y1.trans x1, y2.trans x2, y3.trans x3, y4.trans x4, y5.trans x5, y6.trans x6⟩
theorem sq_xp_up {P Q : Nat → Prop} {S T : sj_St} (h : sq_xp P S T) (hq : ∀ a c, sj_kd S a = some c → P a → Q a) : sq_xp Q S T := fun a c hk => ⟨(h a c hk).1, fun hp => (h a c hk).2 (fun hp2 => hp (hq a c hk hp2))⟩
theorem sq_xp_fr {P : Nat → Prop} {S T : sj_St} (h : sq_fr P S T) : sq_xp P S T := fun a c hk => ⟨sq_kd_fr h hk, fun hp => ⟨congrFun h.2.1 a, congrFun h.2.2.1 a, (h.2.2.2.1 a hp).1, (h.2.2.2.1 a hp).2.1, (h.2.2.2.1 a hp).2.2, congrFun (congrArg Prod.fst h.2.2.2.2) a⟩⟩
theorem sq_ne_none {S : sj_St} {a b c : Nat} (h : sj_kd S a = none) (hb : sj_kd S b = some c) : b ≠ a := fun e => by
  rw [e, h] at hb
  cases hb
theorem sq_xp_nO {P : Nat → Prop} {S : sj_St} {a ci : Nat} (h : sj_kd S a = none) : sq_xp P S (sj_nO S a ci) := fun b c hb => by
  have hne := sq_ne_none h hb
  exact ⟨(sj_up_ne _ _ hne).trans hb, fun _ => ⟨sj_up_ne _ _ hne, rfl, sj_up_ne _ _ hne, rfl, rfl, sj_up_ne _ _ hne⟩⟩
theorem sq_xp_nA {P : Nat → Prop} {S : sj_St} {a n : Nat} (h : sj_kd S a = none) : sq_xp P S (sj_nA S a n) := fun b c hb => by
  have hne := sq_ne_none h hb
  exact ⟨(sj_up_ne _ _ hne).trans hb, fun _ => ⟨rfl, sj_up_ne _ _ hne, rfl, sj_up_ne _ _ hne, rfl, rfl⟩⟩
theorem sq_xp_nR {P : Nat → Prop} {S : sj_St} {a ci n : Nat} (h : sj_kd S a = none) : sq_xp P S (sj_nR S a ci n) := fun b c hb => by
  have hne := sq_ne_none h hb
  exact ⟨(sj_up_ne _ _ hne).trans hb, fun _ => ⟨rfl, sj_up_ne _ _ hne, rfl, rfl, sj_up_ne _ _ hne, rfl⟩⟩
theorem sq_xp_rf {P : Nat → Prop} {S : sj_St} {a k : Nat} {v : Option Nat} (h : P a) : sq_xp P S (sj_wRf S a k v) := fun b c hb => ⟨hb, fun hp => ⟨sj_up_ne _ _ (fun e => hp (e ▸ h)), rfl, rfl, rfl, rfl, rfl⟩⟩
theorem sj_kd_nO (S : sj_St) (a ci : Nat) : sj_kd (sj_nO S a ci) a = some ci := sj_up_self _ _ _
theorem sj_kd_nA (S : sj_St) (a n : Nat) : sj_kd (sj_nA S a n) a = some 8 := sj_up_self _ _ _
theorem sj_rw_xp {P : Nat → Prop} {S T : sj_St} (h : sq_xp P S T) {r c n : Nat} (hr : ¬ P r) (hc : ¬ P c) (g : sj_rw S r c n) : sj_rw T r c n := by
  obtain ⟨g1, g2, g3, g4, g5⟩ := g
  exact ⟨(h r 2 g1).1, (congrFun ((h r 2 g1).2 hr).1 0).trans g2, (h c 8 g3).1, ((h c 8 g3).2 hc).2.1.trans g4, g5⟩
/-- a row of zeros made -/
def sq_nr (S : sj_St) (r n : Nat) (T : sj_St) : Prop := ∃ c, sj_kd S c = none ∧ sj_rw T r c n ∧ sj_ia T c = (fun _ => 0) ∧ sq_xp (fun a => a = r) S T
theorem sq_nr_ok {S : sj_St} {r c n : Nat} (hr : sj_kd S r = some 2) (hc : sj_kd S c = none) (hn : n < 1000) : sq_nr S r n (sj_wRf (sj_nA S c n) r 0 (some c)) := by
  have hne := sq_ne_none hc hr
  refine ⟨c, hc, ⟨(sj_up_ne _ _ hne).trans hr, ?_, sj_up_self _ _ _, sj_up_self _ _ _, hn⟩, sj_up_self _ _ _, sq_xp_tr (sq_xp_nA hc) (sq_xp_rf rfl)⟩
  show sj_up _ r (sj_up _ 0 (some c)) r 0 = some c
  rw [sj_up_self, sj_up_self]
set_option maxRecDepth 100000 in
set_option maxHeartbeats 150000 in
theorem ct_X2_init_6 (l : Launch) {S : sj_St} {r : Nat} (kd_a : sj_kd S r = some 2) : sj_Ctr l mX2_init [.ref r, .int (nI 6)] S (fun v T => v = none ∧ sq_nr S r 6 T) := by
  refine sj_start ([some (.ref r), some (.int (nI 6))]) (by decide +kernel) rfl rfl (fun X hX C hR => ?_)
  subst hX
  refine sj_aload_n C 1 rfl dX2_init_0 rfl rfl ?_
  refine sj_objI C 4 rfl dX2_init_1 (wr_2 _ (List.mem_of_getElem? (i := 14) (by decide +kernel))) rfl ?_
  refine sj_aload_n C 5 rfl dX2_init_4 rfl rfl ?_
  refine sj_iload_n C 6 rfl dX2_init_5 rfl rfl ?_
  refine sj_if_ge C 13 9 rfl rfl dX2_init_6 (fun c_6 => ?_) (fun c_6 => ?_)
  · refine sj_iload_n C 14 rfl dX2_init_13 rfl rfl ?_
    refine sj_newa C 16 rfl dX2_init_14 (wr_1 _ (List.mem_of_getElem? (i := 3) (by decide +kernel))) (by omega) rfl (fun a_14 fr_14 => ?_)
    refine sj_putRF (v := some a_14) C 19 rfl fd_X2_7 dX2_init_16 rfl rfl rfl (fun _ _ _ h => by cases h; rfl) (sj_noN _ _ (by decide +kernel)) (show sj_kd (sj_nA S a_14 6) r = some 2 from (sj_up_ne _ _ (sq_ne_none fr_14 kd_a)).trans kd_a) ?_
    refine sj_vret C hR rfl rfl dX2_init_19 ?_
    exact ⟨rfl, sq_nr_ok kd_a fr_14 (by omega)⟩
  · exact absurd (nI_pos' (by omega)) c_6
set_option maxRecDepth 100000 in
set_option maxHeartbeats 150000 in
theorem ct_X2_init_8 (l : Launch) {S : sj_St} {r : Nat} (kd_a : sj_kd S r = some 2) : sj_Ctr l mX2_init [.ref r, .int (nI 8)] S (fun v T => v = none ∧ sq_nr S r 8 T) := by
  refine sj_start ([some (.ref r), some (.int (nI 8))]) (by decide +kernel) rfl rfl (fun X hX C hR => ?_)
  subst hX
  refine sj_aload_n C 1 rfl dX2_init_0 rfl rfl ?_
  refine sj_objI C 4 rfl dX2_init_1 (wr_2 _ (List.mem_of_getElem? (i := 14) (by decide +kernel))) rfl ?_
  refine sj_aload_n C 5 rfl dX2_init_4 rfl rfl ?_
  refine sj_iload_n C 6 rfl dX2_init_5 rfl rfl ?_
  refine sj_if_ge C 13 9 rfl rfl dX2_init_6 (fun c_6 => ?_) (fun c_6 => ?_)
  · refine sj_iload_n C 14 rfl dX2_init_13 rfl rfl ?_
    refine sj_newa C 16 rfl dX2_init_14 (wr_1 _ (List.mem_of_getElem? (i := 3) (by decide +kernel))) (by omega) rfl (fun a_14 fr_14 => ?_)
    refine sj_putRF (v := some a_14) C 19 rfl fd_X2_7 dX2_init_16 rfl rfl rfl (fun _ _ _ h => by cases h; rfl) (sj_noN _ _ (by decide +kernel)) (show sj_kd (sj_nA S a_14 8) r = some 2 from (sj_up_ne _ _ (sq_ne_none fr_14 kd_a)).trans kd_a) ?_
    refine sj_vret C hR rfl rfl dX2_init_19 ?_
    exact ⟨rfl, sq_nr_ok kd_a fr_14 (by omega)⟩
  · exact absurd (nI_pos' (by omega)) c_6
set_option maxRecDepth 100000 in
set_option maxHeartbeats 150000 in
theorem ct_X2_init_9 (l : Launch) {S : sj_St} {r : Nat} (kd_a : sj_kd S r = some 2) : sj_Ctr l mX2_init [.ref r, .int (nI 9)] S (fun v T => v = none ∧ sq_nr S r 9 T) := by
  refine sj_start ([some (.ref r), some (.int (nI 9))]) (by decide +kernel) rfl rfl (fun X hX C hR => ?_)
  subst hX
  refine sj_aload_n C 1 rfl dX2_init_0 rfl rfl ?_
  refine sj_objI C 4 rfl dX2_init_1 (wr_2 _ (List.mem_of_getElem? (i := 14) (by decide +kernel))) rfl ?_
  refine sj_aload_n C 5 rfl dX2_init_4 rfl rfl ?_
  refine sj_iload_n C 6 rfl dX2_init_5 rfl rfl ?_
  refine sj_if_ge C 13 9 rfl rfl dX2_init_6 (fun c_6 => ?_) (fun c_6 => ?_)
  · refine sj_iload_n C 14 rfl dX2_init_13 rfl rfl ?_
    refine sj_newa C 16 rfl dX2_init_14 (wr_1 _ (List.mem_of_getElem? (i := 3) (by decide +kernel))) (by omega) rfl (fun a_14 fr_14 => ?_)
    refine sj_putRF (v := some a_14) C 19 rfl fd_X2_7 dX2_init_16 rfl rfl rfl (fun _ _ _ h => by cases h; rfl) (sj_noN _ _ (by decide +kernel)) (show sj_kd (sj_nA S a_14 9) r = some 2 from (sj_up_ne _ _ (sq_ne_none fr_14 kd_a)).trans kd_a) ?_
    refine sj_vret C hR rfl rfl dX2_init_19 ?_
    exact ⟨rfl, sq_nr_ok kd_a fr_14 (by omega)⟩
  · exact absurd (nI_pos' (by omega)) c_6
set_option maxRecDepth 100000 in
set_option maxHeartbeats 150000 in
theorem ct_X2_init_28 (l : Launch) {S : sj_St} {r : Nat} (kd_a : sj_kd S r = some 2) : sj_Ctr l mX2_init [.ref r, .int (nI 28)] S (fun v T => v = none ∧ sq_nr S r 28 T) := by
  refine sj_start ([some (.ref r), some (.int (nI 28))]) (by decide +kernel) rfl rfl (fun X hX C hR => ?_)
  subst hX
  refine sj_aload_n C 1 rfl dX2_init_0 rfl rfl ?_
  refine sj_objI C 4 rfl dX2_init_1 (wr_2 _ (List.mem_of_getElem? (i := 14) (by decide +kernel))) rfl ?_
  refine sj_aload_n C 5 rfl dX2_init_4 rfl rfl ?_
  refine sj_iload_n C 6 rfl dX2_init_5 rfl rfl ?_
  refine sj_if_ge C 13 9 rfl rfl dX2_init_6 (fun c_6 => ?_) (fun c_6 => ?_)
  · refine sj_iload_n C 14 rfl dX2_init_13 rfl rfl ?_
    refine sj_newa C 16 rfl dX2_init_14 (wr_1 _ (List.mem_of_getElem? (i := 3) (by decide +kernel))) (by omega) rfl (fun a_14 fr_14 => ?_)
    refine sj_putRF (v := some a_14) C 19 rfl fd_X2_7 dX2_init_16 rfl rfl rfl (fun _ _ _ h => by cases h; rfl) (sj_noN _ _ (by decide +kernel)) (show sj_kd (sj_nA S a_14 28) r = some 2 from (sj_up_ne _ _ (sq_ne_none fr_14 kd_a)).trans kd_a) ?_
    refine sj_vret C hR rfl rfl dX2_init_19 ?_
    exact ⟨rfl, sq_nr_ok kd_a fr_14 (by omega)⟩
  · exact absurd (nI_pos' (by omega)) c_6
set_option maxRecDepth 100000 in
set_option maxHeartbeats 150000 in
theorem ct_X2_init_40 (l : Launch) {S : sj_St} {r : Nat} (kd_a : sj_kd S r = some 2) : sj_Ctr l mX2_init [.ref r, .int (nI 40)] S (fun v T => v = none ∧ sq_nr S r 40 T) := by
  refine sj_start ([some (.ref r), some (.int (nI 40))]) (by decide +kernel) rfl rfl (fun X hX C hR => ?_)
  subst hX
  refine sj_aload_n C 1 rfl dX2_init_0 rfl rfl ?_
  refine sj_objI C 4 rfl dX2_init_1 (wr_2 _ (List.mem_of_getElem? (i := 14) (by decide +kernel))) rfl ?_
  refine sj_aload_n C 5 rfl dX2_init_4 rfl rfl ?_
  refine sj_iload_n C 6 rfl dX2_init_5 rfl rfl ?_
  refine sj_if_ge C 13 9 rfl rfl dX2_init_6 (fun c_6 => ?_) (fun c_6 => ?_)
  · refine sj_iload_n C 14 rfl dX2_init_13 rfl rfl ?_
    refine sj_newa C 16 rfl dX2_init_14 (wr_1 _ (List.mem_of_getElem? (i := 3) (by decide +kernel))) (by omega) rfl (fun a_14 fr_14 => ?_)
    refine sj_putRF (v := some a_14) C 19 rfl fd_X2_7 dX2_init_16 rfl rfl rfl (fun _ _ _ h => by cases h; rfl) (sj_noN _ _ (by decide +kernel)) (show sj_kd (sj_nA S a_14 40) r = some 2 from (sj_up_ne _ _ (sq_ne_none fr_14 kd_a)).trans kd_a) ?_
    refine sj_vret C hR rfl rfl dX2_init_19 ?_
    exact ⟨rfl, sq_nr_ok kd_a fr_14 (by omega)⟩
  · exact absurd (nI_pos' (by omega)) c_6
set_option maxRecDepth 100000 in
set_option maxHeartbeats 150000 in
theorem ct_X2_init_60 (l : Launch) {S : sj_St} {r : Nat} (kd_a : sj_kd S r = some 2) : sj_Ctr l mX2_init [.ref r, .int (nI 60)] S (fun v T => v = none ∧ sq_nr S r 60 T) := by
  refine sj_start ([some (.ref r), some (.int (nI 60))]) (by decide +kernel) rfl rfl (fun X hX C hR => ?_)
  subst hX
  refine sj_aload_n C 1 rfl dX2_init_0 rfl rfl ?_
  refine sj_objI C 4 rfl dX2_init_1 (wr_2 _ (List.mem_of_getElem? (i := 14) (by decide +kernel))) rfl ?_
  refine sj_aload_n C 5 rfl dX2_init_4 rfl rfl ?_
  refine sj_iload_n C 6 rfl dX2_init_5 rfl rfl ?_
  refine sj_if_ge C 13 9 rfl rfl dX2_init_6 (fun c_6 => ?_) (fun c_6 => ?_)
  · refine sj_iload_n C 14 rfl dX2_init_13 rfl rfl ?_
    refine sj_newa C 16 rfl dX2_init_14 (wr_1 _ (List.mem_of_getElem? (i := 3) (by decide +kernel))) (by omega) rfl (fun a_14 fr_14 => ?_)
    refine sj_putRF (v := some a_14) C 19 rfl fd_X2_7 dX2_init_16 rfl rfl rfl (fun _ _ _ h => by cases h; rfl) (sj_noN _ _ (by decide +kernel)) (show sj_kd (sj_nA S a_14 60) r = some 2 from (sj_up_ne _ _ (sq_ne_none fr_14 kd_a)).trans kd_a) ?_
    refine sj_vret C hR rfl rfl dX2_init_19 ?_
    exact ⟨rfl, sq_nr_ok kd_a fr_14 (by omega)⟩
  · exact absurd (nI_pos' (by omega)) c_6
theorem sq_xp_tq {P Q : Nat → Prop} {S T U : sj_St} (h : sq_xp P S T) (g : sq_xp Q T U) (hq : ∀ a c, sj_kd S a = some c → Q a → P a) : sq_xp P S U := fun a c hk => by
  obtain ⟨h1, h2⟩ := h a c hk
  obtain ⟨g1, g2⟩ := g a c h1
  refine ⟨g1, fun hp => ?_⟩
  obtain ⟨x1, x2, x3, x4, x5, x6⟩ := h2 hp
  obtain ⟨y1, y2, y3, y4, y5, y6⟩ := g2 (fun e => hp (hq a c hk e))
  exact ⟨y1.trans x1, y2.trans x2, y3.trans x3, y4.trans x4, y5.trans x5, y6.trans x6⟩
theorem sq_xp_new {P : Nat → Prop} {S T U : sj_St} {r : Nat} (h : sq_xp P S T) (f : sj_kd S r = none) (g : sq_xp (fun b => b = r) T U) : sq_xp P S U := sq_xp_tq h g (fun a c hk e => absurd (e ▸ hk : sj_kd S r = some c) (by rw [f]; exact fun h => by cases h))
theorem sq_fb {P : Nat → Prop} {S T : sj_St} {a : Nat} (h : sq_xp P S T) (f : sj_kd T a = none) : sj_kd S a = none := by
  cases hk : sj_kd S a with
  | none => rfl
  | some c => exact absurd ((h a c hk).1.symm.trans f) (fun h => by cases h)
theorem sj_rf_wRf (S : sj_St) (a k : Nat) (v : Option Nat) : sj_rf (sj_wRf S a k v) a k = v := by
  show sj_up _ a (sj_up _ k v) a k = v
  rw [sj_up_self, sj_up_self]
theorem sj_rf_wRn (S : sj_St) {a b k j : Nat} (v : Option Nat) (h : b ≠ a ∨ j ≠ k) : sj_rf (sj_wRf S a k v) b j = sj_rf S b j := by
  show sj_up _ a (sj_up _ k v) b j = _
  by_cases hb : b = a
  · subst hb
    rw [sj_up_self, sj_up_ne _ _ (h.resolve_left (fun h => h rfl))]
    rfl
  · rw [sj_up_ne _ _ hb]
    rfl
/-- a sheet made: its marks' row and its numbers' row are new -/
def sq_nsh (S : sj_St) (a k : Nat) (f : Nat → Int32) (T : sj_St) : Prop := ∃ rm cm rn cn, (sj_kd S rm = none ∧ sj_kd S cm = none ∧ sj_kd S rn = none ∧ sj_kd S cn = none ∧ cn ≠ cm ∧ rn ≠ rm) ∧ sj_kd T a = some 3 ∧ sj_fi T a 0 = nI k ∧ sj_rf T a 1 = some rn ∧ sj_rw T rn cn 40 ∧ sj_rf T a 2 = some rm ∧ sj_rw T rm cm 6 ∧ sj_ia T cm = (fun _ => 0) ∧ sj_ia T cn = f ∧ sq_xp (fun b => b = a) S T
theorem sq_nsh_ok {S S1 S2 : sj_St} {a k a5 cm a37 cn : Nat} (ka : sj_kd S a = some 3) (f5 : sj_kd S a5 = none) (fcm : sj_kd (sj_nO S a5 2) cm = none) (hrm : sj_rw S1 a5 cm 6) (icm : sj_ia S1 cm = fun _ => 0) (x1 : sq_xp (fun b => b = a5) (sj_nO S a5 2) S1) (f37 : sj_kd S1 a37 = none) (fcn : sj_kd (sj_nO (sj_wFi (sj_wRf S1 a 2 (some a5)) a 0 (nI k)) a37 2) cn = none) (hrn : sj_rw S2 a37 cn 40) (icn : sj_ia S2 cn = fun _ => 0) (x2 : sq_xp (fun b => b = a37) (sj_nO (sj_wFi (sj_wRf S1 a 2 (some a5)) a 0 (nI k)) a37 2) S2) {f : Nat → Int32} : sq_nsh S a k f (sj_sIa (sj_wRf S2 a 1 (some a37)) cn f) ∧ sj_kd S2 a = some 3 ∧ (∀ r2 c2 n2, sj_rw S r2 c2 n2 → sj_rw (sj_wRf S2 a 1 (some a37)) r2 c2 n2 ∧ sj_ia (sj_wRf S2 a 1 (some a37)) c2 = sj_ia S c2 ∧ c2 ≠ cn) := by
  have n5 : a ≠ a5 := sq_ne_none f5 ka
  have ka0 : sj_kd (sj_nO S a5 2) a = some 3 := (sj_up_ne _ _ n5).trans ka
  have y1 : sq_xp (fun b => b = a) S S1 := sq_xp_new (sq_xp_nO f5) f5 x1
  have ka1 : sj_kd S1 a = some 3 := (y1 a 3 ka).1
  have y2 : sq_xp (fun b => b = a) S (sj_wFi (sj_wRf S1 a 2 (some a5)) a 0 (nI k)) := sq_xp_tr y1 (sq_xp_tr (sq_xp_rf rfl) (sq_xp_fr (sq_fr_fi 0 _ rfl)))
  have f37S : sj_kd S a37 = none := sq_fb y1 f37
  have y3 : sq_xp (fun b => b = a) S S2 := sq_xp_new (sq_xp_tr y2 (sq_xp_nO f37)) f37S x2
  have y4 : sq_xp (fun b => b = a37) (sj_wFi (sj_wRf S1 a 2 (some a5)) a 0 (nI k)) S2 := sq_xp_tr (sq_xp_nO f37) x2
  have fcnS : sj_kd S cn = none := sq_fb (sq_xp_tr y2 (sq_xp_nO (P := fun b => b = a) f37)) fcn
  have fcn1 : sj_kd S1 cn = none := sq_fb (P := fun b => b = a) (S := S1) (sq_xp_tr (sq_xp_tr (sq_xp_rf rfl) (sq_xp_fr (sq_fr_fi 0 _ rfl))) (sq_xp_nO f37)) fcn
  have ncm : cn ≠ cm := (sq_ne_none fcn1 hrm.2.2.1).symm
  have nrm : a37 ≠ a5 := (sq_ne_none f37 hrm.1).symm
  have na37 : a ≠ a37 := sq_ne_none f37 ka1
  have ncm37 : cm ≠ a37 := sq_ne_none f37 hrm.2.2.1
  have ncma : cm ≠ a := (sq_ne_none fcm ka0).symm
  have hrm2 : sj_rw (sj_wFi (sj_wRf S1 a 2 (some a5)) a 0 (nI k)) a5 cm 6 := ⟨hrm.1, (sj_rf_wRn S1 (some a5) (Or.inl n5.symm)).trans hrm.2.1, hrm.2.2⟩
  have hrm4 : sj_rw S2 a5 cm 6 := sj_rw_xp y4 nrm.symm ncm37 hrm2
  have ka2 : sj_kd S2 a = some 3 := (y3 a 3 ka).1
  have y5 : sq_xp (fun b => b = a) S (sj_wRf S2 a 1 (some a37)) := sq_xp_tr y3 (sq_xp_rf rfl)
  refine ⟨⟨a5, cm, a37, cn, ⟨f5, sq_fb (sq_xp_nO (P := fun b => b = a) f5) fcm, f37S, fcnS, ncm, nrm⟩, ka2, ?_, sj_rf_wRf _ _ _ _, ⟨hrn.1, (sj_rf_wRn S2 (some a37) (Or.inl na37.symm)).trans hrn.2.1, hrn.2.2⟩, ?_, ⟨hrm4.1, (sj_rf_wRn S2 (some a37) (Or.inl n5.symm)).trans hrm4.2.1, hrm4.2.2⟩, ?_, sj_up_self _ _ _, ?_⟩, ka2, fun r2 c2 n2 h2 => ⟨?_, ?_, ?_⟩⟩
  · have h := congrFun ((y4 a 3 ka1).2 na37).2.2.1 0
    refine Eq.trans h ?_
    show sj_up _ a (sj_up _ 0 (nI k)) a 0 = nI k
    rw [sj_up_self, sj_up_self]
  · refine (sj_rf_wRn S2 (some a37) (Or.inr (by decide))).trans ?_
    have h := congrFun ((y4 a 3 ka1).2 na37).1 2
    exact Eq.trans h (sj_rf_wRf S1 a 2 (some a5))
  · refine (sj_up_ne _ _ (Ne.symm ncm)).trans ?_
    have h := ((y4 cm 8 hrm.2.2.1).2 ncm37).2.2.2.1
    exact Eq.trans h icm
  · exact sq_xp_tq y5 (Q := fun b => b = cn) (sq_xp_fr (sq_fr_ia f rfl)) (fun b c hb e => absurd (e ▸ hb : sj_kd S cn = some c) (by rw [fcnS]; exact fun h => by cases h))
  · exact sj_rw_xp y5 (fun e => by
      subst e
      exact absurd (h2.1.symm.trans ka) (by decide)) (fun e => by
      subst e
      exact absurd (h2.2.2.1.symm.trans ka) (by decide)) h2
  · exact ((y5 c2 8 h2.2.2.1).2 (fun e => by
      subst e
      exact absurd (h2.2.2.1.symm.trans ka) (by decide))).2.2.2.1
  · exact sq_ne_none fcnS h2.2.2.1
set_option maxRecDepth 100000 in
set_option maxHeartbeats 150000 in
theorem ct_X3_init (l : Launch) {S : sj_St} {a k r2 c2 : Nat} (kd_a0 : sj_kd S a = some 3) (hk : k ≤ 8) (h2 : sj_rw S r2 c2 40) : sj_Ctr l mX3_init [.ref a, .int (nI k), .ref r2] S (fun v T => v = none ∧ sq_nsh S a k (sj_cp 40 (sj_ia S c2) (fun _ => 0)) T) := by
  refine sj_start ([some (.ref a), some (.int (nI k)), some (.ref r2)]) (by decide +kernel) rfl rfl (fun X hX C hR => ?_)
  subst hX
  have kd_a := kd_a0
  refine sj_aload_n C 1 rfl dX3_init_0 rfl rfl ?_
  refine sj_objI C 4 rfl dX3_init_1 (wr_3 _ (List.mem_of_getElem? (i := 13) (by decide +kernel))) rfl ?_
  refine sj_aload_n C 5 rfl dX3_init_4 rfl rfl ?_
  refine sj_new C 8 rfl kk_X2 dX3_init_5 (⟨wr_3 _ (List.mem_of_getElem? (i := 14) (by decide +kernel)), wr_2 _ (List.mem_of_getElem? (i := 4) (by decide +kernel)), wr_2 _ (List.mem_of_getElem? (i := 5) (by decide +kernel))⟩) rfl (fun a_5 fr_5 => ?_)
  have kd_a_5 := sj_kd_nO S a_5 2
  have kd_a1 : sj_kd (sj_nO S a_5 2) a = some 3 := (sj_up_ne _ _ (sq_ne_none fr_5 kd_a)).trans kd_a
  refine sj_dup C 9 rfl dX3_init_8 rfl ?_
  refine sj_bipush C (6) 11 rfl dX3_init_9 (by decide) ?_
  rw [show (6 : Int32) = nI 6 from rfl]
  refine sj_callI C 14 rfl dX3_init_11 cv_X3_11 rfl (ct_X2_init_6 _ kd_a_5) rfl rfl rfl rfl rfl (fun v_11 S_11 hp_11 => ?_)
  obtain ⟨rfl, cm, fr_cm, hrm, icm, x1⟩ := hp_11
  have kd_a := (x1 a 3 kd_a1).1
  refine sj_putRF (v := some a_5) C 17 rfl fd_X3_14 dX3_init_14 rfl rfl rfl (fun _ _ _ h => by cases h; rfl) (sj_noN _ _ (by decide +kernel)) kd_a ?_
  refine sj_aload_n C 18 rfl dX3_init_17 rfl rfl ?_
  refine sj_iload_n C 19 rfl dX3_init_18 rfl rfl ?_
  refine sj_if_lt C 28 22 rfl rfl dX3_init_19 (fun c_19 => ?_) (fun c_19 => ?_)
  · exact absurd c_19 (nI_pos (by omega))
  · refine sj_iload_n C 23 rfl dX3_init_22 rfl rfl ?_
    refine sj_bipush C (8) 25 rfl dX3_init_23 (by decide) ?_
    refine sj_icmp_le C 32 28 rfl rfl dX3_init_25 (fun c_25 => ?_) (fun c_25 => ?_)
    · refine sj_iload_n C 33 rfl dX3_init_32 rfl rfl ?_
      refine sj_putIF C 36 rfl fd_X3_20 dX3_init_33 rfl rfl rfl (fun _ _ _ h => by cases h; rfl) (sj_noN _ _ (by decide +kernel)) kd_a ?_
      refine sj_aload_n C 37 rfl dX3_init_36 rfl rfl ?_
      refine sj_new C 40 rfl kk_X2 dX3_init_37 (⟨wr_3 _ (List.mem_of_getElem? (i := 14) (by decide +kernel)), wr_2 _ (List.mem_of_getElem? (i := 4) (by decide +kernel)), wr_2 _ (List.mem_of_getElem? (i := 5) (by decide +kernel))⟩) rfl (fun a_37 fr_37 => ?_)
      have kd_a_37 := sj_kd_nO (sj_wFi (sj_wRf S_11 a 2 (some a_5)) a 0 (nI k)) a_37 2
      have kd_a2 : sj_kd (sj_nO (sj_wFi (sj_wRf S_11 a 2 (some a_5)) a 0 (nI k)) a_37 2) a = some 3 := (sj_up_ne _ _ (sq_ne_none fr_37 kd_a)).trans kd_a
      refine sj_dup C 41 rfl dX3_init_40 rfl ?_
      refine sj_bipush C (40) 43 rfl dX3_init_41 (by decide) ?_
      rw [show (40 : Int32) = nI 40 from rfl]
      refine sj_callI C 46 rfl dX3_init_43 cv_X3_11 rfl (ct_X2_init_40 _ kd_a_37) rfl rfl rfl rfl rfl (fun v_43 S_43 hp_43 => ?_)
      obtain ⟨rfl, cn, fr_cn, hrn, icn, x2⟩ := hp_43
      have kd_a := (x2 a 3 kd_a2).1
      refine sj_putRF (v := some a_37) C 49 rfl fd_X3_24 dX3_init_46 rfl rfl rfl (fun _ _ _ h => by cases h; rfl) (sj_noN _ _ (by decide +kernel)) kd_a ?_
      have rf_a_1 := sj_rf_wRf S_43 a 1 (some a_37)
      have hrn5 : sj_rw (sj_wRf S_43 a 1 (some a_37)) a_37 cn 40 := ⟨hrn.1, (sj_rf_wRn S_43 (some a_37) (Or.inl (sq_ne_none (S := S_11) fr_37 (x1 a 3 kd_a1).1).symm)).trans hrn.2.1, hrn.2.2⟩
      have kd_a_37 := hrn5.1
      obtain ⟨hout, _, hfin⟩ := sq_nsh_ok (f := (sj_cp 40 (sj_ia S c2) (fun _ => 0))) kd_a0 fr_5 fr_cm hrm icm x1 fr_37 fr_cn hrn icn x2
      refine sj_aload_n C 50 rfl dX3_init_49 rfl rfl ?_
      refine sj_getr C 53 rfl fd_X3_24 dX3_init_50 kd_a rf_a_1 ?_
      refine sj_aload_n C 54 rfl dX3_init_53 rfl rfl ?_
      refine sj_callVv C 57 rfl dX3_init_54 cv_X3_27 rfl (ct_X2_copyFrom _ hrn5 (hfin _ _ _ h2).1 (hfin _ _ _ h2).2.2.symm) rfl rfl rfl ⟨_, _, kd_a_37, rfl, rfl, by decide⟩ ⟨rfl, rfl⟩ ?_
      refine sj_vret C hR rfl rfl dX3_init_57 ?_
      have e1 := (hfin _ _ _ h2).2.1
      have e2 : sj_ia (sj_wRf S_43 a 1 (some a_37)) cn = fun _ => 0 := icn
      rw [e1, e2]
      exact ⟨rfl, hout⟩
    · exact absurd (nI_le (b := 8) (a := k) (by omega) (by omega)) c_25
set_option maxRecDepth 100000 in
set_option maxHeartbeats 150000 in
theorem ct_X2_copyFrom_null (l : Launch) {S : sj_St} {r c n : Nat} (h : sj_rw S r c n) : sj_Ctr l mX2_copyFrom [.ref r, .null] S (sj_eq none S) := by
  refine sj_start ([some (.ref r), some (.null), none]) (by decide +kernel) rfl rfl (fun X hX C hR => ?_)
  subst hX
  refine sj_aload_n0 C 1 rfl dX2_copyFrom_0 rfl rfl ?_
  refine sj_ifnonnull (o := none) C 5 4 rfl rfl dX2_copyFrom_1 (fun w_1 c_1 => absurd c_1 (by simp)) (fun c_1 => ?_)
  refine sj_vret C hR rfl rfl dX2_copyFrom_4 ?_
  exact ⟨rfl, rfl⟩
set_option maxRecDepth 100000 in
set_option maxHeartbeats 150000 in
theorem ct_X3_init_0 (l : Launch) {S : sj_St} {a : Nat} (kd_a0 : sj_kd S a = some 3) : sj_Ctr l mX3_init [.ref a, .int (nI 0), .null] S (fun v T => v = none ∧ sq_nsh S a 0 (fun _ => 0) T) := by
  refine sj_start ([some (.ref a), some (.int (nI 0)), some (.null)]) (by decide +kernel) rfl rfl (fun X hX C hR => ?_)
  subst hX
  have kd_a := kd_a0
  refine sj_aload_n C 1 rfl dX3_init_0 rfl rfl ?_
  refine sj_objI C 4 rfl dX3_init_1 (wr_3 _ (List.mem_of_getElem? (i := 13) (by decide +kernel))) rfl ?_
  refine sj_aload_n C 5 rfl dX3_init_4 rfl rfl ?_
  refine sj_new C 8 rfl kk_X2 dX3_init_5 (⟨wr_3 _ (List.mem_of_getElem? (i := 14) (by decide +kernel)), wr_2 _ (List.mem_of_getElem? (i := 4) (by decide +kernel)), wr_2 _ (List.mem_of_getElem? (i := 5) (by decide +kernel))⟩) rfl (fun a_5 fr_5 => ?_)
  have kd_a_5 := sj_kd_nO S a_5 2
  have kd_a1 : sj_kd (sj_nO S a_5 2) a = some 3 := (sj_up_ne _ _ (sq_ne_none fr_5 kd_a)).trans kd_a
  refine sj_dup C 9 rfl dX3_init_8 rfl ?_
  refine sj_bipush C (6) 11 rfl dX3_init_9 (by decide) ?_
  rw [show (6 : Int32) = nI 6 from rfl]
  refine sj_callI C 14 rfl dX3_init_11 cv_X3_11 rfl (ct_X2_init_6 _ kd_a_5) rfl rfl rfl rfl rfl (fun v_11 S_11 hp_11 => ?_)
  obtain ⟨rfl, cm, fr_cm, hrm, icm, x1⟩ := hp_11
  have kd_a := (x1 a 3 kd_a1).1
  refine sj_putRF (v := some a_5) C 17 rfl fd_X3_14 dX3_init_14 rfl rfl rfl (fun _ _ _ h => by cases h; rfl) (sj_noN _ _ (by decide +kernel)) kd_a ?_
  refine sj_aload_n C 18 rfl dX3_init_17 rfl rfl ?_
  refine sj_iload_n C 19 rfl dX3_init_18 rfl rfl ?_
  refine sj_if_lt C 28 22 rfl rfl dX3_init_19 (fun c_19 => ?_) (fun c_19 => ?_)
  · exact absurd c_19 (nI_pos (by omega))
  · refine sj_iload_n C 23 rfl dX3_init_22 rfl rfl ?_
    refine sj_bipush C (8) 25 rfl dX3_init_23 (by decide) ?_
    refine sj_icmp_le C 32 28 rfl rfl dX3_init_25 (fun c_25 => ?_) (fun c_25 => ?_)
    · refine sj_iload_n C 33 rfl dX3_init_32 rfl rfl ?_
      refine sj_putIF C 36 rfl fd_X3_20 dX3_init_33 rfl rfl rfl (fun _ _ _ h => by cases h; rfl) (sj_noN _ _ (by decide +kernel)) kd_a ?_
      refine sj_aload_n C 37 rfl dX3_init_36 rfl rfl ?_
      refine sj_new C 40 rfl kk_X2 dX3_init_37 (⟨wr_3 _ (List.mem_of_getElem? (i := 14) (by decide +kernel)), wr_2 _ (List.mem_of_getElem? (i := 4) (by decide +kernel)), wr_2 _ (List.mem_of_getElem? (i := 5) (by decide +kernel))⟩) rfl (fun a_37 fr_37 => ?_)
      have kd_a_37 := sj_kd_nO (sj_wFi (sj_wRf S_11 a 2 (some a_5)) a 0 (nI 0)) a_37 2
      have kd_a2 : sj_kd (sj_nO (sj_wFi (sj_wRf S_11 a 2 (some a_5)) a 0 (nI 0)) a_37 2) a = some 3 := (sj_up_ne _ _ (sq_ne_none fr_37 kd_a)).trans kd_a
      refine sj_dup C 41 rfl dX3_init_40 rfl ?_
      refine sj_bipush C (40) 43 rfl dX3_init_41 (by decide) ?_
      rw [show (40 : Int32) = nI 40 from rfl]
      refine sj_callI C 46 rfl dX3_init_43 cv_X3_11 rfl (ct_X2_init_40 _ kd_a_37) rfl rfl rfl rfl rfl (fun v_43 S_43 hp_43 => ?_)
      obtain ⟨rfl, cn, fr_cn, hrn, icn, x2⟩ := hp_43
      have kd_a := (x2 a 3 kd_a2).1
      refine sj_putRF (v := some a_37) C 49 rfl fd_X3_24 dX3_init_46 rfl rfl rfl (fun _ _ _ h => by cases h; rfl) (sj_noN _ _ (by decide +kernel)) kd_a ?_
      have rf_a_1 := sj_rf_wRf S_43 a 1 (some a_37)
      have hrn5 : sj_rw (sj_wRf S_43 a 1 (some a_37)) a_37 cn 40 := ⟨hrn.1, (sj_rf_wRn S_43 (some a_37) (Or.inl (sq_ne_none (S := S_11) fr_37 (x1 a 3 kd_a1).1).symm)).trans hrn.2.1, hrn.2.2⟩
      have kd_a_37 := hrn5.1
      obtain ⟨hout, _, hfin⟩ := sq_nsh_ok (f := (fun _ => 0)) kd_a0 fr_5 fr_cm hrm icm x1 fr_37 fr_cn hrn icn x2
      refine sj_aload_n C 50 rfl dX3_init_49 rfl rfl ?_
      refine sj_getr C 53 rfl fd_X3_24 dX3_init_50 kd_a rf_a_1 ?_
      refine sj_aload_n0 C 54 rfl dX3_init_53 rfl rfl ?_
      refine sj_callVv C 57 rfl dX3_init_54 cv_X3_27 rfl (ct_X2_copyFrom_null _ hrn5) rfl rfl rfl ⟨_, _, kd_a_37, rfl, rfl, by decide⟩ ⟨rfl, rfl⟩ ?_
      refine sj_vret C hR rfl rfl dX3_init_57 ?_
      have e2 : sj_ia (sj_wRf S_43 a 1 (some a_37)) cn = fun _ => 0 := icn
      rw [← e2, sj_sIa_id] at hout
      rw [e2] at hout
      exact ⟨rfl, hout⟩
    · exact absurd (nI_le (b := 8) (a := 0) (by omega) (by omega)) c_25
