/-! THE CLASS: how its table changes -/
def sj_sRa (S : sj_St) (a : Nat) (f : Nat → Option Nat) : sj_St := (S.1, S.2.1, S.2.2.1, S.2.2.2.1, S.2.2.2.2.1, sj_up S.2.2.2.2.2.1 a f, S.2.2.2.2.2.2)
theorem sj_wRa_eq (S : sj_St) (a k : Nat) (v : Option Nat) : sj_wRa S a k v = sj_sRa S a (va_up (sj_ra S a) k v) := rfl
theorem sj_ra_sRa (S : sj_St) (a : Nat) (f : Nat → Option Nat) : sj_ra (sj_sRa S a f) a = f := sj_up_self _ _ _
theorem sj_ra_sRa_ne (S : sj_St) {a b : Nat} (f : Nat → Option Nat) (h : b ≠ a) : sj_ra (sj_sRa S a f) b = sj_ra S b := sj_up_ne _ _ h
theorem sj_sRa_sRa (S : sj_St) (a : Nat) (f g : Nat → Option Nat) : sj_sRa (sj_sRa S a f) a g = sj_sRa S a g := by
  unfold sj_sRa
  dsimp only
  rw [sj_up_up]
theorem sj_sRa_id (S : sj_St) (a : Nat) : sj_sRa S a (sj_ra S a) = S := by
  unfold sj_sRa sj_ra
  rw [sj_up_id]
/-- S' is S but on the cells of P, where numbers and rows of references may be others -/
def sq_fr (P : Nat → Prop) (S S' : sj_St) : Prop := S'.1 = S.1 ∧ S'.2.1 = S.2.1 ∧ S'.2.2.1 = S.2.2.1 ∧ (∀ a, ¬ P a → sj_fi S' a = sj_fi S a ∧ sj_ia S' a = sj_ia S a ∧ sj_ra S' a = sj_ra S a) ∧ S'.2.2.2.2.2.2 = S.2.2.2.2.2.2
theorem sq_fr_id {P : Nat → Prop} {S : sj_St} : sq_fr P S S := ⟨rfl, rfl, rfl, fun _ _ => ⟨rfl, rfl, rfl⟩, rfl⟩
theorem sq_fr_tr {P : Nat → Prop} {S T U : sj_St} (h : sq_fr P S T) (g : sq_fr P T U) : sq_fr P S U := ⟨g.1.trans h.1, g.2.1.trans h.2.1, g.2.2.1.trans h.2.2.1, fun a ha => ⟨(g.2.2.2.1 a ha).1.trans (h.2.2.2.1 a ha).1, (g.2.2.2.1 a ha).2.1.trans (h.2.2.2.1 a ha).2.1, (g.2.2.2.1 a ha).2.2.trans (h.2.2.2.1 a ha).2.2⟩, g.2.2.2.2.trans h.2.2.2.2⟩
theorem sq_fr_up {P Q : Nat → Prop} {S T : sj_St} (h : sq_fr P S T) (hq : ∀ a, P a → Q a) : sq_fr Q S T := ⟨h.1, h.2.1, h.2.2.1, fun a ha => h.2.2.2.1 a (fun hp => ha (hq a hp)), h.2.2.2.2⟩
theorem sq_fr_fi {P : Nat → Prop} {S : sj_St} {a : Nat} (k : Nat) (v : Int32) (h : P a) : sq_fr P S (sj_wFi S a k v) := ⟨rfl, rfl, rfl, fun b hb => ⟨sj_up_ne _ _ (fun e => hb (e ▸ h)), rfl, rfl⟩, rfl⟩
theorem sq_fr_ia {P : Nat → Prop} {S : sj_St} {a : Nat} (f : Nat → Int32) (h : P a) : sq_fr P S (sj_sIa S a f) := ⟨rfl, rfl, rfl, fun b hb => ⟨rfl, sj_up_ne _ _ (fun e => hb (e ▸ h)), rfl⟩, rfl⟩
theorem sq_fr_ra {P : Nat → Prop} {S : sj_St} {a : Nat} (f : Nat → Option Nat) (h : P a) : sq_fr P S (sj_sRa S a f) := ⟨rfl, rfl, rfl, fun b hb => ⟨rfl, rfl, sj_up_ne _ _ (fun e => hb (e ▸ h))⟩, rfl⟩
theorem sq_fr_os {P : Nat → Prop} {S : sj_St} {o : Nat} {d : Nat → Nat} (c : sq_C) (h0 : P o) (h2 : P (d 2)) (h4 : P (d 4)) (h6 : P (d 6)) (h8 : P (d 8)) : sq_fr P S (sq_os S o d c) := sq_fr_tr (sq_fr_tr (sq_fr_tr (sq_fr_tr (sq_fr_tr (sq_fr_fi 0 _ h0) (sq_fr_fi 1 _ h0)) (sq_fr_ia _ h2)) (sq_fr_ia _ h4)) (sq_fr_ia _ h6)) (sq_fr_ia _ h8)
/-- the cells of a table -/
def sq_P (D : Nat → Nat) (a : Nat) : Prop := ∃ i, i < 16 ∧ a = D i
theorem sq_Pi (D : Nat → Nat) {i : Nat} (h : i < 16 := by omega) : sq_P D (D i) := ⟨i, h, rfl⟩
theorem sj_rw_fr {P : Nat → Prop} {S T : sj_St} (h : sq_fr P S T) {r c n : Nat} (g : sj_rw S r c n) : sj_rw T r c n := by
  unfold sj_rw sj_kd sj_rf sj_il at *
  rw [h.1, h.2.1, h.2.2.1]
  exact g
theorem sq_ol_fr {P : Nat → Prop} {S T : sj_St} (h : sq_fr P S T) {o : Nat} {d : Nat → Nat} (g : sq_ol S o d) : sq_ol T o d := by
  unfold sq_ol sj_rw sj_kd sj_rf sj_il at *
  rw [h.1, h.2.1, h.2.2.1]
  exact g
theorem sq_tl_fr {P : Nat → Prop} {S T : sj_St} (h : sq_fr P S T) {D : Nat → Nat} (g : sq_tl S D) : sq_tl T D := by
  unfold sq_tl sq_ol sj_rw sj_kd sj_rf sj_il at *
  rw [h.1, h.2.1, h.2.2.1]
  exact g
theorem sq_sm_fr {P F : Nat → Prop} {S T : sj_St} (h : sq_fr P S T) (hPF : ∀ a, P a → F a) {m : Nat → Int32} {i a : Nat} (g : sq_sm S F m i a) : sq_sm T F m i a := by
  obtain ⟨rn, cn, rm, cm, ⟨g1, g2, g3, g4, g5, g6, g7⟩, hF, hs, hm⟩ := g
  have e1 := h.2.2.2.1 a (fun hp => hF.1 (hPF _ hp))
  have e2 := h.2.2.2.1 cn (fun hp => hF.2.1 (hPF _ hp))
  have e3 := h.2.2.2.1 cm (fun hp => hF.2.2 (hPF _ hp))
  refine ⟨rn, cn, rm, cm, ⟨?_, ?_, g3, ?_, sj_rw_fr h g5, ?_, sj_rw_fr h g7⟩, hF, fun k w hk hw => ?_, fun j hj => ?_⟩
  · unfold sj_kd at *
    rw [h.1]
    exact g1
  · rw [e1.1]
    exact g2
  · unfold sj_rf at *
    rw [h.2.1]
    exact g4
  · unfold sj_rf at *
    rw [h.2.1]
    exact g6
  · rw [e2.2.1]
    exact hs k w hk hw
  · rw [e3.2.1]
    exact hm j hj
/-- what another table's change leaves -/
theorem sq_T_fr {P F : Nat → Prop} {S T : sj_St} (h : sq_fr P S T) (hPF : ∀ a, P a → F a) {D : Nat → Nat} (hD : ∀ i, i < 16 → ¬ P (D i)) {m : Nat → Int32} (g : sq_T S F D m) : sq_T T F D m := by
  obtain ⟨g1, ⟨g2, g3, g4⟩, g5, g6, g7, g8⟩ := g
  have e : ∀ i, i < 16 → sj_fi T (D i) = sj_fi S (D i) ∧ sj_ia T (D i) = sj_ia S (D i) ∧ sj_ra T (D i) = sj_ra S (D i) := fun i hi => h.2.2.2.1 _ (hD i hi)
  have eo : sq_or T (D 5) (fun i => D (5 + i)) = sq_or S (D 5) (fun i => D (5 + i)) := by
    unfold sq_or
    rw [(e 5 (by omega)).1, (e (5 + 2) (by omega)).2.1, (e (5 + 4) (by omega)).2.1, (e (5 + 6) (by omega)).2.1, (e (5 + 8) (by omega)).2.1]
  refine ⟨sq_tl_fr h g1, ⟨?_, ?_, ?_⟩, fun i hi => ?_, fun j hj => ?_, ?_, fun i hi => ?_⟩
  · rw [(e 0 (by omega)).1]
    exact g2
  · rw [(e 0 (by omega)).1]
    exact g3
  · rw [(e 0 (by omega)).1]
    exact g4
  · rw [(e 4 (by omega)).2.1]
    exact g5 i hi
  · rw [(e 15 (by omega)).2.1]
    exact g6 j hj
  · rw [eo]
    exact g7
  · obtain ⟨a, ha, hs⟩ := g8 i hi
    exact ⟨a, by rw [(e 1 (by omega)).2.2]; exact ha, sq_sm_fr h hPF hs⟩
/-- what lies in a table's row of sheets are sheets -/
def sq_k3 (S : sj_St) (D : Nat → Nat) : Prop := ∀ j b, j < 8 → sj_ra S (D 1) j = some b → sj_kd S b = some 3
theorem sq_k3_fr {P : Nat → Prop} {S T : sj_St} (h : sq_fr P S T) {D : Nat → Nat} (hD : ¬ P (D 1)) (g : sq_k3 S D) : sq_k3 T D := by
  unfold sq_k3 sj_kd at *
  rw [(h.2.2.2.1 _ hD).2.2, h.1]
  exact g
section
variable {V : sj_St} {o : Nat} {d : Nat → Nat}
/-- the changing methods of the oaths, over any state -/
theorem sq_c_forget (l : Launch) (h : sq_ol V o d) {n : Nat} (h0 : sj_fi V o 0 = nI n) (hn : n ≤ 28) (s : Int32) : sj_Ctr l mX1_forgetSheet [.ref o, .int s] V (sj_eq (some (.int (nI (n - (sq_fw s n (sj_ia V (d 2)) (sj_ia V (d 4)) (sj_ia V (d 6))).1)))) (sq_fS V o d (sj_fi V o 1) s (sj_ia V (d 8)) (sq_fw s n (sj_ia V (d 2)) (sj_ia V (d 4)) (sj_ia V (d 6))))) := by
  have t := ct_X1_forgetSheet l h hn (w := sj_fi V o 1) (f1 := sj_ia V (d 2)) (f2 := sj_ia V (d 4)) (f3 := sj_ia V (d 6)) (f7 := sj_ia V (d 8)) s
  rw [sq_os_eq h0] at t
  exact t
theorem sq_c_removeAt (l : Launch) (h : sq_ol V o d) {n : Nat} (h0 : sj_fi V o 0 = nI n) (hn : n ≤ 28) (k : Nat) (hk : k < n) : sj_Ctr l mX1_removeAt [.ref o, .int (nI k)] V (sj_eq none (sq_os V o d (nI (n - 1), sj_fi V o 1, sj_cu k 27 (sj_ia V (d 2)), sj_cu k 27 (sj_ia V (d 4)), sj_cu k 27 (sj_ia V (d 6)), sj_cp 8 (sq_hn (sj_cu k 27 (sj_ia V (d 2))) (sj_cu k 27 (sj_ia V (d 4))) (sj_cu k 27 (sj_ia V (d 6))) (n - 1)) (sj_ia V (d 8))))) := by
  have t := ct_X1_removeAt l h hn (w := sj_fi V o 1) (f1 := sj_ia V (d 2)) (f2 := sj_ia V (d 4)) (f3 := sj_ia V (d 6)) (f7 := sj_ia V (d 8)) k hk
  rw [sq_os_eq h0] at t
  exact t
theorem sq_c_add (l : Launch) (h : sq_ol V o d) {n : Nat} (h0 : sj_fi V o 0 = nI n) (hn : n ≤ 28) (hlt : n < 28) (a b : Int32) (like : Bool) : sj_Ctr l mX1_add [.ref o, .int a, .int b, .int (sj_bi like)] V (sj_eq none (sq_os V o d (nI (n + 1), sj_fi V o 1 + 1, upd (sj_ia V (d 2)) n a, upd (sj_ia V (d 4)) n b, upd (sj_ia V (d 6)) n (sj_bi like), sj_cp 8 (sq_hn (upd (sj_ia V (d 2)) n a) (upd (sj_ia V (d 4)) n b) (upd (sj_ia V (d 6)) n (sj_bi like)) (n + 1)) (sj_ia V (d 8))))) := by
  have t := ct_X1_add l h hn (w := sj_fi V o 1) (f1 := sj_ia V (d 2)) (f2 := sj_ia V (d 4)) (f3 := sj_ia V (d 6)) (f7 := sj_ia V (d 8)) hlt a b like
  rw [sq_os_eq h0] at t
  exact t
theorem sq_c_takeOver (l : Launch) (h : sq_ol V o d) {e : Nat} {d' : Nat → Nat} (h' : sq_ol V e d') (hp : sq_op o e d d') : sj_Ctr l mX1_takeOver [.ref o, .ref e] V (sj_eq none (sq_os V o d (sq_tc (sq_or V o d) (sq_or V e d')))) := by
  have t := ct_X1_takeOver l h h' hp (n := sj_fi V o 0) (w := sj_fi V o 1) (f1 := sj_ia V (d 2)) (f2 := sj_ia V (d 4)) (f3 := sj_ia V (d 6)) (f7 := sj_ia V (d 8))
  rw [sq_os_eq rfl] at t
  exact t
end
def sq_gr (m : Nat → Int32) (y : Int32) (k : Nat) (f : Nat → Int32) : Nat → Int32 := fun j => if j < k then sj_age m y j else f j
theorem sq_gr_0 (m : Nat → Int32) (y : Int32) (f : Nat → Int32) : sq_gr m y 0 f = f := by
  funext j
  exact if_neg (by omega)
theorem sq_gr_s (m : Nat → Int32) (y : Int32) (k : Nat) (f : Nat → Int32) : upd (sq_gr m y k f) k (sj_age m y k) = sq_gr m y (k + 1) f := by
  funext j
  unfold upd sq_gr
  by_cases h : j = k
  · rw [if_pos h, if_pos (by omega), h]
  · rw [if_neg h]
    by_cases h2 : j < k
    · rw [if_pos h2, if_pos (by omega)]
    · rw [if_neg h2, if_neg (by omega)]
def sq_cr (g k : Nat) (f : Nat → Option Nat) : Nat → Option Nat := fun j => if g ≤ j ∧ j < k then f (j + 1) else f j
theorem sq_cr_0 (g : Nat) (f : Nat → Option Nat) : sq_cr g g f = f := by
  funext j
  exact if_neg (by omega)
theorem sq_cr_s {g k : Nat} (h : g ≤ k) (f : Nat → Option Nat) : va_up (sq_cr g k f) k (sq_cr g k f (k + 1)) = sq_cr g (k + 1) f := by
  funext j
  have e : sq_cr g k f (k + 1) = f (k + 1) := if_neg (by omega)
  rw [e]
  unfold va_up sq_cr
  by_cases h1 : j = k
  · subst h1
    rw [if_pos rfl, if_pos (by omega)]
  · rw [if_neg h1]
    by_cases h2 : g ≤ j ∧ j < k
    · rw [if_pos h2, if_pos (by omega)]
    · rw [if_neg h2, if_neg (by omega)]
def sj_cpr (n : Nat) (f g : Nat → Option Nat) : Nat → Option Nat := fun j => if j < n then f j else g j
theorem sj_cpr_0 (f g : Nat → Option Nat) : sj_cpr 0 f g = g := by
  funext j
  exact if_neg (by omega)
theorem sj_cpr_s (k : Nat) (f g : Nat → Option Nat) : va_up (sj_cpr k f g) k (f k) = sj_cpr (k + 1) f g := by
  funext j
  unfold va_up sj_cpr
  by_cases h : j = k
  · rw [if_pos h, if_pos (by omega), h]
  · rw [if_neg h]
    by_cases h2 : j < k
    · rw [if_pos h2, if_pos (by omega)]
    · rw [if_neg h2, if_neg (by omega)]
set_option maxRecDepth 100000 in
set_option maxHeartbeats 150000 in
theorem ct_X4_growOlder (l : Launch) {S : sj_St} {F : Nat → Prop} {D : Nat → Nat} {m : Nat → Int32} (h : sq_T S F D m) (hI : sj_inv m) (y : Int32) : sj_Ctr l mX4_growOlder [.ref (D 0), .int y] S (sj_eq (some (.int (sj_old m y (sj_tn (m 9))))) (sj_sIa S (D 4) (sq_gr m y ((sj_tn (m 9))) (sj_ia S (D 4))))) := by
  refine sj_start ([some (.ref (D 0)), some (.int y), none, none]) (by decide +kernel) rfl rfl (fun X hX C hR => ?_)
  subst hX
  obtain ⟨⟨kd_t, rf_t_0, ⟨rf_t_1, kd_sh, il_sh⟩, ⟨rf_t_2, hag⟩, ⟨rf_t_4, hol⟩, ⟨rf_t_5, hse⟩, hinj⟩, ⟨h3, h6, h7⟩, hA, hE, hRo, hSh⟩ := id h
  have kd_ag := hag.1
  have kd_o := hol.1
  have kd_se := hse.1
  obtain ⟨h9, hn8⟩ := id hI.1
  have hv := sj_inv_oav hI
  have gag : ∀ f, sj_rw (sj_sIa S (D 4) f) (D 3) (D 4) 8 := fun _ => hag
  have eg : ∀ f, sj_fi (sj_sIa S (D 4) f) (D 0) 3 = m 9 := fun _ => h3
  have cut_4 : ∀ T, T = (sj_sIa S (D 4) (sq_gr m y (0) (sj_ia S (D 4)))) → sj_G X T 0 0 [some (.ref (D 0)), some (.int y), some (.int (sj_old m y (0))), some (.int (nI (0)))] 4 [] := by
    refine sj_down (fun k => ∀ T, T = (sj_sIa S (D 4) (sq_gr m y (k) (sj_ia S (D 4)))) → sj_G X T 0 0 [some (.ref (D 0)), some (.int y), some (.int (sj_old m y (k))), some (.int (nI (k)))] 4 []) (sj_tn (m 9)) (fun k hk ih => ?_)
    intro T hT
    subst hT
    refine sj_iload_n C 5 rfl dX4_growOlder_4 rfl rfl ?_
    refine sj_aload_n C 6 rfl dX4_growOlder_5 rfl rfl ?_
    refine sj_getI C 9 rfl fd_X4_65 dX4_growOlder_6 kd_t ?_
    rw [eg]
    refine sj_icmp_ge C 54 12 rfl rfl dX4_growOlder_9 (fun c_9 => ?_) (fun c_9 => ?_)
    · have hkn : k = (sj_tn (m 9)) := by
        have h8 : ¬ k < (sj_tn (m 9)) := fun h7 => nI_ge h7 (by omega) (by rw [← h9]; exact c_9)
        omega
      rw [hkn]
      refine sj_iload_n C 55 rfl dX4_growOlder_54 rfl rfl ?_
      refine sj_iret C hR rfl rfl dX4_growOlder_55 ?_
      exact ⟨rfl, rfl⟩
    · have hlt : k < (sj_tn (m 9)) := Nat.not_le.mp fun h8 => c_9 (by rw [h9]; exact nI_le h8 (by omega))
      refine sj_aload_n C 13 rfl dX4_growOlder_12 rfl rfl ?_
      refine sj_getr C 16 rfl fd_X4_29 dX4_growOlder_13 kd_t rf_t_2 ?_
      refine sj_iload_n C 17 rfl dX4_growOlder_16 rfl rfl ?_
      refine sj_bipush C (99) 19 rfl dX4_growOlder_17 (by decide) ?_
      refine sj_aload_n C 20 rfl dX4_growOlder_19 rfl rfl ?_
      refine sj_getr C 23 rfl fd_X4_29 dX4_growOlder_20 kd_t rf_t_2 ?_
      refine sj_iload_n C 24 rfl dX4_growOlder_23 rfl rfl ?_
      refine sj_callVd C 27 rfl dX4_growOlder_24 cv_X4_79 rfl (ct_X2_at _ (gag _) _) rfl rfl rfl ⟨_, _, kd_ag, rfl, rfl, by decide⟩ ⟨rfl, rfl⟩ ?_
      rw [sj_ia_sIa, sj_at_nI _ (by omega) (by omega), show sq_gr m y k (sj_ia S (D 4)) k = sj_of m k 0 from (if_neg (by omega)).trans (hA k hlt)]
      refine sj_iload_n C 28 rfl dX4_growOlder_27 rfl rfl ?_
      refine sj_iadd C 29 rfl dX4_growOlder_28 ?_
      refine sj_mmin C 32 rfl dX4_growOlder_29 cv_X4_82 rfl ?_
      rw [sq_min99, show (if 99 < sj_of m k 0 + y then 99 else sj_of m k 0 + y) = sj_age m y k from rfl]
      refine sj_callVv C 35 rfl dX4_growOlder_32 cv_X4_54 rfl (ct_X2_put _ (gag _) _ _) rfl rfl rfl ⟨_, _, kd_ag, rfl, rfl, by decide⟩ ⟨rfl, rfl⟩ ?_
      rw [sj_put_nI (by omega) (by omega), sj_wIa_sIa, sq_gr_s]
      refine sj_iload_n C 36 rfl dX4_growOlder_35 rfl rfl ?_
      refine sj_aload_n C 37 rfl dX4_growOlder_36 rfl rfl ?_
      refine sj_getr C 40 rfl fd_X4_29 dX4_growOlder_37 kd_t rf_t_2 ?_
      refine sj_iload_n C 41 rfl dX4_growOlder_40 rfl rfl ?_
      refine sj_callVd C 44 rfl dX4_growOlder_41 cv_X4_79 rfl (ct_X2_at _ (gag _) _) rfl rfl rfl ⟨_, _, kd_ag, rfl, rfl, by decide⟩ ⟨rfl, rfl⟩ ?_
      rw [sj_ia_sIa, sj_at_nI _ (by omega) (by omega), show sq_gr m y (k + 1) (sj_ia S (D 4)) k = sj_age m y k from if_pos (by omega)]
      refine sj_mmax C 47 rfl dX4_growOlder_44 cv_X4_88 rfl ?_
      refine sj_istore_n_2 C 48 rfl dX4_growOlder_47 rfl rfl ?_
      refine sj_iinc_3 C 51 rfl dX4_growOlder_48 rfl rfl ?_
      refine sj_goto C 4 rfl dX4_growOlder_51 ?_
      rw [show (if sj_old m y k < sj_age m y k then sj_age m y k else sj_old m y k) = sj_old m y (k + 1) from rfl]
      rw [sj_n1]
      exact ih hlt _ rfl
  refine sj_iconstv C (-1) 1 rfl dX4_growOlder_0 rfl ?_
  refine sj_istore_n_2 C 2 rfl dX4_growOlder_1 rfl rfl ?_
  refine sj_iconstv C (0) 3 rfl dX4_growOlder_2 rfl ?_
  refine sj_istore_n_3 C 4 rfl dX4_growOlder_3 rfl rfl ?_
  exact cut_4 _ (by rw [sq_gr_0, sj_sIa_id])
set_option maxRecDepth 100000 in
set_option maxHeartbeats 150000 in
theorem ct_X4_putDown (l : Launch) {S : sj_St} {D : Nat → Nat} (h : sq_tl S D) {k a : Nat} (hk : k < 8) (h3 : sj_fi S (D 0) 3 = nI k) (ha : sj_kd S a = some 3) (v : Int32) : sj_Ctr l mX4_putDown [.ref (D 0), .ref a, .int v] S (sj_eq (some (.int (nI k))) (sj_wFi (sj_sIa (sj_sRa S (D 1) (va_up (sj_ra S (D 1)) k (some a))) (D 4) (upd (sj_ia S (D 4)) k v)) (D 0) 3 (nI (k + 1)))) := by
  refine sj_start ([some (.ref (D 0)), some (.ref a), some (.int v)]) (by decide +kernel) rfl rfl (fun X hX C hR => ?_)
  subst hX
  obtain ⟨kd_t, rf_t_0, ⟨rf_t_1, kd_sh, il_sh⟩, ⟨rf_t_2, hag⟩, ⟨rf_t_4, hol⟩, ⟨rf_t_5, hse⟩, hinj⟩ := id h
  have kd_ag := hag.1
  have kd_o := hol.1
  have kd_se := hse.1
  refine sj_aload_n C 1 rfl dX4_putDown_0 rfl rfl ?_
  refine sj_getI C 4 rfl fd_X4_65 dX4_putDown_1 kd_t ?_
  refine sj_if_lt C 19 7 rfl rfl dX4_putDown_4 (fun c_4 => ?_) (fun c_4 => ?_)
  · exact absurd (show nI k < 0 by rw [← h3]; exact c_4) (nI_pos (by omega))
  · refine sj_aload_n C 8 rfl dX4_putDown_7 rfl rfl ?_
    refine sj_getI C 11 rfl fd_X4_65 dX4_putDown_8 kd_t ?_
    refine sj_aload_n C 12 rfl dX4_putDown_11 rfl rfl ?_
    refine sj_getr C 15 rfl fd_X4_20 dX4_putDown_12 kd_t rf_t_1 ?_
    refine sj_alen9 C 16 rfl dX4_putDown_15 kd_sh ?_
    refine sj_icmp_lt C 21 19 rfl rfl dX4_putDown_16 (fun c_16 => ?_) (fun c_16 => ?_)
    · refine sj_aload_n C 22 rfl dX4_putDown_21 rfl rfl ?_
      refine sj_getr C 25 rfl fd_X4_20 dX4_putDown_22 kd_t rf_t_1 ?_
      refine sj_aload_n C 26 rfl dX4_putDown_25 rfl rfl ?_
      refine sj_getI C 29 rfl fd_X4_65 dX4_putDown_26 kd_t ?_
      refine sj_aload_n C 30 rfl dX4_putDown_29 rfl rfl ?_
      rw [show Value.ref a = va_rf (some a) from rfl]
      refine sj_aast9 C 31 rfl dX4_putDown_30 kd_sh (by show vp_in (sj_fi S (D 0) 3) (sj_il S (D 1)); rw [h3, il_sh]; exact vp_in_nI hk (by omega)) (fun b hb => by cases hb; exact ha) ?_
      rw [h3, nI_clamp (by omega), sj_wRa_eq]
      refine sj_aload_n C 32 rfl dX4_putDown_31 rfl rfl ?_
      refine sj_getr C 35 rfl fd_X4_29 dX4_putDown_32 kd_t rf_t_2 ?_
      refine sj_aload_n C 36 rfl dX4_putDown_35 rfl rfl ?_
      refine sj_getI C 39 rfl fd_X4_65 dX4_putDown_36 kd_t ?_
      rw [show sj_fi (sj_sRa S (D 1) (va_up (sj_ra S (D 1)) k (some a))) (D 0) 3 = nI k from h3]
      refine sj_iload_n C 40 rfl dX4_putDown_39 rfl rfl ?_
      refine sj_callVv C 43 rfl dX4_putDown_40 cv_X4_54 rfl (ct_X2_put _ (show sj_rw (sj_sRa S (D 1) (va_up (sj_ra S (D 1)) k (some a))) (D 3) (D 4) 8 from hag) _ _) rfl rfl rfl ⟨_, _, kd_ag, rfl, rfl, by decide⟩ ⟨rfl, rfl⟩ ?_
      rw [sj_put_nI (by omega) (by omega), sj_wIa_eq, show sj_ia (sj_sRa S (D 1) (va_up (sj_ra S (D 1)) k (some a))) (D 4) = sj_ia S (D 4) from rfl]
      refine sj_aload_n C 44 rfl dX4_putDown_43 rfl rfl ?_
      refine sj_dup C 45 rfl dX4_putDown_44 rfl ?_
      refine sj_getI C 48 rfl fd_X4_65 dX4_putDown_45 kd_t ?_
      rw [show sj_fi (sj_sIa (sj_sRa S (D 1) (va_up (sj_ra S (D 1)) k (some a))) (D 4) (upd (sj_ia S (D 4)) k v)) (D 0) 3 = nI k from h3]
      refine sj_iconstv C (1) 49 rfl dX4_putDown_48 rfl ?_
      refine sj_iadd C 50 rfl dX4_putDown_49 ?_
      rw [nI_1]
      refine sj_putI C 53 rfl fd_X4_65 dX4_putDown_50 rfl rfl kd_t ?_
      refine sj_aload_n C 54 rfl dX4_putDown_53 rfl rfl ?_
      refine sj_getI C 57 rfl fd_X4_65 dX4_putDown_54 kd_t ?_
      rw [sj_fi_wFi]
      refine sj_iconstv C (1) 58 rfl dX4_putDown_57 rfl ?_
      refine sj_isub C 59 rfl dX4_putDown_58 ?_
      refine sj_iret C hR rfl rfl dX4_putDown_59 ?_
      refine ⟨congrArg (fun z => some (Value.int z)) ?_, rfl⟩
      exact nI_pred k
    · exact absurd (by rw [h3, il_sh]; exact nI_lt (b := 8) hk (by omega)) c_16
/-- a table's sheet taken away, but for its oaths -/
def sq_ta (S : sj_St) (D : Nat → Nat) (i n : Nat) : sj_St := sj_wFi (sj_sIa (sj_sRa S (D 1) (sq_cr i 7 (sj_ra S (D 1)))) (D 4) (sj_cu i 7 (sj_ia S (D 4)))) (D 0) 3 (nI (n - 1))
def sq_tz (S : sj_St) (D : Nat → Nat) (i n N : Nat) : sj_St := sq_fS (sq_ta S D i n) (D 5) (fun i => D (5 + i)) (sj_fi S (D 5) 1) (nI i) (sj_ia S (D 13)) (sq_fw (nI i) N (sj_ia S (D 7)) (sj_ia S (D 9)) (sj_ia S (D 11)))
set_option maxRecDepth 100000 in
set_option maxHeartbeats 250000 in
theorem ct_X4_takeAway (l : Launch) {S : sj_St} {D : Nat → Nat} (h : sq_tl S D) (hk3 : sq_k3 S D) {i n N : Nat} (hi : i < n) (hn : n ≤ 8) (hN : N ≤ 28) (h3 : sj_fi S (D 0) 3 = nI n) (h0 : sj_fi S (D 5) 0 = nI N) : sj_Ctr l mX4_takeAway [.ref (D 0), .int (nI i)] S (sj_eq (some (.int (nI (N - (sq_fw (nI i) N (sj_ia S (D 7)) (sj_ia S (D 9)) (sj_ia S (D 11))).1)))) (sq_tz S D i n N)) := by
  refine sj_start ([some (.ref (D 0)), some (.int (nI i)), none]) (by decide +kernel) rfl rfl (fun X hX C hR => ?_)
  subst hX
  obtain ⟨kd_t, rf_t_0, ⟨rf_t_1, kd_sh, il_sh⟩, ⟨rf_t_2, hag⟩, ⟨rf_t_4, hol⟩, ⟨rf_t_5, hse⟩, hinj⟩ := id h
  have kd_ag := hag.1
  have kd_o := hol.1
  have kd_se := hse.1
  have e50 : D 5 ≠ D 0 := fun e => absurd (hinj 5 0 (by omega) (by omega) e) (by omega)
  have e4 : ∀ q, q < 16 → q ≠ 4 → D q ≠ D 4 := fun q hq h4 e => h4 (hinj q 4 hq (by omega) e)
  have ia9 : ∀ q, q < 16 → q ≠ 4 → sj_ia (sq_ta S D i n) (D q) = sj_ia S (D q) := fun q hq h4 => sj_ia_sIa_ne _ _ (e4 q hq h4)
  have fi9 : ∀ k, sj_fi (sq_ta S D i n) (D 5) k = sj_fi S (D 5) k := fun k => sj_fi_wFi_a _ 3 k _ e50
  have hforget := sq_c_forget X.2.1 (show sq_ol (sq_ta S D i n) (D 5) (fun i => D (5 + i)) from hol) (n := N) ((fi9 0).trans h0) hN (nI i)
  rw [fi9, show sj_ia (sq_ta S D i n) ((fun i => D (5 + i)) 2) = sj_ia S (D 7) from ia9 7 (by omega) (by omega), show sj_ia (sq_ta S D i n) ((fun i => D (5 + i)) 4) = sj_ia S (D 9) from ia9 9 (by omega) (by omega), show sj_ia (sq_ta S D i n) ((fun i => D (5 + i)) 6) = sj_ia S (D 11) from ia9 11 (by omega) (by omega), show sj_ia (sq_ta S D i n) ((fun i => D (5 + i)) 8) = sj_ia S (D 13) from ia9 13 (by omega) (by omega)] at hforget
  have cut_16 : ∀ T, T = (sj_sRa S (D 1) (sq_cr i (i) (sj_ra S (D 1)))) → sj_G X T 0 0 [some (.ref (D 0)), some (.int (nI i)), some (.int (nI (i)))] 16 [] := by
    refine sj_downFrom (fun k => ∀ T, T = (sj_sRa S (D 1) (sq_cr i (k) (sj_ra S (D 1)))) → sj_G X T 0 0 [some (.ref (D 0)), some (.int (nI i)), some (.int (nI (k)))] 16 []) i 7 (by omega) (fun k hgk hk ih => ?_)
    intro T hT
    subst hT
    refine sj_iload_n C 17 rfl dX4_takeAway_16 rfl rfl ?_
    refine sj_aload_n C 18 rfl dX4_takeAway_17 rfl rfl ?_
    refine sj_getr C 21 rfl fd_X4_20 dX4_takeAway_18 kd_t rf_t_1 ?_
    refine sj_alen9 C 22 rfl dX4_takeAway_21 kd_sh ?_
    rw [show sj_il (sj_sRa S (D 1) (sq_cr i (k) (sj_ra S (D 1)))) (D 1) = 8 from il_sh]
    refine sj_iconstv C (1) 23 rfl dX4_takeAway_22 rfl ?_
    refine sj_isub C 24 rfl dX4_takeAway_23 ?_
    
    refine sj_icmp_ge C 47 27 rfl rfl dX4_takeAway_24 (fun c_24 => ?_) (fun c_24 => ?_)
    · have hkn : k = 7 := by
        have h8 : ¬ k < 7 := fun h7 => nI_ge (b := 7) h7 (by omega) c_24
        omega
      subst hkn
      refine sj_aload_n C 48 rfl dX4_takeAway_47 rfl rfl ?_
      refine sj_getr C 51 rfl fd_X4_29 dX4_takeAway_48 kd_t rf_t_2 ?_
      refine sj_iload_n C 52 rfl dX4_takeAway_51 rfl rfl ?_
      refine sj_callVv C 55 rfl dX4_takeAway_52 cv_X4_72 rfl (ct_X2_closeUp _ (show sj_rw (sj_sRa S (D 1) (sq_cr i (7) (sj_ra S (D 1)))) (D 3) (D 4) 8 from hag) (g := i) (by omega)) rfl rfl rfl ⟨_, _, kd_ag, rfl, rfl, by decide⟩ ⟨rfl, rfl⟩ ?_
      rw [show sj_ia (sj_sRa S (D 1) (sq_cr i (7) (sj_ra S (D 1)))) (D 4) = sj_ia S (D 4) from rfl]
      refine sj_aload_n C 56 rfl dX4_takeAway_55 rfl rfl ?_
      refine sj_dup C 57 rfl dX4_takeAway_56 rfl ?_
      refine sj_getI C 60 rfl fd_X4_65 dX4_takeAway_57 kd_t ?_
      rw [show sj_fi (sj_sIa (sj_sRa S (D 1) (sq_cr i (7) (sj_ra S (D 1)))) (D 4) (sj_cu i 7 (sj_ia S (D 4)))) (D 0) 3 = nI n from h3]
      refine sj_iconstv C (1) 61 rfl dX4_takeAway_60 rfl ?_
      refine sj_isub C 62 rfl dX4_takeAway_61 ?_
      rw [show nI n - 1 = nI (n - 1) from sj_nsub (a := n) (b := 1) (by omega)]
      refine sj_putI C 65 rfl fd_X4_65 dX4_takeAway_62 rfl rfl kd_t ?_
      rw [show sj_wFi (sj_sIa (sj_sRa S (D 1) (sq_cr i (7) (sj_ra S (D 1)))) (D 4) (sj_cu i 7 (sj_ia S (D 4)))) (D 0) 3 (nI (n - 1)) = sq_ta S D i n from rfl]
      refine sj_aload_n C 66 rfl dX4_takeAway_65 rfl rfl ?_
      refine sj_getr C 69 rfl fd_X4_36 dX4_takeAway_66 kd_t rf_t_4 ?_
      refine sj_iload_n C 70 rfl dX4_takeAway_69 rfl rfl ?_
      refine sj_callVd C 73 rfl dX4_takeAway_70 cv_X4_75 rfl (hforget) rfl rfl rfl ⟨_, _, kd_o, rfl, rfl, by decide⟩ ⟨rfl, rfl⟩ ?_
      refine sj_iret C hR rfl rfl dX4_takeAway_73 ?_
      exact ⟨rfl, rfl⟩
    · have hlt : k < 7 := Nat.not_le.mp fun h8 => c_24 (nI_le (a := 7) h8 (by omega))
      refine sj_aload_n C 28 rfl dX4_takeAway_27 rfl rfl ?_
      refine sj_getr C 31 rfl fd_X4_20 dX4_takeAway_28 kd_t rf_t_1 ?_
      refine sj_iload_n C 32 rfl dX4_takeAway_31 rfl rfl ?_
      refine sj_aload_n C 33 rfl dX4_takeAway_32 rfl rfl ?_
      refine sj_getr C 36 rfl fd_X4_20 dX4_takeAway_33 kd_t rf_t_1 ?_
      refine sj_iload_n C 37 rfl dX4_takeAway_36 rfl rfl ?_
      refine sj_iconstv C (1) 38 rfl dX4_takeAway_37 rfl ?_
      refine sj_iadd C 39 rfl dX4_takeAway_38 ?_
      refine sj_aald9 C 40 rfl dX4_takeAway_39 kd_sh (by show vp_in (nI k + 1) (sj_il S (D 1)); rw [il_sh, nI_1]; exact vp_in_nI (by omega) (by omega)) ?_
      rw [nI_1, nI_clamp (by omega), sj_ra_sRa]
      refine sj_aast9 C 41 rfl dX4_takeAway_40 kd_sh (by show vp_in _ (sj_il S (D 1)); rw [il_sh]; exact vp_in_nI (by omega) (by omega)) (fun b hb => hk3 (k + 1) b (by omega) (by rw [← hb]; exact (if_neg (by omega) : sq_cr i k (sj_ra S (D 1)) (k + 1) = sj_ra S (D 1) (k + 1)).symm)) ?_
      rw [nI_clamp (by omega), sj_wRa_eq, sj_ra_sRa, sj_sRa_sRa, sq_cr_s hgk]
      refine sj_iinc_2 C 44 rfl dX4_takeAway_41 rfl rfl ?_
      refine sj_goto C 16 rfl dX4_takeAway_44 ?_
      rw [sj_n1]
      refine ih hlt _ ?_
      rfl
  refine sj_iload_n C 1 rfl dX4_takeAway_0 rfl rfl ?_
  refine sj_if_lt C 12 4 rfl rfl dX4_takeAway_1 (fun c_1 => ?_) (fun c_1 => ?_)
  · exact absurd c_1 (nI_pos (by omega))
  · refine sj_iload_n C 5 rfl dX4_takeAway_4 rfl rfl ?_
    refine sj_aload_n C 6 rfl dX4_takeAway_5 rfl rfl ?_
    refine sj_getI C 9 rfl fd_X4_65 dX4_takeAway_6 kd_t ?_
    refine sj_icmp_lt C 14 12 rfl rfl dX4_takeAway_9 (fun c_9 => ?_) (fun c_9 => ?_)
    · refine sj_iload_n C 15 rfl dX4_takeAway_14 rfl rfl ?_
      refine sj_istore_n_2 C 16 rfl dX4_takeAway_15 rfl rfl ?_
      exact cut_16 _ (by rw [sq_cr_0, sj_sRa_id])
    · exact absurd (by rw [h3]; exact nI_lt hi (by omega)) c_9
def sq_to1 (S : sj_St) (D E : Nat → Nat) (k : Nat) : sj_St := sj_sRa S (D 1) (sj_cpr k (sj_ra S (E 1)) (sj_ra S (D 1)))
def sq_to2 (S : sj_St) (D E : Nat → Nat) : sj_St := sj_wFi (sj_sIa (sq_to1 S D E 8) (D 4) (sj_cp 8 (sj_ia S (E 4)) (sj_ia S (D 4)))) (D 0) 3 (sj_fi S (E 0) 3)
def sq_to3 (S : sj_St) (D E : Nat → Nat) : sj_St := sq_os (sq_to2 S D E) (D 5) (fun i => D (5 + i)) (sq_tc (sq_or S (D 5) (fun i => D (5 + i))) (sq_or S (E 5) (fun i => E (5 + i))))
def sq_to (S : sj_St) (D E : Nat → Nat) : sj_St := sj_wFi (sj_wFi (sj_sIa (sq_to3 S D E) (D 15) (sj_cp 9 (sj_ia S (E 15)) (sj_ia S (D 15)))) (D 0) 6 (sj_fi S (E 0) 6)) (D 0) 7 (sj_fi S (E 0) 7)
/-- two tables that have nothing in common -/
def sq_tp (D E : Nat → Nat) : Prop := ∀ i j, i < 16 → j < 16 → D i ≠ E j
theorem sq_fr_to1 (S : sj_St) (D E : Nat → Nat) (k : Nat) : sq_fr (sq_P D) S (sq_to1 S D E k) := sq_fr_ra _ (sq_Pi D)
theorem sq_fr_to2 (S : sj_St) (D E : Nat → Nat) : sq_fr (sq_P D) S (sq_to2 S D E) := sq_fr_tr (sq_fr_tr (sq_fr_to1 S D E 8) (sq_fr_ia _ (sq_Pi D))) (sq_fr_fi 3 _ (sq_Pi D))
theorem sq_fr_to3 (S : sj_St) (D E : Nat → Nat) : sq_fr (sq_P D) S (sq_to3 S D E) := sq_fr_tr (sq_fr_to2 S D E) (sq_fr_os _ (sq_Pi D) (sq_Pi D (i := 5 + 2)) (sq_Pi D (i := 5 + 4)) (sq_Pi D (i := 5 + 6)) (sq_Pi D (i := 5 + 8)))
theorem sq_fr_to (S : sj_St) (D E : Nat → Nat) : sq_fr (sq_P D) S (sq_to S D E) := sq_fr_tr (sq_fr_tr (sq_fr_tr (sq_fr_to3 S D E) (sq_fr_ia _ (sq_Pi D))) (sq_fr_fi 6 _ (sq_Pi D))) (sq_fr_fi 7 _ (sq_Pi D))
theorem sq_tp_P {D E : Nat → Nat} (h : sq_tp D E) {j : Nat} (hj : j < 16) : ¬ sq_P D (E j) := fun ⟨i, hi, e⟩ => h i j hi hj e.symm
set_option maxRecDepth 100000 in
set_option maxHeartbeats 300000 in
theorem ct_X4_takeOver (l : Launch) {S : sj_St} {D E : Nat → Nat} (h : sq_tl S D) (h' : sq_tl S E) (hp : sq_tp D E) (hk3 : sq_k3 S E) : sj_Ctr l mX4_takeOver [.ref (D 0), .ref (E 0)] S (sj_eq none (sq_to S D E)) := by
  refine sj_start ([some (.ref (D 0)), some (.ref (E 0)), none]) (by decide +kernel) rfl rfl (fun X hX C hR => ?_)
  subst hX
  obtain ⟨kd_t, rf_t_0, ⟨rf_t_1, kd_sh, il_sh⟩, ⟨rf_t_2, hag⟩, ⟨rf_t_4, hol⟩, ⟨rf_t_5, hse⟩, hinj⟩ := id h
  have kd_ag := hag.1
  have kd_o := hol.1
  have kd_se := hse.1
  obtain ⟨kd_u, rf_u_0, ⟨rf_u_1, kd_uh, il_uh⟩, ⟨rf_u_2, hag'⟩, ⟨rf_u_4, hol'⟩, ⟨rf_u_5, hse'⟩, hinj'⟩ := id h'
  have F1 : ∀ k q, q < 16 → sj_fi (sq_to1 S D E k) (E q) = sj_fi S (E q) ∧ sj_ia (sq_to1 S D E k) (E q) = sj_ia S (E q) ∧ sj_ra (sq_to1 S D E k) (E q) = sj_ra S (E q) := fun k q hq => (sq_fr_to1 S D E k).2.2.2.1 _ (sq_tp_P hp hq)
  have F2 : ∀ q, q < 16 → sj_fi (sq_to2 S D E) (E q) = sj_fi S (E q) ∧ sj_ia (sq_to2 S D E) (E q) = sj_ia S (E q) ∧ sj_ra (sq_to2 S D E) (E q) = sj_ra S (E q) := fun q hq => (sq_fr_to2 S D E).2.2.2.1 _ (sq_tp_P hp hq)
  have F3 : ∀ q, q < 16 → sj_fi (sq_to3 S D E) (E q) = sj_fi S (E q) ∧ sj_ia (sq_to3 S D E) (E q) = sj_ia S (E q) ∧ sj_ra (sq_to3 S D E) (E q) = sj_ra S (E q) := fun q hq => (sq_fr_to3 S D E).2.2.2.1 _ (sq_tp_P hp hq)
  have ne : ∀ i j, i < 16 → j < 16 → i ≠ j → D i ≠ D j := fun i j hi hj hij e => hij (hinj i j hi hj e)
  have g2i : ∀ q, q < 16 → q ≠ 4 → sj_ia (sq_to2 S D E) (D q) = sj_ia S (D q) := fun q hq h4 => sj_ia_sIa_ne _ _ (ne q 4 hq (by omega) h4)
  have g2f : ∀ k, sj_fi (sq_to2 S D E) (D 5) k = sj_fi S (D 5) k := fun k => sj_fi_wFi_a _ 3 k _ (ne 5 0 (by omega) (by omega) (by omega))
  have hor : sq_or (sq_to2 S D E) (D 5) (fun i => D (5 + i)) = sq_or S (D 5) (fun i => D (5 + i)) := by
    unfold sq_or
    rw [g2f, g2f, g2i (5 + 2) (by omega) (by omega), g2i (5 + 4) (by omega) (by omega), g2i (5 + 6) (by omega) (by omega), g2i (5 + 8) (by omega) (by omega)]
  have hor' : sq_or (sq_to2 S D E) (E 5) (fun i => E (5 + i)) = sq_or S (E 5) (fun i => E (5 + i)) := by
    unfold sq_or
    rw [(F2 5 (by omega)).1, (F2 (5 + 2) (by omega)).2.1, (F2 (5 + 4) (by omega)).2.1, (F2 (5 + 6) (by omega)).2.1, (F2 (5 + 8) (by omega)).2.1]
  have hto := sq_c_takeOver X.2.1 (show sq_ol (sq_to2 S D E) (D 5) (fun i => D (5 + i)) from hol) (show sq_ol (sq_to2 S D E) (E 5) (fun i => E (5 + i)) from hol') ⟨hp 5 5 (by omega) (by omega), fun i j hi hj => hp (5 + i) (5 + j) (by omega) (by omega)⟩
  rw [hor, hor', show sq_os (sq_to2 S D E) (D 5) (fun i => D (5 + i)) (sq_tc (sq_or S (D 5) (fun i => D (5 + i))) (sq_or S (E 5) (fun i => E (5 + i)))) = sq_to3 S D E from rfl] at hto
  have i15 : sj_ia (sq_to3 S D E) (D 15) = sj_ia S (D 15) := (sj_ia_sIa_ne _ _ (ne 15 13 (by omega) (by omega) (by omega))).trans ((sj_ia_sIa_ne _ _ (ne 15 11 (by omega) (by omega) (by omega))).trans ((sj_ia_sIa_ne _ _ (ne 15 9 (by omega) (by omega) (by omega))).trans ((sj_ia_sIa_ne _ _ (ne 15 7 (by omega) (by omega) (by omega))).trans (g2i 15 (by omega) (by omega)))))
  have cut_7 : ∀ T, T = (sq_to1 S D E (0)) → sj_G X T 0 0 [some (.ref (D 0)), some (.ref (E 0)), some (.int (nI (0)))] 7 [] := by
    refine sj_down (fun k => ∀ T, T = (sq_to1 S D E (k)) → sj_G X T 0 0 [some (.ref (D 0)), some (.ref (E 0)), some (.int (nI (k)))] 7 []) 8 (fun k hk ih => ?_)
    intro T hT
    subst hT
    obtain ⟨kd_t, rf_t_0, ⟨rf_t_1, kd_sh, il_sh⟩, ⟨rf_t_2, hag⟩, ⟨rf_t_4, hol⟩, ⟨rf_t_5, hse⟩, hinj⟩ := sq_tl_fr (sq_fr_to1 S D E k) h
    obtain ⟨kd_u, rf_u_0, ⟨rf_u_1, kd_uh, il_uh⟩, ⟨rf_u_2, hag'⟩, ⟨rf_u_4, hol'⟩, ⟨rf_u_5, hse'⟩, hinj'⟩ := sq_tl_fr (sq_fr_to1 S D E k) h'
    have kd_ag := hag.1
    have kd_o := hol.1
    have kd_se := hse.1
    refine sj_iload_n C 8 rfl dX4_takeOver_7 rfl rfl ?_
    refine sj_aload_n C 9 rfl dX4_takeOver_8 rfl rfl ?_
    refine sj_getr C 12 rfl fd_X4_20 dX4_takeOver_9 kd_t rf_t_1 ?_
    refine sj_alen9 C 13 rfl dX4_takeOver_12 kd_sh ?_
    rw [show sj_il (sq_to1 S D E k) (D 1) = 8 from il_sh]
    refine sj_icmp_ge C 43 16 rfl rfl dX4_takeOver_13 (fun c_13 => ?_) (fun c_13 => ?_)
    · have hkn : k = 8 := by
        have h8 : ¬ k < 8 := fun h7 => nI_ge (b := 8) h7 (by omega) c_13
        omega
      subst hkn
      refine sj_aload_n C 44 rfl dX4_takeOver_43 rfl rfl ?_
      refine sj_getr C 47 rfl fd_X4_29 dX4_takeOver_44 kd_t rf_t_2 ?_
      refine sj_aload_n C 48 rfl dX4_takeOver_47 rfl rfl ?_
      refine sj_getr C 51 rfl fd_X4_29 dX4_takeOver_48 kd_u rf_u_2 ?_
      refine sj_callVv C 54 rfl dX4_takeOver_51 cv_X4_61 rfl (ct_X2_copyFrom _ hag hag' (hp 4 4 (by omega) (by omega))) rfl rfl rfl ⟨_, _, kd_ag, rfl, rfl, by decide⟩ ⟨rfl, rfl⟩ ?_
      rw [(F1 8 4 (by omega)).2.1, show sj_ia (sq_to1 S D E (8)) (D 4) = sj_ia S (D 4) from rfl]
      refine sj_aload_n C 55 rfl dX4_takeOver_54 rfl rfl ?_
      refine sj_aload_n C 56 rfl dX4_takeOver_55 rfl rfl ?_
      refine sj_getI C 59 rfl fd_X4_65 dX4_takeOver_56 kd_u ?_
      rw [show sj_fi (sj_sIa (sq_to1 S D E 8) (D 4) (sj_cp 8 (sj_ia S (E 4)) (sj_ia S (D 4)))) (E 0) 3 = sj_fi S (E 0) 3 from congrFun (F1 8 0 (by omega)).1 3]
      refine sj_putI C 62 rfl fd_X4_65 dX4_takeOver_59 rfl rfl kd_t ?_
      rw [show sj_wFi (sj_sIa (sq_to1 S D E 8) (D 4) (sj_cp 8 (sj_ia S (E 4)) (sj_ia S (D 4)))) (D 0) 3 (sj_fi S (E 0) 3) = sq_to2 S D E from rfl]
      obtain ⟨kd_t, rf_t_0, ⟨rf_t_1, kd_sh, il_sh⟩, ⟨rf_t_2, hag⟩, ⟨rf_t_4, hol⟩, ⟨rf_t_5, hse⟩, hinj⟩ := sq_tl_fr (sq_fr_to2 S D E) h
      obtain ⟨kd_u, rf_u_0, ⟨rf_u_1, kd_uh, il_uh⟩, ⟨rf_u_2, hag'⟩, ⟨rf_u_4, hol'⟩, ⟨rf_u_5, hse'⟩, hinj'⟩ := sq_tl_fr (sq_fr_to2 S D E) h'
      have kd_ag := hag.1
      have kd_o := hol.1
      have kd_se := hse.1
      refine sj_aload_n C 63 rfl dX4_takeOver_62 rfl rfl ?_
      refine sj_getr C 66 rfl fd_X4_36 dX4_takeOver_63 kd_t rf_t_4 ?_
      refine sj_aload_n C 67 rfl dX4_takeOver_66 rfl rfl ?_
      refine sj_getr C 70 rfl fd_X4_36 dX4_takeOver_67 kd_u rf_u_4 ?_
      refine sj_callVv C 73 rfl dX4_takeOver_70 cv_X4_68 rfl (hto) rfl rfl rfl ⟨_, _, kd_o, rfl, rfl, by decide⟩ ⟨rfl, rfl⟩ ?_
      obtain ⟨kd_t, rf_t_0, ⟨rf_t_1, kd_sh, il_sh⟩, ⟨rf_t_2, hag⟩, ⟨rf_t_4, hol⟩, ⟨rf_t_5, hse⟩, hinj⟩ := sq_tl_fr (sq_fr_to3 S D E) h
      obtain ⟨kd_u, rf_u_0, ⟨rf_u_1, kd_uh, il_uh⟩, ⟨rf_u_2, hag'⟩, ⟨rf_u_4, hol'⟩, ⟨rf_u_5, hse'⟩, hinj'⟩ := sq_tl_fr (sq_fr_to3 S D E) h'
      have kd_ag := hag.1
      have kd_o := hol.1
      have kd_se := hse.1
      refine sj_aload_n C 74 rfl dX4_takeOver_73 rfl rfl ?_
      refine sj_getr C 77 rfl fd_X4_40 dX4_takeOver_74 kd_t rf_t_5 ?_
      refine sj_aload_n C 78 rfl dX4_takeOver_77 rfl rfl ?_
      refine sj_getr C 81 rfl fd_X4_40 dX4_takeOver_78 kd_u rf_u_5 ?_
      refine sj_callVv C 84 rfl dX4_takeOver_81 cv_X4_61 rfl (ct_X2_copyFrom _ hse hse' (hp 15 15 (by omega) (by omega))) rfl rfl rfl ⟨_, _, kd_se, rfl, rfl, by decide⟩ ⟨rfl, rfl⟩ ?_
      rw [(F3 15 (by omega)).2.1, i15]
      refine sj_aload_n C 85 rfl dX4_takeOver_84 rfl rfl ?_
      refine sj_aload_n C 86 rfl dX4_takeOver_85 rfl rfl ?_
      refine sj_getI C 89 rfl fd_X4_43 dX4_takeOver_86 kd_u ?_
      rw [show sj_fi (sj_sIa (sq_to3 S D E) (D 15) (sj_cp 9 (sj_ia S (E 15)) (sj_ia S (D 15)))) (E 0) 6 = sj_fi S (E 0) 6 from congrFun (F3 0 (by omega)).1 6]
      refine sj_putI C 92 rfl fd_X4_43 dX4_takeOver_89 rfl rfl kd_t ?_
      refine sj_aload_n C 93 rfl dX4_takeOver_92 rfl rfl ?_
      refine sj_aload_n C 94 rfl dX4_takeOver_93 rfl rfl ?_
      refine sj_getI C 97 rfl fd_X4_47 dX4_takeOver_94 kd_u ?_
      rw [show sj_fi (sj_wFi (sj_sIa (sq_to3 S D E) (D 15) (sj_cp 9 (sj_ia S (E 15)) (sj_ia S (D 15)))) (D 0) 6 (sj_fi S (E 0) 6)) (E 0) 7 = sj_fi S (E 0) 7 from (sj_fi_wFi_a _ 6 7 _ (hp 0 0 (by omega) (by omega)).symm).trans (congrFun (F3 0 (by omega)).1 7)]
      refine sj_putI C 100 rfl fd_X4_47 dX4_takeOver_97 rfl rfl kd_t ?_
      refine sj_vret C hR rfl rfl dX4_takeOver_100 ?_
      exact ⟨rfl, rfl⟩
    · have hlt : k < 8 := Nat.not_le.mp fun h8 => c_13 (nI_le (a := 8) h8 (by omega))
      refine sj_iload_n C 17 rfl dX4_takeOver_16 rfl rfl ?_
      refine sj_aload_n C 18 rfl dX4_takeOver_17 rfl rfl ?_
      refine sj_getr C 21 rfl fd_X4_20 dX4_takeOver_18 kd_u rf_u_1 ?_
      refine sj_alen9 C 22 rfl dX4_takeOver_21 kd_uh ?_
      refine sj_icmp_ge C 43 25 rfl rfl dX4_takeOver_22 (fun c_22 => ?_) (fun c_22 => ?_)
      · exact absurd (show nI 8 ≤ nI k by rw [show sj_il (sq_to1 S D E k) (E 1) = 8 from il_uh] at c_22; exact c_22) (nI_ge hlt (by omega))
      · refine sj_aload_n C 26 rfl dX4_takeOver_25 rfl rfl ?_
        refine sj_getr C 29 rfl fd_X4_20 dX4_takeOver_26 kd_t rf_t_1 ?_
        refine sj_iload_n C 30 rfl dX4_takeOver_29 rfl rfl ?_
        refine sj_aload_n C 31 rfl dX4_takeOver_30 rfl rfl ?_
        refine sj_getr C 34 rfl fd_X4_20 dX4_takeOver_31 kd_u rf_u_1 ?_
        refine sj_iload_n C 35 rfl dX4_takeOver_34 rfl rfl ?_
        refine sj_aald9 C 36 rfl dX4_takeOver_35 kd_uh (by show vp_in _ (sj_il (sq_to1 S D E k) (E 1)); rw [il_uh]; exact vp_in_nI (by omega) (by omega)) ?_
        rw [(F1 k 1 (by omega)).2.2, nI_clamp (by omega)]
        refine sj_aast9 C 37 rfl dX4_takeOver_36 kd_sh (by show vp_in _ (sj_il (sq_to1 S D E k) (D 1)); rw [il_sh]; exact vp_in_nI (by omega) (by omega)) (fun b hb => hk3 k b (by omega) hb) ?_
        rw [nI_clamp (by omega), show sj_wRa (sq_to1 S D E k) (D 1) k (sj_ra S (E 1) k) = sq_to1 S D E (k + 1) from by unfold sq_to1; rw [sj_wRa_eq, sj_ra_sRa, sj_sRa_sRa, sj_cpr_s]]
        refine sj_iinc_2 C 40 rfl dX4_takeOver_37 rfl rfl ?_
        refine sj_goto C 7 rfl dX4_takeOver_40 ?_
        rw [sj_n1]
        exact ih hlt _ rfl
  refine sj_aload_n C 1 rfl dX4_takeOver_0 rfl rfl ?_
  refine sj_ifnonnullS C 5 rfl dX4_takeOver_1 ?_
  refine sj_iconstv C (0) 6 rfl dX4_takeOver_5 rfl ?_
  refine sj_istore_n_2 C 7 rfl dX4_takeOver_6 rfl rfl ?_
  exact cut_7 _ (by unfold sq_to1; rw [sj_cpr_0, sj_sRa_id])
