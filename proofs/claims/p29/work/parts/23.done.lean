/-! THE REFERENCE: what is done from outside -/
/-- behind saving: nothing thrown, one state more is saved -/
def sj_svS (S : sj_St) (h : Nat) (b : Nat → Nat) (q : Nat) (m : Nat → Int32) : sj_St := sj_wFi (sj_sIa (sj_wFi S h 0 0) (b 3) (sj_sv q m (sj_ia S (b 3)))) h 4 (nI (sj_qn q + 1))
theorem sj_svS_mm {S : sj_St} {h : Nat} {b : Nat → Nat} {m : Nat → Int32} (hm : sj_mm S h b m) (q : Nat) : sj_mm (sj_svS S h b q m) h b m := ⟨hm.1, (sj_ia_sIa_ne (sj_wFi S h 0 0) _ (sj_mo_ne hm.1 (i := 1) (j := 3) (by omega) (by omega) (by omega))).trans hm.2⟩
theorem sj_isn_t {m : Nat → Int32} {i n : Nat} (h9 : m 9 = nI n) (hn : n ≤ 8) (hi : i < n) : sj_isn m (nI i) = true := by
  unfold sj_isn
  rw [h9, show nI n - 1 = nI (n - 1) from sj_nsub (b := 1) (by omega), sj_wi_n (by omega) (by omega)]
  exact decide_eq_true (by omega)
def sj_mst (s : Int32) : Int32 := if s < 6 then 50 else if s = 6 then 99 else if s = 7 then 9 else 6
theorem sj_svS_15 {S : sj_St} {h : Nat} {b : Nat → Nat} {m : Nat → Int32} (hm : sj_mm S h b m) (q : Nat) (g : Nat → Int32) : sj_wFi (sj_sIa (sj_sIa (sj_wFi S h 0 0) (b 15) g) (b 3) (sj_sv q m (sj_ia (sj_sIa (sj_wFi S h 0 0) (b 15) g) (b 3)))) h 4 (nI (sj_qn q + 1)) = sj_sIa (sj_svS S h b q m) (b 15) g := by
  rw [sj_ia_sIa_ne (sj_wFi S h 0 0) g (sj_mo_ne hm.1 (i := 3) (j := 15) (by omega) (by omega) (by omega)), sj_sIa_ne _ (sj_mo_ne hm.1 (i := 15) (j := 3) (by omega) (by omega) (by omega))]
  rfl
