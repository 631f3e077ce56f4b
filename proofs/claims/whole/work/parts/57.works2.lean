/-! THE SAME: works as texts -/
theorem sq_rdn_gt {B : Nat → Int32} {n : Nat} {a z : Int32} {p : Nat} (h : ¬ (sj_rdn B n a z p).1 = -1) : p + 1 ≤ (sj_rdn B n a z p).2 := by
  unfold sj_rdn at h ⊢
  by_cases h1 : sj_wi (sj_nx B n p - 48) a 9 = false ∨ z < sj_nx B n p - 48
  · rw [if_pos h1] at h
    exact absurd rfl h
  · rw [if_neg h1]
    by_cases h6 : 0 < sj_nx B n p - 48 ∧ sj_wi (sj_nx B n (p + 1)) 48 57 = true ∧ 10 * (sj_nx B n p - 48) + sj_nx B n (p + 1) - 48 ≤ z
    · rw [if_pos h6]
      show p + 1 ≤ p + 2
      omega
    · rw [if_neg h6]
      exact Nat.le_refl _
def sq_sg (v : Int32) : Prop := v = 108 ∨ v = 117 ∨ v = 121 ∨ v = 100
/-- a part: class and reference -/
def sq_same2 (B : Nat → Int32) (n p : Nat) (s : sq_Q) (r : sj_P5) : Prop := sq_pt B n s = (r.2.1, !r.1) ∧ (r.1 = true → sq_sg r.2.2.1 ∧ p + 2 ≤ r.2.1 ∧ sq_nx B n s = r.2.2.1 ∧ r.2.2.2.1 = some (sq_p1 B n s) ∧ (r.2.2.1 = 108 ∨ r.2.2.1 = 117 → r.2.2.2.2 = some (sq_p2 B n s)))
theorem sq_prt_eq {B : Nat → Int32} {n : Nat} (hB : sq_cd B n) (p : Nat) : sq_same2 B n p (p, false) (sj_prt B n p) := by
  have t108 : sq_t B n 108 (p, false) = decide (sj_nx B n p = 108) := sq_t_f (by decide) (by decide)
  have t117 : sq_t B n 117 (p, false) = decide (sj_nx B n p = 117) := sq_t_f (by decide) (by decide)
  have t121 : sq_t B n 121 (p, false) = decide (sj_nx B n p = 121) := sq_t_f (by decide) (by decide)
  unfold sj_prt
  by_cases hs : sj_nx B n p = 108 ∨ sj_nx B n p = 117 ∨ sj_nx B n p = 121 ∨ sj_nx B n p = 100
  · rw [if_pos hs]
    have hlt := sj_sg_lt hs
    have enx : sq_nx B n (p, false) = sj_nx B n p := (sq_nx_y hlt).trans (sj_nx_y hlt).symm
    by_cases h121 : sj_nx B n p = 121
    · have hno : (sq_t B n 108 (p, false) || sq_t B n 117 (p, false)) = false := by
        rw [t108, t117, h121]
        decide
      obtain ⟨e1, e2, e3⟩ := sq_pt_y hno (t121.trans (decide_eq_true h121))
      rw [if_pos h121]
      have r := sq_rn_eq hB (p + 1) (a := 1) (Or.inr rfl) (z := 99) (by omega)
      have hge := sj_rdn_ge B n 1 99 (p + 1)
      unfold sj_p2
      rw [if_pos (Or.inr (Or.inl h121))]
      rcases r with ⟨a1, a2, a3⟩ | ⟨a1, a2, a3⟩
      · have a1' : (sj_rdn B n 1 99 (p + 1)).1 = -1 := a1
        have a2' : (sj_rdn B n 1 99 (p + 1)).2 = p + 1 := a2
        rw [decide_eq_false (fun h => h a1'), a2']
        exact ⟨e1.trans a3, fun h => absurd h Bool.false_ne_true⟩
      · have a1' : ¬ (sj_rdn B n 1 99 (p + 1)).1 = -1 := a1
        have a3' : sq_V B n 1 99 (p + 1, false) = (sj_rdn B n 1 99 (p + 1)).1 := a3
        have h2 : p + 2 ≤ (sj_rdn B n 1 99 (p + 1)).2 := sq_rdn_gt a1'
        rw [decide_eq_true a1']
        refine ⟨e1.trans a2, fun _ => ⟨hs, h2, enx, ?_, fun h => ?_⟩⟩
        · show some (sj_rdn B n 1 99 (p + 1)).1 = some (sq_p1 B n (p, false))
          rw [e2]
          exact congrArg some a3'.symm
        · have h' : sj_nx B n p = 108 ∨ sj_nx B n p = 117 := h
          rw [h121] at h'
          exact absurd h' (by decide)
    · rw [if_neg h121]
      have r := sq_rn_eq hB (p + 1) (a := 0) (Or.inl rfl) (z := 7) (by omega)
      by_cases h100 : sj_nx B n p = 100
      · have hno : (sq_t B n 108 (p, false) || sq_t B n 117 (p, false)) = false := by
          rw [t108, t117, h100]
          decide
        obtain ⟨e1, e2, e3⟩ := sq_pt_d hno (t121.trans (decide_eq_false h121))
        have e6 : sq_b6 B n (p, false) = (p + 1, false) := (sq_N_fy (by decide) (by decide) h100).trans (congrArg (fun z => ((z, false) : sq_Q)) (if_pos h100))
        have e7 : sq_b7 B n (p, false) = sq_R B n 0 7 (p + 1, false) := congrArg (sq_R B n 0 7) e6
        unfold sj_p2
        rw [if_pos (Or.inr (Or.inr h100))]
        rcases r with ⟨a1, a2, a3⟩ | ⟨a1, a2, a3⟩
        · have a1' : (sj_rdn B n 0 7 (p + 1)).1 = -1 := a1
          have a2' : (sj_rdn B n 0 7 (p + 1)).2 = p + 1 := a2
          rw [decide_eq_false (fun h => h a1'), a2']
          exact ⟨e1.trans (e7.trans a3), fun h => absurd h Bool.false_ne_true⟩
        · have a1' : ¬ (sj_rdn B n 0 7 (p + 1)).1 = -1 := a1
          have a3' : sq_V B n 0 7 (p + 1, false) = (sj_rdn B n 0 7 (p + 1)).1 := a3
          have h2 : p + 2 ≤ (sj_rdn B n 0 7 (p + 1)).2 := sq_rdn_gt a1'
          rw [decide_eq_true a1']
          refine ⟨e1.trans (e7.trans a2), fun _ => ⟨hs, h2, enx, ?_, fun h => ?_⟩⟩
          · show some (sj_rdn B n 0 7 (p + 1)).1 = some (sq_p1 B n (p, false))
            rw [e2, e6]
            exact congrArg some a3'.symm
          · have h' : sj_nx B n p = 108 ∨ sj_nx B n p = 117 := h
            rw [h100] at h'
            exact absurd h' (by decide)
      · have hlu : sj_nx B n p = 108 ∨ sj_nx B n p = 117 := by
          rcases hs with h | h | h | h
          · exact Or.inl h
          · exact Or.inr h
          · exact absurd h h121
          · exact absurd h h100
        have hl : (sq_t B n 108 (p, false) || sq_t B n 117 (p, false)) = true := by
          rw [t108, t117]
          rcases hlu with h | h
          · rw [decide_eq_true h, Bool.true_or]
          · rw [decide_eq_true h, Bool.or_true]
        obtain ⟨e1, e2, e3⟩ := sq_pt_l hl
        have e2b : sq_b2 B n (p, false) = sq_R B n 0 7 (p + 1, false) := rfl
        unfold sj_p2
        rcases r with ⟨a1, a2, a3⟩ | ⟨a1, a2, a3⟩
        · have a1' : (sj_rdn B n 0 7 (p + 1)).1 = -1 := a1
          have a2' : (sj_rdn B n 0 7 (p + 1)).2 = p + 1 := a2
          have a3' : sq_R B n 0 7 (p + 1, false) = (p + 1, true) := a3
          rw [if_pos (Or.inl a1'), decide_eq_false (fun h => h a1'), a2']
          refine ⟨e1.trans ?_, fun h => absurd h Bool.false_ne_true⟩
          show sq_R B n 0 7 (sq_N B n 47 (sq_R B n 0 7 (p + 1, false))) = (p + 1, true)
          rw [a3', sq_N_b (by decide), sq_R_b (by decide)]
        · have a1' : ¬ (sj_rdn B n 0 7 (p + 1)).1 = -1 := a1
          have a2' : sq_R B n 0 7 (p + 1, false) = ((sj_rdn B n 0 7 (p + 1)).2, false) := a2
          have a3' : sq_V B n 0 7 (p + 1, false) = (sj_rdn B n 0 7 (p + 1)).1 := a3
          have h2 : p + 2 ≤ (sj_rdn B n 0 7 (p + 1)).2 := sq_rdn_gt a1'
          rw [if_neg (fun h => h.elim a1' (fun h => h.elim h121 h100))]
          have ep1 : sq_p1 B n (p, false) = (sj_rdn B n 0 7 (p + 1)).1 := e2.trans a3'
          rw [a2'] at e2b
          generalize (sj_rdn B n 0 7 (p + 1)).1 = v1 at ep1 ⊢
          generalize (sj_rdn B n 0 7 (p + 1)).2 = p2 at e2b h2 ⊢
          by_cases c47 : sj_nx B n p2 = 47
          · have e3b : sq_b3 B n (p, false) = (sj_tk B n 47 p2, false) := by
              unfold sq_b3
              rw [e2b]
              exact sq_N_fy (by decide) (by decide) c47
            have htk : p2 ≤ sj_tk B n 47 p2 := by
              unfold sj_tk
              split <;> omega
            rw [if_pos c47]
            generalize sj_tk B n 47 p2 = p3 at e3b htk ⊢
            have r2 := sq_rn_eq hB p3 (a := 0) (Or.inl rfl) (z := 7) (by omega)
            have e4b : sq_b4 B n (p, false) = sq_R B n 0 7 (p3, false) := congrArg (sq_R B n 0 7) e3b
            have ep2 : sq_p2 B n (p, false) = sq_V B n 0 7 (p3, false) := e3.trans (congrArg (sq_V B n 0 7) e3b)
            rcases r2 with ⟨b1, b2, b3⟩ | ⟨b1, b2, b3⟩
            · have b1' : (sj_rdn B n 0 7 p3).1 = -1 := b1
              have b2' : (sj_rdn B n 0 7 p3).2 = p3 := b2
              rw [decide_eq_false (fun h => h b1'), b2']
              exact ⟨e1.trans (e4b.trans b3), fun h => absurd h Bool.false_ne_true⟩
            · have b1' : ¬ (sj_rdn B n 0 7 p3).1 = -1 := b1
              have b3' : sq_V B n 0 7 (p3, false) = (sj_rdn B n 0 7 p3).1 := b3
              have hge := sj_rdn_ge B n 0 7 p3
              rw [decide_eq_true b1']
              refine ⟨e1.trans (e4b.trans b2), fun _ => ⟨hs, Nat.le_trans h2 (Nat.le_trans htk hge), enx, congrArg some ep1.symm, fun _ => congrArg some ?_⟩⟩
              rw [ep2]
              exact b3'.symm
          · rw [if_neg c47]
            obtain ⟨g1, g2⟩ := sq_N_fn (B := B) (n := n) (p := p2) (c := 47) (by decide) (by decide) c47
            rw [g2]
            refine ⟨e1.trans ?_, fun h => absurd h Bool.false_ne_true⟩
            show sq_R B n 0 7 (sq_N B n 47 (sq_b2 B n (p, false))) = (p2, true)
            rw [e2b, g1, sq_R_b (by decide)]
  · rw [if_neg hs]
    have hno : (sq_t B n 108 (p, false) || sq_t B n 117 (p, false)) = false := by
      rw [t108, t117, decide_eq_false (fun h => hs (Or.inl h)), decide_eq_false (fun h => hs (Or.inr (Or.inl h)))]
      rfl
    obtain ⟨e1, e2, e3⟩ := sq_pt_d hno (t121.trans (decide_eq_false (fun h => hs (Or.inr (Or.inr (Or.inl h))))))
    obtain ⟨g1, g2⟩ := sq_N_fn (B := B) (n := n) (p := p) (c := 100) (by decide) (by decide) (fun h => hs (Or.inr (Or.inr (Or.inr h))))
    refine ⟨e1.trans ?_, fun h => absurd h Bool.false_ne_true⟩
    show sq_R B n 0 7 (sq_N B n 100 (p, false)) = (p, true)
    rw [g1, sq_R_b (by decide)]
/-- the rows from q on tell the parts of the text from p on, up to its end -/
def sq_ch (B : Nat → Int32) (n : Nat) (a b c : Nat → Int32) (Q : Nat) : Nat → Nat → Nat → Prop
  | 0, _, _ => False
  | j + 1, p, q => q < Q ∧ (sj_prt B n p).1 = true ∧ sq_sg (sj_prt B n p).2.2.1 ∧ a q = (sj_prt B n p).2.2.1 ∧ (sj_prt B n p).2.2.2.1 = some (b q) ∧ ((sj_prt B n p).2.2.1 = 108 ∨ (sj_prt B n p).2.2.1 = 117 → (sj_prt B n p).2.2.2.2 = some (c q)) ∧ ((sj_prt B n p).2.1 = n ∧ q + 1 = Q ∨ (sj_prt B n p).2.1 < n ∧ sq_ch B n a b c Q j ((sj_prt B n p).2.1 + 1) (q + 1))
theorem sq_ch_cg {B : Nat → Int32} {n Q : Nat} {a b c a' b' c' : Nat → Int32} : ∀ j p q, (∀ i, q ≤ i → a i = a' i ∧ b i = b' i ∧ c i = c' i) → sq_ch B n a b c Q j p q → sq_ch B n a' b' c' Q j p q
  | 0, _, _, _, h => h
  | j + 1, p, q, hi, h => by
    obtain ⟨h1, h2, h3, h4, h5, h6, h7⟩ := h
    obtain ⟨i1, i2, i3⟩ := hi q (Nat.le_refl q)
    refine ⟨h1, h2, h3, i1 ▸ h4, i2 ▸ h5, fun h => i3 ▸ h6 h, h7.imp id (fun h => ⟨h.1, sq_ch_cg j _ _ (fun i hqi => hi i (by omega)) h.2⟩)⟩
/-- rows below the q-th are left as they are -/
theorem sq_wd_lo {B : Nat → Int32} {n : Nat} : ∀ (j : Nat) (s : sq_Q) (q : Nat) (a b c : Nat → Int32), (∀ i, i < q → (sq_wd B n j s q a b c).2.2.1 i = a i ∧ (sq_wd B n j s q a b c).2.2.2.1 i = b i ∧ (sq_wd B n j s q a b c).2.2.2.2 i = c i) ∧ q ≤ (sq_wd B n j s q a b c).2.1
  | 0, _, q, _, _, _ => ⟨fun _ _ => ⟨rfl, rfl, rfl⟩, Nat.le_refl q⟩
  | j + 1, s, q, a, b, c => by
    cases ht : sq_t B n 59 s
    · rw [sq_wd_n ht]
      exact ⟨fun _ _ => ⟨rfl, rfl, rfl⟩, Nat.le_refl q⟩
    · rw [sq_wd_y ht]
      have ih := sq_wd_lo (B := B) (n := n) j (sq_pt B n (sq_S B n 59 s)) (q + 1) (upd a q (sq_nx B n (sq_S B n 59 s))) (upd b q (sq_p1 B n (sq_S B n 59 s))) (upd c q (sq_p2 B n (sq_S B n 59 s)))
      refine ⟨fun i hi => ?_, Nat.le_of_succ_le ih.2⟩
      obtain ⟨g1, g2, g3⟩ := ih.1 i (by omega)
      rw [g1, g2, g3, sj_upd_ne _ _ (by omega), sj_upd_ne _ _ (by omega), sj_upd_ne _ _ (by omega)]
      exact ⟨rfl, rfl, rfl⟩
def sq_wk2 (B : Nat → Int32) (n p q J : Nat) (c : sq_R4) (r : Int32 × Nat × Int32 × Int32 × Int32) : Prop := c.1.1 = r.2.1 ∧ (r.1 = -1 ∨ r.1 = nI r.2.1) ∧ sq_ok n c.1 = decide (r.1 = -1) ∧ (r.1 = -1 → r.2.1 = n ∧ sq_ch B n c.2.2.1 c.2.2.2.1 c.2.2.2.2 c.2.1 J p q)
theorem sq_wd_eq {B : Nat → Int32} {n : Nat} (hB : sq_cd B n) (hn : n ≤ 60) : ∀ (J j p q : Nat) (a b c : Nat → Int32) (sg f1 f2 : Int32), q + j + 1 = 60 → 3 * q ≤ p → p ≤ n → n < p + J + 1 → sq_wk2 B n p q (J + 1) (sq_wd B n j (sq_pt B n (p, false)) (q + 1) (upd a q (sq_nx B n (p, false))) (upd b q (sq_p1 B n (p, false))) (upd c q (sq_p2 B n (p, false)))) (sj_wkx B n (J + 1) p sg f1 f2) := by
  intro J
  induction J with
  | zero =>
    intro j p q a b c sg f1 f2 hj hq hp hJ
    obtain ⟨h1, h2⟩ := sq_prt_eq hB p
    have hle : (sq_pt B n (p, false)).1 ≤ n := sq_pt_le hp
    rw [h1] at hle
    have hpn : p = n := by omega
    have hr : (sj_prt B n p).1 = false := by
      cases hr : (sj_prt B n p).1
      · rfl
      · have h3 := (h2 hr).2.1
        have hle' : (sj_prt B n p).2.1 ≤ n := hle
        omega
    rw [sj_wkx_1 hr, h1, hr]
    obtain ⟨j', rfl⟩ : ∃ j', j = j' + 1 := ⟨j - 1, by omega⟩
    rw [show (!false) = true from rfl, sq_wd_n (sq_t_b (by decide))]
    refine ⟨rfl, Or.inr rfl, ?_, fun h => absurd h (sj_nIm1 (Nat.lt_of_le_of_lt hle (by omega)))⟩
    exact (decide_eq_false (sj_nIm1 (Nat.lt_of_le_of_lt hle (by omega)))).symm
  | succ J ih =>
    intro j p q a b c sg f1 f2 hj hq hp hJ
    obtain ⟨h1, h2⟩ := sq_prt_eq hB p
    have hle : (sq_pt B n (p, false)).1 ≤ n := sq_pt_le hp
    rw [h1] at hle
    have hle' : (sj_prt B n p).2.1 ≤ n := hle
    obtain ⟨j', rfl⟩ : ∃ j', j = j' + 1 := ⟨j - 1, by omega⟩
    cases hr : (sj_prt B n p).1
    · rw [sj_wkx_1 hr, h1, hr, show (!false) = true from rfl, sq_wd_n (sq_t_b (by decide))]
      refine ⟨rfl, Or.inr rfl, ?_, fun h => absurd h (sj_nIm1 (Nat.lt_of_le_of_lt hle' (by omega)))⟩
      exact (decide_eq_false (sj_nIm1 (Nat.lt_of_le_of_lt hle' (by omega)))).symm
    · obtain ⟨k1, k2, k3, k4, k5⟩ := h2 hr
      rw [h1, hr, show (!true) = false from rfl]
      by_cases hc : sj_nx B n (sj_prt B n p).2.1 = 59
      · have hlt : (sj_prt B n p).2.1 < n := sj_nx_lt (B := B) (by rw [hc]; decide)
        have etk : sj_tk B n 59 (sj_prt B n p).2.1 = (sj_prt B n p).2.1 + 1 := if_pos hc
        rw [sj_wkx_3 (by rw [hr]; decide) (by omega) hc, sq_wd_y (by rw [sq_t_f (by decide) (by decide)]; exact decide_eq_true hc), sq_S_f (by decide) (by decide), etk]
        have t := ih j' ((sj_prt B n p).2.1 + 1) (q + 1) (upd a q (sq_nx B n (p, false))) (upd b q (sq_p1 B n (p, false))) (upd c q (sq_p2 B n (p, false))) (sj_prt B n p).2.2.1 ((sj_prt B n p).2.2.2.1.getD f1) ((sj_prt B n p).2.2.2.2.getD f2) (by omega) (by omega) (by omega) (by omega)
        obtain ⟨t1, t2, t3, t4⟩ := t
        refine ⟨t1, t2, t3, fun h => ⟨(t4 h).1, ?_⟩⟩
        obtain ⟨lo, hq2⟩ := sq_wd_lo (B := B) (n := n) j' (sq_pt B n ((sj_prt B n p).2.1 + 1, false)) (q + 1 + 1) (upd (upd a q (sq_nx B n (p, false))) (q + 1) (sq_nx B n ((sj_prt B n p).2.1 + 1, false))) (upd (upd b q (sq_p1 B n (p, false))) (q + 1) (sq_p1 B n ((sj_prt B n p).2.1 + 1, false))) (upd (upd c q (sq_p2 B n (p, false))) (q + 1) (sq_p2 B n ((sj_prt B n p).2.1 + 1, false)))
        obtain ⟨l1, l2, l3⟩ := lo q (by omega)
        rw [sj_upd_ne _ _ (by omega), sj_upd_self] at l1 l2 l3
        refine ⟨by omega, hr, k1, l1.trans k3, by rw [l2]; exact k4, fun h9 => by rw [l3]; exact k5 h9, Or.inr ⟨hlt, (t4 h).2⟩⟩
      · have ht : sq_t B n 59 ((sj_prt B n p).2.1, false) = false := by
          rw [sq_t_f (by decide) (by decide)]
          exact decide_eq_false hc
        rw [sq_wd_n ht]
        by_cases hn2 : (sj_prt B n p).2.1 = n
        · rw [sj_wkx_2 (by rw [hr]; decide) hn2]
          refine ⟨rfl, Or.inl rfl, ?_, fun _ => ⟨hn2, by show q < q + 1; omega, hr, k1, ?_, ?_, ?_, Or.inl ⟨hn2, rfl⟩⟩⟩
          · show (!false && decide ((sj_prt B n p).2.1 = n)) = true
            rw [decide_eq_true hn2]
            rfl
          · exact (sj_upd_self _ _ _).trans k3
          · exact k4.trans (congrArg some (sj_upd_self b q (sq_p1 B n (p, false))).symm)
          · exact fun h9 => (k5 h9).trans (congrArg some (sj_upd_self c q (sq_p2 B n (p, false))).symm)
        · have etk : sj_tk B n 59 (sj_prt B n p).2.1 = (sj_prt B n p).2.1 := if_neg hc
          rw [sj_wkx_4 (by rw [hr]; decide) hn2 hc, etk]
          refine ⟨rfl, Or.inr rfl, ?_, fun h => absurd h (sj_nIm1 (Nat.lt_of_le_of_lt hle' (by omega)))⟩
          show (!false && decide ((sj_prt B n p).2.1 = n)) = decide (nI (sj_prt B n p).2.1 = -1)
          rw [decide_eq_false hn2, decide_eq_false (sj_nIm1 (Nat.lt_of_le_of_lt hle' (by omega)))]
          rfl
theorem sq_ws_eq {B : Nat → Int32} {n : Nat} (hB : sq_cd B n) (hn : n ≤ 60) (a b c : Nat → Int32) (sg f1 f2 : Int32) : sq_wk2 B n 0 0 (n + 1) (sq_ws B n a b c) (sj_wkt B n sg f1 f2) := sq_wd_eq hB hn n 59 0 0 a b c sg f1 f2 rfl (Nat.le_refl _) (Nat.zero_le _) (by omega)
