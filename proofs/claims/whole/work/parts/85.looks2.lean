/-! ONE ACTION OF BOTH: each look -/
theorem sq_nf {b : Bool} (h : ¬ b = false) : b = true := by
  cases hc : b
  · exact absurd hc h
  · rfl
theorem sq_no2 {a b : Bool} (h : ¬ (a = false ∨ b = false)) : a = true ∧ b = true := ⟨sq_nf (fun e => h (Or.inl e)), sq_nf (fun e => h (Or.inr e))⟩
set_option maxHeartbeats 60000 in
theorem st_sheet (l : Launch) (hl : l.stackTraces = false) {S : sj_St} {g : Nat → Nat} {m : Nat → Int32} {hs : Bool} {ms : Nat → Int32} {p q : Nat} {Q : Nat → Nat → Int32} {n : Nat} {B : Nat → Int32} {o : Nat} (hZ : sq_Z S g m hs ms p q Q n B) (ho : sj_ou S o) (hgo : ∀ i, i < 160 → g i ≠ o) (v : Int32) (w : Int32) : sq_J l S g o mL_sheet [(0, 10, 13, 20), (0, 10, 17, 13)] [.ref (g 141), .int v, .int w, .ref o] mX7_sheet [.ref (g 142), .int v, .int w] := by
  have hI := hZ.2.2.1.1
  have hv := sj_inv_oav hI
  have hsh := sj_inv_shs hI
  have kx := hZ.1.1.1.1
  refine sq_J_look hZ ho hgo (sj_q_sheet m v w) (c := 15) (Or.inl rfl) ?_ (fun T hm h4 => ct_X7_sheet l hm hv hsh v w)
  unfold sj_q_sheet
  by_cases h1 : sj_isn m v = false
  · rw [if_pos h1]
    exact sj_CtW_mono (ct_L_sheet_1 l kx ho v w (ct_X6_sheet_1 l hZ.1 hI hl v h1 w)) (fun v T hT => ⟨hT.1, Or.inr ⟨by decide, hT.2⟩⟩)
  · rw [if_neg h1]
    have hsv : sj_isn m v = true := sq_nf h1
    by_cases h2 : sj_wi w 0 6 = false
    · rw [if_pos h2]
      exact sj_CtW_mono (ct_L_sheet_2 l kx ho v w (ct_X6_sheet_2 l hZ.1 hI hl v hsv w h2)) (fun v T hT => ⟨hT.1, Or.inr ⟨by decide, hT.2⟩⟩)
    · rw [if_neg h2]
      have hw := sq_nf h2
      exact sj_CtW_mono (ct_L_sheet_r l kx ho v w (ct_X6_sheet l hZ.1 hI v hsv w hw) (P := fun T => T = S) (fun T hT => by rw [hT]; exact ho)) (fun v T hT => ⟨hT.1, Or.inl ⟨rfl, by obtain ⟨T0, rfl, rfl⟩ := hT.2; rfl⟩⟩)
set_option maxHeartbeats 60000 in
theorem st_stroke (l : Launch) (hl : l.stackTraces = false) {S : sj_St} {g : Nat → Nat} {m : Nat → Int32} {hs : Bool} {ms : Nat → Int32} {p q : Nat} {Q : Nat → Nat → Int32} {n : Nat} {B : Nat → Int32} {o : Nat} (hZ : sq_Z S g m hs ms p q Q n B) (ho : sj_ou S o) (hgo : ∀ i, i < 160 → g i ≠ o) (v : Int32) (k : Int32) (w : Int32) : sq_J l S g o mL_stroke [(0, 12, 15, 20), (0, 12, 19, 13)] [.ref (g 141), .int v, .int k, .int w, .ref o] mX7_stroke [.ref (g 142), .int v, .int k, .int w] := by
  have hI := hZ.2.2.1.1
  have hv := sj_inv_oav hI
  have hsh := sj_inv_shs hI
  have kx := hZ.1.1.1.1
  refine sq_J_look hZ ho hgo (sj_q_stroke m v k w) (c := 15) (Or.inl rfl) ?_ (fun T hm h4 => ct_X7_stroke l hm hv hsh v k w)
  unfold sj_q_stroke
  by_cases h1 : sj_isn m v = false
  · rw [if_pos h1]
    exact sj_CtW_mono (ct_L_stroke_1 l kx ho v k w (ct_X6_stroke_1 l hZ.1 hI hl v h1 k w)) (fun v T hT => ⟨hT.1, Or.inr ⟨by decide, hT.2⟩⟩)
  · rw [if_neg h1]
    have hsv : sj_isn m v = true := sq_nf h1
    by_cases h2 : sj_wi k 0 7 = false ∨ sj_wi w 0 4 = false
    · rw [if_pos h2]
      exact sj_CtW_mono (ct_L_stroke_2 l kx ho v k w (ct_X6_stroke_2 l hZ.1 hI hl v hsv k w h2)) (fun v T hT => ⟨hT.1, Or.inr ⟨by decide, hT.2⟩⟩)
    · rw [if_neg h2]
      obtain ⟨hk, hw⟩ := sq_no2 h2
      exact sj_CtW_mono (ct_L_stroke_r l kx ho v k w (ct_X6_stroke l hZ.1 hI v hsv k w hk hw) (P := fun T => T = S) (fun T hT => by rw [hT]; exact ho)) (fun v T hT => ⟨hT.1, Or.inl ⟨rfl, by obtain ⟨T0, rfl, rfl⟩ := hT.2; rfl⟩⟩)
set_option maxHeartbeats 60000 in
theorem st_mark (l : Launch) (hl : l.stackTraces = false) {S : sj_St} {g : Nat → Nat} {m : Nat → Int32} {hs : Bool} {ms : Nat → Int32} {p q : Nat} {Q : Nat → Nat → Int32} {n : Nat} {B : Nat → Int32} {o : Nat} (hZ : sq_Z S g m hs ms p q Q n B) (ho : sj_ou S o) (hgo : ∀ i, i < 160 → g i ≠ o) (v : Int32) (w : Int32) : sq_J l S g o mL_mark [(0, 10, 13, 20), (0, 10, 17, 13)] [.ref (g 141), .int v, .int w, .ref o] mX7_mark [.ref (g 142), .int v, .int w] := by
  have hI := hZ.2.2.1.1
  have hv := sj_inv_oav hI
  have hsh := sj_inv_shs hI
  have kx := hZ.1.1.1.1
  refine sq_J_look hZ ho hgo (sj_q_mark m v w) (c := 15) (Or.inl rfl) ?_ (fun T hm h4 => ct_X7_mark l hm hv hsh v w)
  unfold sj_q_mark
  by_cases h1 : sj_isn m v = false
  · rw [if_pos h1]
    exact sj_CtW_mono (ct_L_mark_1 l kx ho v w (ct_X6_mark_1 l hZ.1 hI hl v h1 w)) (fun v T hT => ⟨hT.1, Or.inr ⟨by decide, hT.2⟩⟩)
  · rw [if_neg h1]
    have hsv : sj_isn m v = true := sq_nf h1
    by_cases h2 : sj_wi w 0 5 = false
    · rw [if_pos h2]
      exact sj_CtW_mono (ct_L_mark_2 l kx ho v w (ct_X6_mark_2 l hZ.1 hI hl v hsv w h2)) (fun v T hT => ⟨hT.1, Or.inr ⟨by decide, hT.2⟩⟩)
    · rw [if_neg h2]
      have hw := sq_nf h2
      exact sj_CtW_mono (ct_L_mark_r l kx ho v w (ct_X6_mark l hZ.1 hI v hsv w hw) (P := fun T => T = S) (fun T hT => by rw [hT]; exact ho)) (fun v T hT => ⟨hT.1, Or.inl ⟨rfl, by obtain ⟨T0, rfl, rfl⟩ := hT.2; rfl⟩⟩)
set_option maxHeartbeats 60000 in
theorem st_compare (l : Launch) (hl : l.stackTraces = false) {S : sj_St} {g : Nat → Nat} {m : Nat → Int32} {hs : Bool} {ms : Nat → Int32} {p q : Nat} {Q : Nat → Nat → Int32} {n : Nat} {B : Nat → Int32} {o : Nat} (hZ : sq_Z S g m hs ms p q Q n B) (ho : sj_ou S o) (hgo : ∀ i, i < 160 → g i ≠ o) (v : Int32) (e : Int32) (w : Int32) : sq_J l S g o mL_compare [(0, 12, 15, 20), (0, 12, 19, 13)] [.ref (g 141), .int v, .int e, .int w, .ref o] mX7_compare [.ref (g 142), .int v, .int e, .int w] := by
  have hI := hZ.2.2.1.1
  have hv := sj_inv_oav hI
  have hsh := sj_inv_shs hI
  have kx := hZ.1.1.1.1
  refine sq_J_look hZ ho hgo (sj_q_compare m v e w) (c := 15) (Or.inl rfl) ?_ (fun T hm h4 => ct_X7_compare l hm hv hsh v e w)
  unfold sj_q_compare
  by_cases h1 : sj_isn m v = false ∨ sj_isn m e = false
  · rw [if_pos h1]
    exact sj_CtW_mono (ct_L_compare_1 l kx ho v e w (ct_X6_compare_1 l hZ.1 hI hl v e h1 w)) (fun v T hT => ⟨hT.1, Or.inr ⟨by decide, hT.2⟩⟩)
  · rw [if_neg h1]
    obtain ⟨hsv, hsw⟩ := sq_no2 h1
    by_cases h2 : sj_wi w 0 4 = false
    · rw [if_pos h2]
      exact sj_CtW_mono (ct_L_compare_2 l kx ho v e w (ct_X6_compare_2 l hZ.1 hI hl v e hsv hsw w h2)) (fun v T hT => ⟨hT.1, Or.inr ⟨by decide, hT.2⟩⟩)
    · rw [if_neg h2]
      have hw := sq_nf h2
      exact sj_CtW_mono (ct_L_compare_r l kx ho v e w (ct_X6_compare l hZ.1 hI v e hsv hsw w hw) (P := fun T => T = S) (fun T hT => by rw [hT]; exact ho)) (fun v T hT => ⟨hT.1, Or.inl ⟨rfl, by obtain ⟨T0, rfl, rfl⟩ := hT.2; rfl⟩⟩)
set_option maxHeartbeats 60000 in
theorem st_oath (l : Launch) (hl : l.stackTraces = false) {S : sj_St} {g : Nat → Nat} {m : Nat → Int32} {hs : Bool} {ms : Nat → Int32} {p q : Nat} {Q : Nat → Nat → Int32} {n : Nat} {B : Nat → Int32} {o : Nat} (hZ : sq_Z S g m hs ms p q Q n B) (ho : sj_ou S o) (hgo : ∀ i, i < 160 → g i ≠ o) (k : Int32) (w : Int32) : sq_J l S g o mL_oath [(0, 10, 13, 13)] [.ref (g 141), .int k, .int w, .ref o] mX7_oath [.ref (g 142), .int k, .int w] := by
  have hI := hZ.2.2.1.1
  have hv := sj_inv_oav hI
  have hsh := sj_inv_shs hI
  have kx := hZ.1.1.1.1
  refine sq_J_look hZ ho hgo (sj_q_oath m k w) (c := 15) (Or.inl rfl) ?_ (fun T hm h4 => ct_X7_oath l hm hv hsh k w)
  unfold sj_q_oath
  by_cases h1 : k < 0 ∨ sj_wi w 0 3 = false
  · rw [if_pos h1]
    exact sj_CtW_mono (ct_L_oath_1 l kx ho k w (ct_X6_oath_1 l hZ.1 hI hl k w h1)) (fun v T hT => ⟨hT.1, Or.inr ⟨by decide, hT.2⟩⟩)
  · rw [if_neg h1]
    exact sj_CtW_mono (ct_L_oath_r l kx ho k w (ct_X6_oath l hZ.1 hI k w (fun h => h1 (Or.inl h)) (sq_nf (fun h => h1 (Or.inr h)))) (P := fun T => T = S) (fun T hT => by rw [hT]; exact ho)) (fun v T hT => ⟨hT.1, Or.inl ⟨rfl, by obtain ⟨T0, rfl, rfl⟩ := hT.2; rfl⟩⟩)
set_option maxHeartbeats 60000 in
theorem st_count (l : Launch) (hl : l.stackTraces = false) {S : sj_St} {g : Nat → Nat} {m : Nat → Int32} {hs : Bool} {ms : Nat → Int32} {p q : Nat} {Q : Nat → Nat → Int32} {n : Nat} {B : Nat → Int32} {o : Nat} (hZ : sq_Z S g m hs ms p q Q n B) (ho : sj_ou S o) (hgo : ∀ i, i < 160 → g i ≠ o) (w : Int32) : sq_J l S g o mL_count [(0, 9, 12, 13)] [.ref (g 141), .int w, .ref o] mX7_count [.ref (g 142), .int w] := by
  have hI := hZ.2.2.1.1
  have hv := sj_inv_oav hI
  have hsh := sj_inv_shs hI
  have kx := hZ.1.1.1.1
  refine sq_J_look hZ ho hgo (sj_q_count m (nI q) w) (c := 15) (Or.inl rfl) ?_ (fun T hm h4 => by rw [← h4]; exact ct_X7_count l hm hv hsh w)
  unfold sj_q_count
  by_cases h1 : sj_wi w 0 17 = false
  · rw [if_pos h1]
    exact sj_CtW_mono (ct_L_count_1 l kx ho w (ct_X6_count_1 l hZ.1 hI hl w h1)) (fun v T hT => ⟨hT.1, Or.inr ⟨by decide, hT.2⟩⟩)
  · rw [if_neg h1]
    exact sj_CtW_mono (ct_L_count_r l kx ho w (ct_X6_count l hZ.1 hI w (sq_nf h1)) (P := fun T => T = S) (fun T hT => by rw [hT]; exact ho)) (fun v T hT => ⟨hT.1, Or.inl ⟨rfl, by obtain ⟨T0, rfl, rfl⟩ := hT.2; rfl⟩⟩)
set_option maxHeartbeats 60000 in
theorem st_stopped (l : Launch) (hl : l.stackTraces = false) {S : sj_St} {g : Nat → Nat} {m : Nat → Int32} {hs : Bool} {ms : Nat → Int32} {p q : Nat} {Q : Nat → Nat → Int32} {n : Nat} {B : Nat → Int32} {o : Nat} (hZ : sq_Z S g m hs ms p q Q n B) (ho : sj_ou S o) (hgo : ∀ i, i < 160 → g i ≠ o) (w : Int32) : sq_J l S g o mL_stopped [(0, 9, 12, 13)] [.ref (g 141), .int w, .ref o] mX7_stopped [.ref (g 142), .int w] := by
  have hI := hZ.2.2.1.1
  have hv := sj_inv_oav hI
  have hsh := sj_inv_shs hI
  have kx := hZ.1.1.1.1
  refine sq_J_look hZ ho hgo (sj_q_stop m w) (c := 15) (Or.inl rfl) ?_ (fun T hm h4 => ct_X7_stopped l hm hv hsh w)
  unfold sj_q_stop
  by_cases h1 : sj_wi w 0 1 = false
  · rw [if_pos h1]
    exact sj_CtW_mono (ct_L_stopped_1 l kx ho w (ct_X6_stopped_1 l hZ.1 hI hl w h1)) (fun v T hT => ⟨hT.1, Or.inr ⟨by decide, hT.2⟩⟩)
  · rw [if_neg h1]
    exact sj_CtW_mono (ct_L_stopped_r l kx ho w (ct_X6_stopped l hZ.1 hI w (sq_nf h1)) (P := fun T => T = S) (fun T hT => by rw [hT]; exact ho)) (fun v T hT => ⟨hT.1, Or.inl ⟨rfl, by obtain ⟨T0, rfl, rfl⟩ := hT.2; rfl⟩⟩)
set_option maxHeartbeats 60000 in
theorem st_whyNot (l : Launch) (hl : l.stackTraces = false) {S : sj_St} {g : Nat → Nat} {m : Nat → Int32} {hs : Bool} {ms : Nat → Int32} {p q : Nat} {Q : Nat → Nat → Int32} {n : Nat} {B : Nat → Int32} {o : Nat} (hZ : sq_Z S g m hs ms p q Q n B) (ho : sj_ou S o) (hgo : ∀ i, i < 160 → g i ≠ o) (v : Int32) (e : Int32) (like : Bool) : sq_J l S g o mL_whyNot [(0, 12, 15, 20)] [.ref (g 141), .int v, .int e, .int (sj_bi like), .ref o] mX7_whyNot [.ref (g 142), .int v, .int e, .int (sj_bi like)] := by
  have hI := hZ.2.2.1.1
  have hv := sj_inv_oav hI
  have hsh := sj_inv_shs hI
  have kx := hZ.1.1.1.1
  refine sq_J_look hZ ho hgo (sj_q_why m v e like) (c := 15) (Or.inl rfl) ?_ (fun T hm h4 => ct_X7_whyNot l hm hv hsh v e like)
  unfold sj_q_why
  by_cases h1 : sj_isn m v = false ∨ sj_isn m e = false
  · rw [if_pos h1]
    exact sj_CtW_mono (ct_L_whyNot_1 l kx ho v e (sj_bi like) (ct_X6_whyNot_1 l hZ.1 hI hl v e h1 like)) (fun v T hT => ⟨hT.1, Or.inr ⟨by decide, hT.2⟩⟩)
  · rw [if_neg h1]
    obtain ⟨hsv, hsw⟩ := sq_no2 h1
    exact sj_CtW_mono (ct_L_whyNot_r l kx ho v e (sj_bi like) (ct_X6_whyNot l hZ.1 hI hZ.2.2.1.2 v e hsv hsw like) (P := fun T => T = S) (fun T hT => by rw [hT]; exact ho)) (fun v T hT => ⟨hT.1, Or.inl ⟨rfl, by obtain ⟨T0, rfl, rfl⟩ := hT.2; rfl⟩⟩)
set_option maxHeartbeats 60000 in
theorem st_nearest (l : Launch) (hl : l.stackTraces = false) {S : sj_St} {g : Nat → Nat} {m : Nat → Int32} {hs : Bool} {ms : Nat → Int32} {p q : Nat} {Q : Nat → Nat → Int32} {n : Nat} {B : Nat → Int32} {o : Nat} (hZ : sq_Z S g m hs ms p q Q n B) (ho : sj_ou S o) (hgo : ∀ i, i < 160 → g i ≠ o) (v : Int32) : sq_J l S g o mL_nearest [(0, 9, 12, 20)] [.ref (g 141), .int v, .ref o] mX7_nearest [.ref (g 142), .int v] := by
  have hI := hZ.2.2.1.1
  have hv := sj_inv_oav hI
  have hsh := sj_inv_shs hI
  have kx := hZ.1.1.1.1
  refine sq_J_look hZ ho hgo (sj_q_near m v) (c := 15) (Or.inl rfl) ?_ (fun T hm h4 => ct_X7_nearest l hm hv hsh v)
  unfold sj_q_near
  by_cases h1 : sj_isn m v = false
  · rw [if_pos h1]
    exact sj_CtW_mono (ct_L_nearest_1 l kx ho v (ct_X6_nearest_1 l hZ.1 hI hl v h1)) (fun v T hT => ⟨hT.1, Or.inr ⟨by decide, hT.2⟩⟩)
  · rw [if_neg h1]
    have hsv : sj_isn m v = true := sq_nf h1
    exact sj_CtW_mono (ct_L_nearest_r l kx ho v (ct_X6_nearest l hZ.1 hI v hsv) (P := fun T => T = S) (fun T hT => by rw [hT]; exact ho)) (fun v T hT => ⟨hT.1, Or.inl ⟨rfl, by obtain ⟨T0, rfl, rfl⟩ := hT.2; rfl⟩⟩)
set_option maxHeartbeats 60000 in
theorem st_toleranceFor (l : Launch) (hl : l.stackTraces = false) {S : sj_St} {g : Nat → Nat} {m : Nat → Int32} {hs : Bool} {ms : Nat → Int32} {p q : Nat} {Q : Nat → Nat → Int32} {n : Nat} {B : Nat → Int32} {o : Nat} (hZ : sq_Z S g m hs ms p q Q n B) (ho : sj_ou S o) (hgo : ∀ i, i < 160 → g i ≠ o) (v : Int32) (e : Int32) (w : Int32) : sq_J l S g o mL_toleranceFor [(0, 12, 15, 20), (0, 12, 19, 13)] [.ref (g 141), .int v, .int e, .int w, .ref o] mX7_toleranceFor [.ref (g 142), .int v, .int e, .int w] := by
  have hI := hZ.2.2.1.1
  have hv := sj_inv_oav hI
  have hsh := sj_inv_shs hI
  have kx := hZ.1.1.1.1
  refine sq_J_look hZ ho hgo (sj_q_tol m v e w) (c := 15) (Or.inl rfl) ?_ (fun T hm h4 => ct_X7_toleranceFor l hm hv hsh v e w)
  unfold sj_q_tol
  by_cases h1 : sj_isn m v = false ∨ sj_isn m e = false
  · rw [if_pos h1]
    exact sj_CtW_mono (ct_L_toleranceFor_1 l kx ho v e w (ct_X6_toleranceFor_1 l hZ.1 hI hl v e h1 w)) (fun v T hT => ⟨hT.1, Or.inr ⟨by decide, hT.2⟩⟩)
  · rw [if_neg h1]
    obtain ⟨hsv, hsw⟩ := sq_no2 h1
    by_cases h2 : sj_wi w 0 5 = false
    · rw [if_pos h2]
      exact sj_CtW_mono (ct_L_toleranceFor_2 l kx ho v e w (ct_X6_toleranceFor_2 l hZ.1 hI hl v e hsv hsw w h2)) (fun v T hT => ⟨hT.1, Or.inr ⟨by decide, hT.2⟩⟩)
    · rw [if_neg h2]
      have hw := sq_nf h2
      exact sj_CtW_mono (ct_L_toleranceFor_r l kx ho v e w (ct_X6_toleranceFor l hZ.1 hI v e hsv hsw w hw) (P := fun T => T = S) (fun T hT => by rw [hT]; exact ho)) (fun v T hT => ⟨hT.1, Or.inl ⟨rfl, by obtain ⟨T0, rfl, rfl⟩ := hT.2; rfl⟩⟩)
set_option maxHeartbeats 60000 in
theorem st_ifPassed (l : Launch) (hl : l.stackTraces = false) {S : sj_St} {g : Nat → Nat} {m : Nat → Int32} {hs : Bool} {ms : Nat → Int32} {p q : Nat} {Q : Nat → Nat → Int32} {n : Nat} {B : Nat → Int32} {o : Nat} (hZ : sq_Z S g m hs ms p q Q n B) (ho : sj_ou S o) (hgo : ∀ i, i < 160 → g i ≠ o) (v : Int32) (e : Int32) (w : Int32) : sq_J l S g o mL_ifPassed [(0, 12, 15, 20), (0, 12, 19, 13)] [.ref (g 141), .int v, .int e, .int w, .ref o] mX7_ifPassed [.ref (g 142), .int v, .int e, .int w] := by
  have hI := hZ.2.2.1.1
  have hv := sj_inv_oav hI
  have hsh := sj_inv_shs hI
  have kx := hZ.1.1.1.1
  refine sq_J_look hZ ho hgo (sj_q_ifp m v e w) (c := 2) (Or.inr (Or.inr rfl)) ?_ (fun T hm h4 => ct_X7_ifPassed l hm hI v e w)
  unfold sj_q_ifp
  by_cases h1 : sj_isn m v = false ∨ sj_isn m e = false
  · rw [if_pos h1]
    exact sj_CtW_mono (ct_L_ifPassed_1 l kx ho v e w (ct_X6_ifPassed_1 l hZ.1 hI hl v e h1 w)) (fun v T hT => ⟨hT.1, Or.inr ⟨by decide, hT.2⟩⟩)
  · rw [if_neg h1]
    obtain ⟨hsv, hsw⟩ := sq_no2 h1
    by_cases h2 : sj_wi w 1 99 = false
    · rw [if_pos h2]
      exact sj_CtW_mono (ct_L_ifPassed_2 l kx ho v e w (ct_X6_ifPassed_2 l hZ.1 hI hl v e hsv hsw w h2)) (fun v T hT => ⟨hT.1, Or.inr ⟨by decide, hT.2⟩⟩)
    · rw [if_neg h2]
      have hw := sq_nf h2
      exact sj_CtW_mono (ct_L_ifPassed_r l kx ho v e w (ct_X6_ifPassed l hZ.1 hI v e hsv hsw w hw) (P := fun T => T = S) (fun T hT => by rw [hT]; exact ho)) (fun v T hT => ⟨hT.1, Or.inl ⟨rfl, by obtain ⟨T0, rfl, rfl⟩ := hT.2; rfl⟩⟩)
