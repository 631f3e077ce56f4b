/-! THE REFERENCE: its object, its rows, what its reading methods answer -/
def sj_mo (S : sj_St) (h : Nat) (b : Nat → Nat) : Prop := sj_kd S h = some 7 ∧ (sj_rf S h 1 = some (b 1) ∧ sj_kd S (b 1) = some 8 ∧ sj_il S (b 1) = 434) ∧ (sj_rf S h 2 = some (b 2) ∧ sj_kd S (b 2) = some 8 ∧ sj_il S (b 2) = 434) ∧ (sj_rf S h 3 = some (b 3) ∧ sj_kd S (b 3) = some 8 ∧ sj_il S (b 3) = 2604) ∧ (sj_rf S h 5 = some (b 5) ∧ sj_kd S (b 5) = some 8 ∧ sj_il S (b 5) = 434) ∧ (sj_rf S h 7 = some (b 7) ∧ sj_kd S (b 7) = some 8 ∧ sj_il S (b 7) = 60) ∧ (sj_rf S h 13 = some (b 13) ∧ sj_kd S (b 13) = some 8 ∧ sj_il S (b 13) = 40) ∧ (sj_rf S h 15 = some (b 15) ∧ sj_kd S (b 15) = some 8 ∧ sj_il S (b 15) = 8) ∧ ∀ i j, i < 16 → j < 16 → b i = b j → i = j
def sj_mm (S : sj_St) (h : Nat) (b : Nat → Nat) (m : Nat → Int32) : Prop := sj_mo S h b ∧ sj_ia S (b 1) = m
def sj_of (m : Nat → Int32) (i w : Nat) : Int32 := m (98 + 42 * i + w)
def sj_os (m : Nat → Int32) (i k w : Nat) : Int32 := m (98 + 42 * i + (2 + 5 * k + w))
def sj_oa (m : Nat → Int32) (k w : Nat) : Int32 := m (14 + 3 * k + w)
def sj_ns (m : Nat → Int32) (i : Nat) : Nat := (sj_of m i 1).toNatClampNeg
def sj_tot (m : Nat → Int32) (i w : Nat) : Int32 := sj_sum (fun k => sj_os m i k w) (sj_ns m i)
def sj_dv (a b : Int32) : Int32 := if a < 0 then -((-a + b - 1) / b) else a / b
/-- a sheet as it may be: 1 to 8 strokes, a mean height above 0 -/
def sj_shv (m : Nat → Int32) (i : Nat) : Prop := i < 8 ∧ sj_of m i 1 = nI (sj_ns m i) ∧ 1 ≤ sj_ns m i ∧ sj_ns m i ≤ 8 ∧ ¬ sj_tot m i 1 / nI (sj_ns m i) = 0
theorem sj_wi_lo {v a b : Int32} (h : v < a) : sj_wi v a b = false := by
  unfold sj_wi
  rw [decide_eq_false (Int32.not_le.mpr h), Bool.false_and]
theorem sj_wi_hi {v a b : Int32} (h : b < v) : sj_wi v a b = false := by
  unfold sj_wi
  rw [decide_eq_false (p := v ≤ b) (Int32.not_le.mpr h), Bool.and_false]
theorem sj_wi_in {v a b : Int32} (h1 : ¬ v < a) (h2 : ¬ b < v) : sj_wi v a b = true := by
  unfold sj_wi
  rw [decide_eq_true (Int32.not_lt.mp h1), decide_eq_true (Int32.not_lt.mp h2)]
  rfl
theorem sj_i98 (i w : Nat) : (98 : Int32) + 42 * nI i + nI w = nI (98 + 42 * i + w) := by
  rw [show (98 : Int32) = nI 98 from rfl, show (42 : Int32) = nI 42 from rfl, sj_nmul, nI_add, nI_add]
theorem sj_i14 (k w : Nat) : (14 : Int32) + 3 * nI k + nI w = nI (14 + 3 * k + w) := by
  rw [show (14 : Int32) = nI 14 from rfl, show (3 : Int32) = nI 3 from rfl, sj_nmul, nI_add, nI_add]
theorem sj_i2 (k w : Nat) : (2 : Int32) + 5 * nI k + nI w = nI (2 + 5 * k + w) := by
  rw [show (2 : Int32) = nI 2 from rfl, show (5 : Int32) = nI 5 from rfl, sj_nmul, nI_add, nI_add]
def sj_mn (f : Nat → Int32) : Nat → Int32
  | 0 => f 0
  | k + 1 => if f (k + 1) < sj_mn f k then f (k + 1) else sj_mn f k
def sj_mx (f : Nat → Int32) : Nat → Int32
  | 0 => f 0
  | k + 1 => if sj_mx f k < f (k + 1) then f (k + 1) else sj_mx f k
def sj_spr (m : Nat → Int32) (i : Nat) : Int32 := sj_mx (fun k => sj_os m i k 0) (sj_ns m i - 1) - sj_mn (fun k => sj_os m i k 0) (sj_ns m i - 1)
def sj_lh (m : Nat → Int32) (i : Nat) : Int32 := if sj_tot m i 2 = 0 then 0 else sj_sum (fun k => sj_os m i k 2 * sj_os m i k 1) (sj_ns m i) / sj_tot m i 2 * 10 / (sj_tot m i 1 / nI (sj_ns m i))
def sj_ur (m : Nat → Int32) (i : Nat) : Int32 := if sj_ns m i = 1 then 0 else sj_sum (fun k => sj_sz (sj_os m i (k + 1) 3 - sj_os m i k 3)) (sj_ns m i - 1) * 10 / (nI (sj_ns m i) - 1)
def sj_mk (m : Nat → Int32) (i : Nat) : Nat → Int32
  | 0 => sj_dv (sj_tot m i 0) (nI (sj_ns m i))
  | 1 => sj_spr m i
  | 2 => sj_lh m i
  | 3 => 100 * sj_tot m i 2 / nI (sj_ns m i)
  | 4 => 10 * sj_tot m i 3 / nI (sj_ns m i)
  | _ => sj_ur m i
def sj_hf (m : Nat → Int32) (i : Nat) : Bool := decide (m 6 ≤ sj_of m i 0)
def sj_gn (m : Nat → Int32) (i e j : Nat) : Bool := (decide (j = 2) || decide (j = 3)) && (sj_hf m i || sj_hf m e)
def sj_dfr (m : Nat → Int32) (i e j : Nat) : Int32 := sj_sz (sj_mk m i j - sj_mk m e j) - sj_sz (sj_of m i 0 - sj_of m e 0) / 10
def sj_agb (m : Nat → Int32) (i e j : Nat) : Bool := !sj_gn m i e j && decide (sj_dfr m i e j ≤ m j)
def sj_agr (m : Nat → Int32) (i e : Nat) : Nat → Int32
  | 0 => 0
  | j + 1 => sj_agr m i e j ||| (if sj_agb m i e j then 1 <<< (nI j &&& 31) else 0)
def sj_ones (x : Int32) : Int32 := sj_sum (fun k => (x >>> (nI k &&& 31)) &&& 1) 8
def sj_lik (m : Nat → Int32) (i e : Nat) : Int32 := sj_ones (sj_agr m i e 6)
def sj_trm (m : Nat → Int32) (i : Nat) : Bool := decide (nI (sj_ns m i) * m 7 < sj_tot m i 4)
theorem sj_wi23 {j : Nat} (hj : j < 6) : sj_wi (nI j) 2 3 = (decide (j = 2) || decide (j = 3)) := by
  obtain rfl | rfl | rfl | rfl | rfl | rfl : j = 0 ∨ j = 1 ∨ j = 2 ∨ j = 3 ∨ j = 4 ∨ j = 5 := by omega
  all_goals decide
