/-! numbers and small words -/
theorem sj_nmul (a b : Nat) : nI a * nI b = nI (a * b) := (Int32.ofNat_mul a b).symm
theorem sj_nsub {a b : Nat} (h : b ≤ a) : nI a - nI b = nI (a - b) := (Int32.ofNat_sub a b h).symm
theorem sj_n1 (a : Nat) : nI a + Int32.ofInt 1 = nI (a + 1) := nI_add a 1
theorem sj_n4 (a : Nat) : nI a + Int32.ofInt 4 = nI (a + 4) := nI_add a 4
theorem sj_m1 (a : Nat) : nI (a + 1) + Int32.ofInt (-1) = nI a := by
  rw [show Int32.ofInt (-1) = (-1 : Int32) from rfl, ← Int32.sub_eq_add_neg]
  exact nI_pred a
/-- a loop that counts up to n -/
theorem sj_down (P : Nat → Prop) (n : Nat) (h : ∀ k, k ≤ n → (k < n → P (k + 1)) → P k) : P 0 := by
  have key : ∀ j k, k + j = n → P k := by
    intro j
    induction j with
    | zero => intro k hk; exact h k (by omega) (fun hlt => absurd hlt (by omega))
    | succ j ih => intro k hk; exact h k (by omega) (fun _ => ih (k + 1) (by omega))
  exact key n 0 (by omega)
theorem sj_downFrom (P : Nat → Prop) (a n : Nat) (han : a ≤ n) (h : ∀ k, a ≤ k → k ≤ n → (k < n → P (k + 1)) → P k) : P a := by
  have key : ∀ j k, a ≤ k → k + j = n → P k := by
    intro j
    induction j with
    | zero => intro k h1 hk; exact h k h1 (by omega) (fun hlt => absurd hlt (by omega))
    | succ j ih => intro k h1 hk; exact h k h1 (by omega) (fun _ => ih (k + 1) (by omega) (by omega))
  exact key (n - a) a (Nat.le_refl a) (by omega)
def sj_bi (b : Bool) : Int32 := if b then 1 else 0
theorem sj_bi0 {b : Bool} : sj_bi b = 0 ↔ b = false := by cases b <;> decide
theorem sj_bin {b : Bool} : ¬ sj_bi b = 0 ↔ b = true := by cases b <;> decide
theorem sj_binar (b : Bool) : narrow .boolean (.int (sj_bi b)) = .int (sj_bi b) := by cases b <;> rfl
def sj_wi (v a b : Int32) : Bool := decide (a ≤ v) && decide (v ≤ b)
def sj_sz (v : Int32) : Int32 := if v < 0 then -v else v
/-- sums of a function over the first n places -/
def sj_sum (f : Nat → Int32) : Nat → Int32
  | 0 => 0
  | k + 1 => sj_sum f k + f k
theorem sj_wi_n {i n : Nat} (hi : i < 2 ^ 31) (hn : n < 2 ^ 31) : sj_wi (nI i) 0 (nI n) = decide (i ≤ n) := by
  unfold sj_wi
  rw [decide_eq_true (nI_pos' hi), Bool.true_and]
  exact decide_eq_decide.mpr (nI_leI hi hn)
theorem sj_wi_iff {v a b : Int32} : sj_wi v a b = true ↔ a ≤ v ∧ v ≤ b := by
  unfold sj_wi
  rw [Bool.and_eq_true, decide_eq_true_iff, decide_eq_true_iff]
theorem sj_nlt {x y : Int32} : ¬ x < y ↔ y ≤ x := Int32.not_lt
theorem sj_nle {x y : Int32} : ¬ x ≤ y ↔ y < x := Int32.not_le
