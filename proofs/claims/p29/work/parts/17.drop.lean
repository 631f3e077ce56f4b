/-! THE REFERENCE: a sheet goes -/
theorem sj_strong (P : Nat → Prop) (h : ∀ K, (∀ k, k < K → P k) → P K) : ∀ K, P K := fun K => Nat.strongRecOn K h
theorem sj_down1 (x : Int32) : x + Int32.ofInt (-1) = x - 1 := by
  rw [Int32.sub_eq_add_neg]
  rfl
