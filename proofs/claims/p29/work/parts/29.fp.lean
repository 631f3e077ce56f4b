/-! numbers of doubles: the share of hands, and its bits -/
def sj_bol : Nat → UInt64 → Int64 → Option Int64
  | 0, _, _ => none
  | k + 1, x, e =>
    if 0 ≤ Op.cmpValue (FP.dcmp x FP.dconst1) .g ∨ ¬ 1 < e then
      if FP.dsub x FP.dconst1 &&& 0x7fffffffffffffff ≤ 0x7ff0000000000000 ∧ FP.dmul (FP.dsub x FP.dconst1) 0x4330000000000000 &&& 0x7fffffffffffffff ≤ 0x7ff0000000000000 then some ((e <<< (52 &&& 63)) + FP.d2l (FP.dmul (FP.dsub x FP.dconst1) 0x4330000000000000)) else none
    else if FP.dmul x 0x4000000000000000 &&& 0x7fffffffffffffff ≤ 0x7ff0000000000000 then sj_bol k (FP.dmul x 0x4000000000000000) (e - 1) else none
def sj_shg (s p : Nat) : Bool :=
  let x := FP.ddiv (FP.i2d (nI s)) (FP.i2d (nI (6 * p)))
  decide (x &&& 0x7fffffffffffffff ≤ 0x7ff0000000000000) && (decide (Op.cmpValue (FP.dcmp x x) .l = 0) && (decide (Op.cmpValue (FP.dcmp x x) .g = 0) &&
   (if Op.cmpValue (FP.dcmp x FP.dconst0) .g ≤ 0 then decide (x.toInt64 = 0) else decide (sj_bol 12 x 1023 = some x.toInt64))))
theorem sj_shg_ok : ∀ p, p < 28 → ∀ s, s < 169 → (decide (6 * (p + 1) < s) || sj_shg s (p + 1)) = true := by decide +kernel
