/-! THE REFERENCE: a stroke, a sheet as a text -/
abbrev sj_W5 : Type := Int32 × Int32 × Int32 × Int32 × Int32
def sj_u3 (B : Nat → Int32) (n : Nat) (sl hg lp : Int32) (p : Nat) : Bool × Nat × Option sj_W5 :=
  if (sj_rdn B n 1 9 p).1 = -1 then (false, (sj_rdn B n 1 9 p).2, some (sl, hg, lp, -1, 0))
  else if sj_nx B n (sj_rdn B n 1 9 p).2 = 126 then (decide (¬ (sj_rdn B n 1 9 (sj_tk B n 126 (sj_rdn B n 1 9 p).2)).1 = -1), (sj_rdn B n 1 9 (sj_tk B n 126 (sj_rdn B n 1 9 p).2)).2, some (sl, hg, lp, (sj_rdn B n 1 9 p).1, (sj_rdn B n 1 9 (sj_tk B n 126 (sj_rdn B n 1 9 p).2)).1))
  else (true, sj_tk B n 126 (sj_rdn B n 1 9 p).2, some (sl, hg, lp, (sj_rdn B n 1 9 p).1, 0))
def sj_u2b (B : Nat → Int32) (n : Nat) (sl hg lp : Int32) (p : Nat) : Bool × Nat × Option sj_W5 :=
  if sj_nx B n p = 112 then sj_u3 B n sl hg lp (sj_tk B n 112 p) else (false, sj_tk B n 112 p, none)
def sj_u2 (B : Nat → Int32) (n : Nat) (sl : Int32) (p : Nat) : Bool × Nat × Option sj_W5 :=
  if (sj_rdn B n 1 60 p).1 = -1 then (false, (sj_rdn B n 1 60 p).2, none)
  else sj_u2b B n sl (sj_rdn B n 1 60 p).1 (sj_bi (decide (sj_nx B n (sj_rdn B n 1 60 p).2 = 111))) (sj_tk B n 111 (sj_rdn B n 1 60 p).2)
def sj_u1 (B : Nat → Int32) (n : Nat) (lo : Bool) (p : Nat) : Bool × Nat × Option sj_W5 :=
  if (sj_rdn B n (sj_bi lo) 45 p).1 = -1 then (false, (sj_rdn B n (sj_bi lo) 45 p).2, none)
  else if sj_nx B n (sj_rdn B n (sj_bi lo) 45 p).2 = 58 then sj_u2 B n (if lo then -(sj_rdn B n (sj_bi lo) 45 p).1 else (sj_rdn B n (sj_bi lo) 45 p).1) (sj_tk B n 58 (sj_rdn B n (sj_bi lo) 45 p).2)
  else (false, sj_tk B n 58 (sj_rdn B n (sj_bi lo) 45 p).2, none)
/-- a stroke from p on: whether it is one, where the reading stands, and what is noted of it -/
def sj_rst (B : Nat → Int32) (n p : Nat) : Bool × Nat × Option sj_W5 := sj_u1 B n (decide (sj_nx B n p = 45)) (sj_tk B n 45 p)
def sj_wst (f : Nat → Int32) (k : Nat) (w : sj_W5) : Nat → Int32 := upd (upd (upd (upd (upd f (5 * k) w.1) (5 * k + 1) w.2.1) (5 * k + 2) w.2.2.1) (5 * k + 3) w.2.2.2.1) (5 * k + 4) w.2.2.2.2
def sj_rsS (S : sj_St) (h : Nat) (b : Nat → Nat) (k : Nat) (r : Bool × Nat × Option sj_W5) : sj_St := match r.2.2 with
  | none => sj_wFi S h 9 (nI r.2.1)
  | some w => sj_wFi (sj_sIa (sj_wFi S h 9 (nI r.2.1)) (b 13) (sj_wst (sj_ia S (b 13)) k w)) h 14 (nI (k + 1))
theorem sj_bi_le (b : Bool) : 0 ≤ sj_bi b := by cases b <;> decide
