/-! THE REFERENCE: what is asked of the oaths and of the hands -/
theorem sj_scr_id {S : sj_St} {b : Nat → Nat} {r : Option Value} : sj_scr r S b r S := ⟨rfl, sj_ia S (b 15), (sj_sIa_id S (b 15)).symm⟩
def sj_hds (m : Nat → Int32) : Int32 := sj_sum (fun k => sj_bi (decide (sj_hH m (-1) k = nI k))) (sj_tn (m 9))
def sj_a1 (m : Nat → Int32) (i e : Nat) : Bool := decide (sj_hH m (-1) i = sj_hH m (-1) e)
def sj_fp (m : Nat → Int32) (i e k : Nat) : Bool := (decide (sj_oa m k 0 = nI i) && decide (sj_oa m k 1 = nI e)) || (decide (sj_oa m k 0 = nI e) && decide (sj_oa m k 1 = nI i))
/-- the first place from k on, of j places, where p holds -/
def sj_fst (p : Nat → Bool) : Nat → Nat → Int32
  | 0, _ => -1
  | j + 1, k => if p k then nI k else sj_fst p j (k + 1)
def sj_fo (m : Nat → Int32) (i e : Nat) : Int32 := sj_fst (sj_fp m i e) (sj_tn (m 10)) 0
theorem sj_fst_s {p : Nat → Bool} {n k : Nat} (h : k < n) : sj_fst p (n - k) k = if p k then nI k else sj_fst p (n - (k + 1)) (k + 1) := by
  obtain ⟨j, hj⟩ : ∃ j, n - k = j + 1 := ⟨n - k - 1, by omega⟩
  have h2 : n - (k + 1) = j := by omega
  rw [hj, h2]
  rfl
/-- the hands as they would be if two sheets were joined -/
def sj_jH (m : Nat → Int32) (i e : Nat) : Nat → Int32 := sj_jn (sj_tn (m 9)) (sj_hH m (-1)) (sj_hH m (-1) i) (sj_hH m (-1) e)
def sj_brk (m : Nat → Int32) (i e : Nat) : Nat → Bool
  | 0 => false
  | k + 1 => sj_brk m i e k || (decide (sj_oa m k 2 = 0) && decide (sj_jH m i e (sj_tn (sj_oa m k 0)) = sj_jH m i e (sj_tn (sj_oa m k 1))))
def sj_why (m : Nat → Int32) (i e : Nat) (like : Bool) : Int32 :=
  if i = e then 1 else if ¬ sj_fo m i e = -1 then 2 else if like = false then (if sj_a1 m i e then 6 else 0)
  else if sj_trm m i || sj_trm m e then 3 else if sj_lik m i e < m 8 then 4 else if sj_brk m i e (sj_tn (m 10)) then 5 else 0
def sj_hld (m : Nat → Int32) (k : Nat) : Bool := decide (sj_oa m k 2 = 1) && decide (¬ sj_hH m (nI k) (sj_tn (sj_oa m k 0)) = sj_hH m (nI k) (sj_tn (sj_oa m k 1)))
def sj_oof (m : Nat → Int32) (i : Nat) : Int32 := sj_sum (fun k => sj_bi (decide (sj_oa m k 0 = nI i) || decide (sj_oa m k 1 = nI i))) (sj_tn (m 10))
def sj_lko (m : Nat → Int32) : Int32 := sj_sum (fun k => sj_oa m k 2) (sj_tn (m 10))
def sj_mem (m : Nat → Int32) (k : Nat) : Int32 := sj_sum (fun e => sj_bi (decide (sj_hH m (-1) e = nI k))) (sj_tn (m 9))
def sj_big (f : Nat → Int32) : Nat → Int32
  | 0 => 0
  | k + 1 => if sj_big f k < f k then f k else sj_big f k
def sj_moh (m : Nat → Int32) : Int32 := sj_big (sj_mem m) (sj_tn (m 9))
def sj_trs (m : Nat → Int32) : Int32 := sj_sum (fun k => sj_bi (sj_trm m k)) (sj_tn (m 9))
/-- the sheets as they may be -/
def sj_shs (m : Nat → Int32) : Prop := ∀ i, i < sj_tn (m 9) → sj_shv m i
def sj_lpr (m : Nat → Int32) (k : Nat) : Int32 := sj_sum (fun e => sj_bi (decide (m 8 ≤ sj_lik m k e))) k
def sj_lps (m : Nat → Int32) : Nat → Int32
  | 0 => 0
  | k + 1 => sj_lps m k + sj_lpr m k
def sj_tol (m : Nat → Int32) (i e j : Nat) : Int32 := if sj_gn m i e j then -1 else if sj_dfr m i e j < 0 then 0 else sj_dfr m i e j
def sj_tst (m : Nat → Int32) (i k w : Nat) : Int32 := if nI (sj_ns m i) ≤ nI k then -1 else sj_os m i k w + (if w = 0 then 100 else 0)
def sj_too (m : Nat → Int32) (i e : Nat) : Int32 := if sj_fo m i e = -1 then -1 else sj_oa m (sj_tn (sj_fo m i e)) 2
/-- the most alike among the first k sheets -/
def sj_mal (m : Nat → Int32) (i : Nat) : Nat → Option Nat
  | 0 => none
  | k + 1 => if k = i then sj_mal m i k else match sj_mal m i k with
    | none => some k
    | some j => if sj_lik m i j < sj_lik m i k then some k else some j
def sj_on (o : Option Nat) : Int32 := match o with
  | none => -1
  | some j => nI j
theorem sj_mal_lt (m : Nat → Int32) (i : Nat) : ∀ k j, sj_mal m i k = some j → j < k
  | 0, j, h => by cases h
  | k + 1, j, h => by
    have ih := sj_mal_lt m i k
    by_cases hk : k = i
    · have e : sj_mal m i (k + 1) = sj_mal m i k := if_pos hk
      rw [e] at h
      have := ih j h
      omega
    · have e : sj_mal m i (k + 1) = (match sj_mal m i k with
        | none => some k
        | some j => if sj_lik m i j < sj_lik m i k then some k else some j) := if_neg hk
      rw [e] at h
      cases h9 : sj_mal m i k with
      | none =>
        rw [h9] at h
        cases h
        omega
      | some q =>
        rw [h9] at h
        have h1 := ih q h9
        dsimp only at h
        by_cases h2 : sj_lik m i q < sj_lik m i k
        · rw [if_pos h2] at h
          cases h
          omega
        · rw [if_neg h2] at h
          cases h
          omega
