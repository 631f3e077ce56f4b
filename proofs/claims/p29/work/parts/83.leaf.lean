/-! THE LAW: its leaves -/
set_option maxRecDepth 100000 in
set_option maxHeartbeats 100000 in
theorem ct_L_low (l : Launch) (S : sj_St) (v n : Int32) (hn : ¬ n = 0) : sj_Ctr l mL_low [.int (v), .int (n)] S (sj_eq (some (.int (sp_low v n))) S) := by
  refine sj_start ([some (.int (v)), some (.int (n))]) (by decide +kernel) rfl rfl (fun X hX C hR => ?_)
  subst hX
  refine sj_iload_n C 1 rfl dL_low_0 rfl rfl ?_
  refine sj_ldc C (2147483647) 3 rfl (wr_5 _ (List.mem_of_getElem? (i := 22) (by decide +kernel))) dL_low_1 ?_
  refine sj_iand C 4 rfl dL_low_3 ?_
  refine sj_iload_n C 5 rfl dL_low_4 rfl rfl ?_
  refine sj_irem C 6 rfl dL_low_5 hn ?_
  refine sj_iret C hR rfl rfl dL_low_6 ?_
  exact ⟨rfl, rfl⟩
set_option maxRecDepth 100000 in
set_option maxHeartbeats 100000 in
theorem ct_L_slant (l : Launch) (S : sj_St) {m : Nat → Int32} {i e : Nat} {T : Int32} (h : sp_tk m i e T) : sj_Ctr l mL_slant [.int (T)] S (sj_eq (some (.int (sj_os m i e 0))) S) := by
  refine sj_start ([some (.int (T))]) (by decide +kernel) rfl rfl (fun X hX C hR => ?_)
  subst hX
  refine sj_iload_n C 1 rfl dL_slant_0 rfl rfl ?_
  refine sj_bipush C (127) 3 rfl dL_slant_1 (by decide) ?_
  refine sj_iand C 4 rfl dL_slant_3 ?_
  refine sj_bipush C (45) 6 rfl dL_slant_4 (by decide) ?_
  refine sj_isub C 7 rfl dL_slant_6 ?_
  refine sj_iret C hR rfl rfl dL_slant_7 ?_
  refine ⟨congrArg (fun z => some (Value.int z)) ?_, rfl⟩
  exact sp_tk_0 h
set_option maxRecDepth 100000 in
set_option maxHeartbeats 100000 in
theorem ct_L_height (l : Launch) (S : sj_St) {m : Nat → Int32} {i e : Nat} {T : Int32} (h : sp_tk m i e T) : sj_Ctr l mL_height [.int (T)] S (sj_eq (some (.int (sj_os m i e 1))) S) := by
  refine sj_start ([some (.int (T))]) (by decide +kernel) rfl rfl (fun X hX C hR => ?_)
  subst hX
  refine sj_iload_n C 1 rfl dL_height_0 rfl rfl ?_
  refine sj_bipush C (7) 3 rfl dL_height_1 (by decide) ?_
  refine sj_ishr C 4 rfl dL_height_3 ?_
  refine sj_bipush C (63) 6 rfl dL_height_4 (by decide) ?_
  refine sj_iand C 7 rfl dL_height_6 ?_
  refine sj_iret C hR rfl rfl dL_height_7 ?_
  refine ⟨congrArg (fun z => some (Value.int z)) ?_, rfl⟩
  exact sp_tk_1 h
set_option maxRecDepth 100000 in
set_option maxHeartbeats 100000 in
theorem ct_L_loop (l : Launch) (S : sj_St) {m : Nat → Int32} {i e : Nat} {T : Int32} (h : sp_tk m i e T) : sj_Ctr l mL_loop [.int (T)] S (sj_eq (some (.int (sj_os m i e 2))) S) := by
  refine sj_start ([some (.int (T))]) (by decide +kernel) rfl rfl (fun X hX C hR => ?_)
  subst hX
  refine sj_iload_n C 1 rfl dL_loop_0 rfl rfl ?_
  refine sj_bipush C (13) 3 rfl dL_loop_1 (by decide) ?_
  refine sj_ishr C 4 rfl dL_loop_3 ?_
  refine sj_iconstv C (1) 5 rfl dL_loop_4 rfl ?_
  refine sj_iand C 6 rfl dL_loop_5 ?_
  refine sj_iret C hR rfl rfl dL_loop_6 ?_
  refine ⟨congrArg (fun z => some (Value.int z)) ?_, rfl⟩
  exact sp_tk_2 h
set_option maxRecDepth 100000 in
set_option maxHeartbeats 100000 in
theorem ct_L_pressure (l : Launch) (S : sj_St) {m : Nat → Int32} {i e : Nat} {T : Int32} (h : sp_tk m i e T) : sj_Ctr l mL_pressure [.int (T)] S (sj_eq (some (.int (sj_os m i e 3))) S) := by
  refine sj_start ([some (.int (T))]) (by decide +kernel) rfl rfl (fun X hX C hR => ?_)
  subst hX
  refine sj_iload_n C 1 rfl dL_pressure_0 rfl rfl ?_
  refine sj_bipush C (14) 3 rfl dL_pressure_1 (by decide) ?_
  refine sj_ishr C 4 rfl dL_pressure_3 ?_
  refine sj_bipush C (15) 6 rfl dL_pressure_4 (by decide) ?_
  refine sj_iand C 7 rfl dL_pressure_6 ?_
  refine sj_iret C hR rfl rfl dL_pressure_7 ?_
  refine ⟨congrArg (fun z => some (Value.int z)) ?_, rfl⟩
  exact sp_tk_3 h
set_option maxRecDepth 100000 in
set_option maxHeartbeats 100000 in
theorem ct_L_size (l : Launch) (S : sj_St) (v : Int32) : sj_Ctr l mL_size [.int (v)] S (sj_eq (some (.int (sj_sz v))) S) := by
  refine sj_start ([some (.int (v))]) (by decide +kernel) rfl rfl (fun X hX C hR => ?_)
  subst hX
  refine sj_iload_n C 1 rfl dL_size_0 rfl rfl ?_
  refine sj_if_ge C 9 4 rfl rfl dL_size_1 (fun c_1 => ?_) (fun c_1 => ?_)
  · refine sj_iload_n C 10 rfl dL_size_9 rfl rfl ?_
    refine sj_iret C hR rfl rfl dL_size_10 ?_
    refine ⟨congrArg (fun z => some (Value.int z)) ?_, rfl⟩
    unfold sj_sz
    rw [if_neg (sj_nlt.mpr c_1)]
  · refine sj_iload_n C 5 rfl dL_size_4 rfl rfl ?_
    refine sj_ineg C 6 rfl dL_size_5 ?_
    refine sj_goto C 10 rfl dL_size_6 ?_
    refine sj_iret C hR rfl rfl dL_size_10 ?_
    refine ⟨congrArg (fun z => some (Value.int z)) ?_, rfl⟩
    unfold sj_sz
    rw [if_pos (sj_nle.mp c_1)]
theorem sp_ones_s : ∀ j, j < 256 → ¬ j = 0 → nI j &&& (nI j - 1) = nI (j &&& (j - 1)) ∧ (j &&& (j - 1)) < j ∧ sj_ones (nI j) = sj_ones (nI (j &&& (j - 1))) + 1 := by decide +kernel
set_option maxRecDepth 100000 in
set_option maxHeartbeats 100000 in
theorem ct_L_ones (l : Launch) (S : sj_St) {j0 : Nat} (hj : j0 < 256) : sj_Ctr l mL_ones [.int (nI j0)] S (sj_eq (some (.int (sj_ones (nI j0)))) S) := by
  refine sj_start ([some (.int (nI j0)), none, none]) (by decide +kernel) rfl rfl (fun X hX C hR => ?_)
  subst hX
  have cut_4 : ∀ b j : Nat, j < b → j < 256 → ∀ c : Int32, c + sj_ones (nI j) = sj_ones (nI j0) → sj_G X S 0 0 [some (.int (nI j0)), some (.int c), some (.int (nI j))] 4 [] := by
    intro b
    induction b with
    | zero => intro j hj; exact absurd hj (by omega)
    | succ b ih =>
      intro j hj h256 c hc
      refine sj_iload_n C 5 rfl dL_ones_4 rfl rfl ?_
      refine sj_if_eq C 20 8 rfl rfl dL_ones_5 (fun c_5 => ?_) (fun c_5 => ?_)
      · refine sj_iload_n C 21 rfl dL_ones_20 rfl rfl ?_
        refine sj_iret C hR rfl rfl dL_ones_21 ?_
        refine ⟨congrArg (fun z => some (Value.int z)) ?_, rfl⟩
        rw [← hc, show j = 0 from (nI_eq (by omega) (by omega)).mp c_5]
        show c = c + sj_ones (nI 0)
        rw [show sj_ones (nI 0) = 0 from by decide +kernel]
        exact (Int32.add_zero c).symm
      · obtain ⟨h1, h2, h3⟩ := sp_ones_s j h256 (fun e => c_5 (by rw [e]; rfl))
        refine sj_iinc_1 C 11 rfl dL_ones_8 rfl rfl ?_
        refine sj_iload_n C 12 rfl dL_ones_11 rfl rfl ?_
        refine sj_iload_n C 13 rfl dL_ones_12 rfl rfl ?_
        refine sj_iconstv C (1) 14 rfl dL_ones_13 rfl ?_
        refine sj_isub C 15 rfl dL_ones_14 ?_
        refine sj_iand C 16 rfl dL_ones_15 ?_
        refine sj_istore_n_2 C 17 rfl dL_ones_16 rfl rfl ?_
        refine sj_goto C 4 rfl dL_ones_17 ?_
        rw [h1]
        exact ih (j &&& (j - 1)) (by omega) (by omega) _ (by rw [← hc, h3]; show c + Int32.ofInt 1 + _ = _; rw [show Int32.ofInt 1 = 1 from rfl, Int32.add_assoc, Int32.add_comm 1 (sj_ones _)])
  refine sj_iconstv C (0) 1 rfl dL_ones_0 rfl ?_
  refine sj_istore_n_1 C 2 rfl dL_ones_1 rfl rfl ?_
  refine sj_iload_n C 3 rfl dL_ones_2 rfl rfl ?_
  refine sj_istore_n_2 C 4 rfl dL_ones_3 rfl rfl ?_
  exact cut_4 (j0 + 1) j0 (by omega) hj 0 (Int32.zero_add _)
def sp_cell (L : Nat) (xs : Nat → Int32) (k : Nat) : Int32 := if k < L then xs k else 41521 * (nI k + 9) + 2784333
set_option maxRecDepth 100000 in
set_option maxHeartbeats 100000 in
theorem ct_L_cell (l : Launch) (S : sj_St) (b Lx : Nat) (xs : Nat → Int32) (hL : Lx < 2 ^ 31) {k : Nat} (hk : k < 2 ^ 31) : sj_CtC l mL_cell b Lx xs [.ref b, .int (nI k)] S (sj_eq (some (.int (sp_cell Lx xs k))) S) := by
  refine sj_startC ([some (.ref b), some (.int (nI k))]) (by decide +kernel) rfl rfl (fun X hX C hR hT => ?_)
  subst hX
  refine sj_iload_n C 1 rfl dL_cell_0 rfl rfl ?_
  refine sj_aload_n C 2 rfl dL_cell_1 rfl rfl ?_
  refine sj_xlen C 3 rfl dL_cell_2 hT ?_
  refine sj_icmp_ge C 12 6 rfl rfl dL_cell_3 (fun c_3 => ?_) (fun c_3 => ?_)
  · refine sj_ldc C (41521) 14 rfl (wr_5 _ (List.mem_of_getElem? (i := 17) (by decide +kernel))) dL_cell_12 ?_
    refine sj_iload_n C 15 rfl dL_cell_14 rfl rfl ?_
    refine sj_bipush C (9) 17 rfl dL_cell_15 (by decide) ?_
    refine sj_iadd C 18 rfl dL_cell_17 ?_
    refine sj_imul C 19 rfl dL_cell_18 ?_
    refine sj_ldc C (2784333) 21 rfl (wr_5 _ (List.mem_of_getElem? (i := 18) (by decide +kernel))) dL_cell_19 ?_
    refine sj_iadd C 22 rfl dL_cell_21 ?_
    refine sj_iret C hR rfl rfl dL_cell_22 ?_
    refine ⟨congrArg (fun z => some (Value.int z)) ?_, rfl⟩
    unfold sp_cell
    rw [if_neg (fun h9 => nI_ge h9 hL c_3)]
  · refine sj_aload_n C 7 rfl dL_cell_6 rfl rfl ?_
    refine sj_iload_n C 8 rfl dL_cell_7 rfl rfl ?_
    refine sj_xld C 9 rfl dL_cell_8 hT (Nat.not_le.mp fun h9 => c_3 (nI_le h9 hk)) hL ?_
    refine sj_goto C 22 rfl dL_cell_9 ?_
    refine sj_iret C hR rfl rfl dL_cell_22 ?_
    refine ⟨congrArg (fun z => some (Value.int z)) ?_, rfl⟩
    unfold sp_cell
    rw [if_pos (Nat.not_le.mp fun h9 => c_3 (nI_le h9 hk))]
