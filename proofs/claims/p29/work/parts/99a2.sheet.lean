/-! THE WORDS: sheet -/
set_option maxRecDepth 100000 in
theorem lt_R25 : ∀ w ∈ wsL_law0_r25, w ∈ lw_tbl := lw_al2 5 (Cond.code yL_isSheet cL_isSheet 21 (some .boolean)) [760, 761, 762, 783, 784, 802, 803, 804, 805, 806, 807, 808, 811, 812, 813, 814, 815, 816, 817, 818, 819, 820, 821] (by decide +kernel) rfl (List.mem_of_getElem? (i := 785) rfl)
