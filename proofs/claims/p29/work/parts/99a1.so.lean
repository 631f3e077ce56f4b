/-! THE WORDS: so -/
set_option maxRecDepth 100000 in
theorem lt_R24 : ∀ w ∈ wsL_law0_r24, w ∈ lw_tbl := lw_al2 18 (Cond.code yL_isSo cL_isSo 19 (some .boolean)) [703, 704, 705, 706, 707, 708, 709, 710, 711, 712, 713, 714, 715, 716, 717, 718, 719, 720, 755, 756, 757, 758, 759] (by decide +kernel) rfl (List.mem_of_getElem? (i := 721) rfl)
