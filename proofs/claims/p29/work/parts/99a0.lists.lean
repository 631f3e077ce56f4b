/-! THE WORDS: all stand in the tables -/
theorem lw_al {l T : List Cond} (ix : List Nat) (h : ix.map (fun i => T[i]?) = l.map some) : ∀ w ∈ l, w ∈ T := by
  intro w hw
  have h1 : some w ∈ l.map some := List.mem_map.mpr ⟨w, hw, rfl⟩
  rw [← h] at h1
  obtain ⟨i, -, hi⟩ := List.mem_map.mp h1
  exact List.mem_of_getElem? hi
theorem lw_an {l T : List Cond} (h : l.all (fun w => T.any (fun v => decide (v = w))) = true) : ∀ w ∈ l, w ∈ T := fun w hw => by
  obtain ⟨v, h1, h2⟩ := List.any_eq_true.mp (List.all_eq_true.mp h w hw)
  rw [← of_decide_eq_true h2]
  exact h1
theorem lw_al2 {l T : List Cond} (j : Nat) (x : Cond) (ix : List Nat) (h : ix.map (fun i => T[i]?) = (l.eraseIdx j).map some) (hx : l[j]? = some x) (hm : x ∈ T) : ∀ w ∈ l, w ∈ T := fun w hw => by
  obtain ⟨i, hi⟩ := List.mem_iff_getElem?.mp hw
  by_cases e : i = j
  · rw [e, hx] at hi
    rw [← Option.some.inj hi]
    exact hm
  · exact lw_al ix h w (List.mem_eraseIdx_iff_getElem?.mpr ⟨i, e, hi⟩)
set_option maxRecDepth 100000 in
theorem lt_R1 : ∀ w ∈ wsL_law0_r1, w ∈ lw_tbl := lw_al [46, 47, 31, 70, 48, 49, 50, 51, 52, 53, 54, 55, 32, 238, 105, 106, 34, 239, 218, 219, 38, 240, 241, 242] rfl
set_option maxRecDepth 100000 in
theorem lt_R2 : ∀ w ∈ wsL_law0_r2, w ∈ lw_tbl := lw_al [57, 58, 59, 60, 61, 33, 71, 76, 80, 81, 82, 62, 63, 64, 65, 66, 107, 108, 109, 110, 111, 112, 35, 190] rfl
set_option maxRecDepth 100000 in
theorem lt_R3 : ∀ w ∈ wsL_law0_r3, w ∈ lw_tbl := lw_al [191, 136, 192, 138, 139, 36, 195, 197, 199, 200, 113, 114, 115, 116, 117, 126, 123, 125, 118, 119, 120, 121, 122, 137] rfl
set_option maxRecDepth 100000 in
theorem lt_R4 : ∀ w ∈ wsL_law0_r4, w ∈ lw_tbl := lw_al [141, 142, 143, 144, 151, 152, 153, 154, 145, 170, 171, 172, 173, 176, 0, 177, 146, 178, 179, 180, 181, 182, 183, 185] rfl
set_option maxRecDepth 100000 in
theorem lt_R5 : ∀ w ∈ wsL_law0_r5, w ∈ lw_tbl := lw_al [1, 186, 187, 188, 37, 189, 220, 221, 222, 223, 224, 227, 226, 254, 255, 30, 256, 257, 258, 259, 260, 261, 262, 357] rfl
set_option maxRecDepth 100000 in
theorem lt_R6 : ∀ w ∈ wsL_law0_r6, w ∈ lw_tbl := lw_al [358, 359, 368, 360, 361, 362, 363, 364, 365, 366, 367, 72, 369, 370, 371, 372, 266, 373, 374, 375, 376, 377, 42, 271] rfl
set_option maxRecDepth 100000 in
theorem lt_R7 : ∀ w ∈ wsL_law0_r7, w ∈ lw_tbl := lw_al [43, 394, 395, 396, 397, 398, 399, 400, 401, 882, 883, 884, 885, 886, 887, 722, 723, 724, 725, 726, 727, 728, 730, 732] rfl
set_option maxRecDepth 100000 in
theorem lt_R8 : ∀ w ∈ wsL_law0_r8, w ∈ lw_tbl := lw_al [25, 733, 647, 734, 735, 736, 737, 194, 738, 739, 740, 741, 742, 601, 602, 603, 548, 549, 550, 551, 743, 745, 26, 746] rfl
set_option maxRecDepth 100000 in
theorem lt_R9 : ∀ w ∈ wsL_law0_r9, w ∈ lw_tbl := lw_al [575, 483, 484, 544, 546, 19, 547, 747, 749, 27, 750, 552, 554, 20, 555, 556, 557, 558, 559, 560, 462, 463, 464, 465] rfl
set_option maxRecDepth 100000 in
theorem lt_R10 : ∀ w ∈ wsL_law0_r10, w ∈ lw_tbl := lw_al [467, 12, 468, 469, 561, 751, 753, 28, 754, 562, 563, 564, 565, 566, 568, 21, 569, 570, 574, 494, 495, 571, 572, 573] rfl
set_option maxRecDepth 100000 in
theorem lt_R11 : ∀ w ∈ wsL_law0_r11, w ∈ lw_tbl := lw_al [576, 578, 22, 579, 580, 581, 44, 582, 583, 584, 585, 763, 764, 765, 766, 767, 768, 769, 771, 772, 773, 774, 775, 777] rfl
set_option maxRecDepth 100000 in
theorem lt_R12 : ∀ w ∈ wsL_law0_r12, w ∈ lw_tbl := lw_al [29, 778, 779, 780, 781, 782, 786, 787, 788, 503, 789, 790, 791, 792, 516, 45, 512, 514, 17, 515, 794, 795, 796, 797] rfl
set_option maxRecDepth 100000 in
theorem lt_R13 : ∀ w ∈ wsL_law0_r13, w ∈ lw_tbl := lw_al [798, 799, 800, 801, 540, 542, 18, 543, 852, 853, 854, 855, 856, 857, 858, 810, 860, 861, 862, 863, 402, 403, 404, 405] rfl
set_option maxRecDepth 100000 in
theorem lt_R14 : ∀ w ∈ wsL_law0_r14, w ∈ lw_tbl := lw_al [406, 407, 408, 409, 410, 411, 455, 412, 413, 414, 415, 416, 418, 4, 419, 74, 75, 79, 83, 420, 422, 5, 423, 424] rfl
set_option maxRecDepth 100000 in
theorem lt_R15 : ∀ w ∈ wsL_law0_r15, w ∈ lw_tbl := lw_al [426, 6, 427, 428, 430, 7, 431, 432, 433, 435, 8, 436, 437, 439, 9, 440, 441, 443, 10, 444, 445, 447, 11, 448] rfl
set_option maxRecDepth 100000 in
theorem lt_R16 : ∀ w ∈ wsL_law0_r16, w ∈ lw_tbl := lw_al [451, 452, 453, 454, 228, 229, 343, 345, 3, 346, 347, 348, 349, 350, 351, 352, 353, 354, 355, 149, 356, 456, 457, 458] rfl
set_option maxRecDepth 100000 in
theorem lt_R17 : ∀ w ∈ wsL_law0_r17, w ∈ lw_tbl := lw_al [459, 460, 461, 470, 471, 472, 473, 474, 37, 475, 476, 477, 479, 13, 480, 481, 482, 485, 487, 14, 488, 489, 491, 15] rfl
set_option maxRecDepth 100000 in
theorem lt_R18 : ∀ w ∈ wsL_law0_r18, w ∈ lw_tbl := lw_al [492, 493, 496, 497, 498, 499, 500, 501, 502, 504, 505, 506, 507, 508, 510, 16, 511, 532, 533, 534, 535, 536, 537, 538] rfl
set_option maxRecDepth 100000 in
theorem lt_R19 : ∀ w ∈ wsL_law0_r19, w ∈ lw_tbl := lw_al [539, 586, 587, 588, 589, 590, 592, 23, 593, 595, 596, 597, 598, 599, 600, 604, 605, 606, 607, 608, 609, 610, 611, 612] rfl
set_option maxRecDepth 100000 in
theorem lt_R20 : ∀ w ∈ wsL_law0_r20, w ∈ lw_tbl := lw_al [613, 614, 615, 616, 618, 24, 619, 620, 621, 622, 623, 624, 625, 626, 627, 628, 629, 630, 632, 633, 634, 635, 636, 637] rfl
set_option maxRecDepth 100000 in
theorem lt_R21 : ∀ w ∈ wsL_law0_r21, w ∈ lw_tbl := lw_al [638, 639, 640, 641, 642, 643, 648, 649, 650, 651, 652, 653, 654, 655, 656, 657, 658, 659, 660, 661, 662, 663, 664, 665] rfl
set_option maxRecDepth 100000 in
theorem lt_R22 : ∀ w ∈ wsL_law0_r22, w ∈ lw_tbl := lw_al [666, 667, 263, 264, 265, 267, 268, 269, 270, 339, 340, 341, 342, 668, 669, 670, 671, 672, 673, 674, 675, 676, 677, 678] rfl
set_option maxRecDepth 100000 in
theorem lt_R23 : ∀ w ∈ wsL_law0_r23, w ∈ lw_tbl := lw_al [679, 680, 681, 682, 683, 684, 685, 686, 687, 688, 689, 690, 691, 692, 693, 694, 695, 696, 697, 698, 699, 700, 701, 702] rfl
set_option maxRecDepth 100000 in
theorem lt_R26 : ∀ w ∈ wsL_law0_r26, w ∈ lw_tbl := lw_al [822, 823, 824, 825, 826, 827, 828, 829, 830, 831, 832, 834, 835, 836, 837, 838, 839, 840, 841, 842, 843, 844, 845, 846] rfl
set_option maxRecDepth 100000 in
theorem lt_R27 : ∀ w ∈ wsL_law0_r27, w ∈ lw_tbl := lw_al [847, 848, 849, 850, 851, 864, 865, 866, 867, 868, 869, 870, 871, 872, 873, 874, 875, 876, 877, 878, 879, 880, 881] rfl
