theorem wsL_law_r14_in : ∀ w ∈ wsL_law0_r14, w ∈ lw_tbl := fun w h => (goodIn_p wsL_law0_r14 [602, 606, 610, 614, 618, 622] (by decide +kernel) (by decide +kernel) w h).1
theorem wsL_law_r15_in : ∀ w ∈ wsL_law0_r15, w ∈ lw_tbl := fun w h => (goodIn_p wsL_law0_r15 [423, 427, 431, 436, 440, 460] (by decide +kernel) (by decide +kernel) w h).1
theorem wsL_law_r16_in : ∀ w ∈ wsL_law0_r16, w ∈ lw_tbl := fun w h => (goodIn_p wsL_law0_r16 [465, 468, 473, 481, 484, 489] (by decide +kernel) (by decide +kernel) w h).1
theorem wsL_law_r17_in : ∀ w ∈ wsL_law0_r17, w ∈ lw_tbl := fun w h => (goodIn_p wsL_law0_r17 [493, 625, 629, 634, 638, 642] (by decide +kernel) (by decide +kernel) w h).1
theorem wsL_law_r18_in : ∀ w ∈ wsL_law0_r18, w ∈ lw_tbl := fun w h => (goodIn_p wsL_law0_r18 [646, 650, 654, 658, 662, 666] (by decide +kernel) (by decide +kernel) w h).1
theorem wsL_law_r19_in : ∀ w ∈ wsL_law0_r19, w ∈ lw_tbl := fun w h => (goodIn_p wsL_law0_r19 [670, 674, 678, 682, 686, 690] (by decide +kernel) (by decide +kernel) w h).1
theorem wsL_law_r20_in : ∀ w ∈ wsL_law0_r20, w ∈ lw_tbl := fun w h => (goodIn_p wsL_law0_r20 [694, 698, 702, 706, 710, 714] (by decide +kernel) (by decide +kernel) w h).1
theorem wsL_law_r21_in : ∀ w ∈ wsL_law0_r21, w ∈ lw_tbl := fun w h => (goodIn_p wsL_law0_r21 [718, 722, 726, 730, 734, 738] (by decide +kernel) (by decide +kernel) w h).1
theorem wsL_law_r22_in : ∀ w ∈ wsL_law0_r22, w ∈ lw_tbl := fun w h => (goodIn_p wsL_law0_r22 [419, 747, 812, 798, 788, 802] (by decide +kernel) (by decide +kernel) w h).1
theorem wsL_law_r23_in : ∀ w ∈ wsL_law0_r23, w ∈ lw_tbl := fun w h => (goodIn_p wsL_law0_r23 [806, 784, 794, 815, 819, 823] (by decide +kernel) (by decide +kernel) w h).1
theorem wsL_law_r24_in : ∀ w ∈ wsL_law0_r24, w ∈ lw_tbl := fun w h => (goodIn_p wsL_law0_r24 [770, 741, 751, 755, 759, 763] (by decide +kernel) (by decide +kernel) w h).1
set_option maxRecDepth 100000 in
theorem wsL_law_r25_in : ∀ w ∈ wsL_law0_r25, w ∈ lw_tbl := fun w h => (goodIn_p wsL_law0_r25 [767, 477, 773, 776, 829] rfl (by decide +kernel) w h).1
theorem wsL_law_r26_in : ∀ w ∈ wsL_law0_r26, w ∈ lw_tbl := fun w h => (goodIn_p wsL_law0_r26 [] (by decide +kernel) (by decide +kernel) w h).1
theorem wsL_law_r27_in : ∀ w ∈ wsL_law0_r27, w ∈ lw_tbl := fun w h => (goodIn_p wsL_law0_r27 [833, 837, 840, 845, 870, 501, 497] (by decide +kernel) (by decide +kernel) w h).1
