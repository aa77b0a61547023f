/-! the words of the law, out of the tables: 21 to 30 -/
set_option maxRecDepth 20000 in
theorem wsL_g21 : GoodIn lw_tbl wsL_law_r21 := goodIn_r _ [445, 446, 751, 752, 753, 754, 755, 757, 30, 758, 759, 761, 31, 762, 763, 765, 32, 766, 447, 448, 449, 450, 451, 452] (by decide +kernel) (by decide +kernel)
set_option maxRecDepth 20000 in
theorem wsL_g22 : GoodIn lw_tbl wsL_law_r22 := goodIn_r _ [453, 454, 455, 456, 767, 768, 769, 770, 771, 773, 33, 774, 457, 458, 459, 460, 461, 462, 463, 464, 465, 775, 776, 777] (by decide +kernel) (by decide +kernel)
set_option maxRecDepth 20000 in
theorem wsL_g23 : GoodIn lw_tbl wsL_law_r23 := goodIn_r _ [778, 466, 467, 468, 469, 111, 164, 470, 471, 472, 473, 474, 475, 476, 477, 478, 479, 480, 481, 482, 483, 484, 54, 485] (by decide +kernel) (by decide +kernel)
set_option maxRecDepth 20000 in
theorem wsL_g24 : GoodIn lw_tbl wsL_law_r24 := goodIn_r _ [486, 487, 488, 489, 490, 491, 492, 493, 779, 780, 781, 782, 565, 783, 785, 34, 786, 787, 789, 35, 790, 791, 793, 36] (by decide +kernel) (by decide +kernel)
set_option maxRecDepth 20000 in
theorem wsL_g25 : GoodIn lw_tbl wsL_law_r25 := goodIn_r _ [794, 795, 797, 37, 798, 494, 495, 496, 497, 498, 499, 500, 501, 799, 800, 801, 802, 502, 503, 504, 505, 506, 507, 508] (by decide +kernel) (by decide +kernel)
set_option maxRecDepth 20000 in
theorem wsL_g26 : GoodIn lw_tbl wsL_law_r26 := goodIn_r _ [509, 162, 803, 804, 805, 806, 510, 511, 512, 513, 807, 808, 809, 810, 514, 515, 516, 517, 183, 181, 518, 519, 520, 521] (by decide +kernel) (by decide +kernel)
set_option maxRecDepth 20000 in
theorem wsL_g27 : GoodIn lw_tbl wsL_law_r27 := goodIn_r _ [180, 182, 73, 163, 522, 524, 9, 525, 79, 82, 526, 528, 10, 529, 88, 530, 532, 11, 533, 534, 535, 536, 537, 538] (by decide +kernel) (by decide +kernel)
set_option maxRecDepth 20000 in
theorem wsL_g28 : GoodIn lw_tbl wsL_law_r28 := goodIn_r _ [540, 12, 541, 542, 543, 544, 545, 546, 548, 13, 549, 811, 812, 813, 814, 572, 573, 815, 817, 38, 818, 574, 575, 819] (by decide +kernel) (by decide +kernel)
set_option maxRecDepth 20000 in
theorem wsL_g29 : GoodIn lw_tbl wsL_law_r29 := goodIn_r _ [821, 39, 822, 576, 823, 825, 40, 826, 827, 829, 41, 830, 831, 833, 42, 834, 835, 837, 43, 838, 550, 551, 552, 553] (by decide +kernel) (by decide +kernel)
set_option maxRecDepth 20000 in
theorem wsL_g30 : GoodIn lw_tbl wsL_law_r30 := goodIn_r _ [185, 554, 839, 840, 841, 842] (by decide +kernel) (by decide +kernel)
set_option maxRecDepth 20000 in
theorem wsL_x0 : GoodIn lw_tbl wsX00 := goodIn_of _ (by decide +kernel)
set_option maxRecDepth 20000 in
theorem wsL_x1 : GoodIn lw_tbl wsX10 := goodIn_of _ (by decide +kernel)
set_option maxRecDepth 20000 in
theorem wsL_x2 : GoodIn lw_tbl wsX20 := goodIn_of _ (by decide +kernel)
set_option maxRecDepth 20000 in
theorem wsL_x3 : GoodIn lw_tbl wsX30 := goodIn_of _ (by decide +kernel)
set_option maxRecDepth 20000 in
theorem wsL_x4 : GoodIn lw_tbl wsX40 := goodIn_of _ (by decide +kernel)
set_option maxRecDepth 20000 in
theorem wsL_x5 : GoodIn lw_tbl wsX50 := goodIn_of _ (by decide +kernel)
set_option maxRecDepth 20000 in
theorem wsL_x6 : GoodIn lw_tbl wsX60 := goodIn_of _ (by decide +kernel)
set_option maxRecDepth 20000 in
theorem wsL_x7 : GoodIn lw_tbl wsX70 := goodIn_of _ (by decide +kernel)
theorem wsL_law_good : GoodIn lw_tbl wsL_law := goodIn_app (goodIn_app (goodIn_app (goodIn_app (goodIn_app (goodIn_app (goodIn_app (goodIn_app (goodIn_app (goodIn_app wsL_g1 (goodIn_app wsL_g2 (goodIn_app wsL_g3 (goodIn_app wsL_g4 (goodIn_app wsL_g5 (goodIn_app wsL_g6 (goodIn_app wsL_g7 (goodIn_app wsL_g8 (goodIn_app wsL_g9 (goodIn_app wsL_g10 (goodIn_app wsL_g11 (goodIn_app wsL_g12 (goodIn_app wsL_g13 (goodIn_app wsL_g14 (goodIn_app wsL_g15 (goodIn_app wsL_g16 (goodIn_app wsL_g17 (goodIn_app wsL_g18 (goodIn_app wsL_g19 (goodIn_app wsL_g20 (goodIn_app wsL_g21 (goodIn_app wsL_g22 (goodIn_app wsL_g23 (goodIn_app wsL_g24 (goodIn_app wsL_g25 (goodIn_app wsL_g26 (goodIn_app wsL_g27 (goodIn_app wsL_g28 (goodIn_app wsL_g29 (wsL_g30)))))))))))))))))))))))))))))) wsL_x6) wsL_x7) wsL_x4) wsL_x0) wsL_x1) wsL_x2) wsL_x5) wsL_x3) (fun _ h => absurd h List.not_mem_nil)
theorem wsL_law_in : ∀ w ∈ wsL_law, w ∈ lw_tbl := fun w h => (wsL_law_good w h).1
theorem inlX0 : ∀ w ∈ wsX00, w ∈ wsL_law := fun _ h => List.mem_append_left _ (List.mem_append_left _ (List.mem_append_left _ (List.mem_append_left _ (List.mem_append_left _ (List.mem_append_right _ h)))))
theorem inX0 : ∀ w ∈ wsX00, w ∈ lw_tbl := fun w h => wsL_law_in w (inlX0 w h)
theorem inlX1 : ∀ w ∈ wsX10, w ∈ wsL_law := fun _ h => List.mem_append_left _ (List.mem_append_left _ (List.mem_append_left _ (List.mem_append_left _ (List.mem_append_right _ h))))
theorem inX1 : ∀ w ∈ wsX10, w ∈ lw_tbl := fun w h => wsL_law_in w (inlX1 w h)
theorem inlX2 : ∀ w ∈ wsX20, w ∈ wsL_law := fun _ h => List.mem_append_left _ (List.mem_append_left _ (List.mem_append_left _ (List.mem_append_right _ h)))
theorem inX2 : ∀ w ∈ wsX20, w ∈ lw_tbl := fun w h => wsL_law_in w (inlX2 w h)
theorem inlX3 : ∀ w ∈ wsX30, w ∈ wsL_law := fun _ h => List.mem_append_left _ (List.mem_append_right _ h)
theorem inX3 : ∀ w ∈ wsX30, w ∈ lw_tbl := fun w h => wsL_law_in w (inlX3 w h)
theorem inlX4 : ∀ w ∈ wsX40, w ∈ wsL_law := fun _ h => List.mem_append_left _ (List.mem_append_left _ (List.mem_append_left _ (List.mem_append_left _ (List.mem_append_left _ (List.mem_append_left _ (List.mem_append_right _ h))))))
theorem inX4 : ∀ w ∈ wsX40, w ∈ lw_tbl := fun w h => wsL_law_in w (inlX4 w h)
theorem inlX5 : ∀ w ∈ wsX50, w ∈ wsL_law := fun _ h => List.mem_append_left _ (List.mem_append_left _ (List.mem_append_right _ h))
theorem inX5 : ∀ w ∈ wsX50, w ∈ lw_tbl := fun w h => wsL_law_in w (inlX5 w h)
theorem inlX6 : ∀ w ∈ wsX60, w ∈ wsL_law := fun _ h => List.mem_append_left _ (List.mem_append_left _ (List.mem_append_left _ (List.mem_append_left _ (List.mem_append_left _ (List.mem_append_left _ (List.mem_append_left _ (List.mem_append_left _ (List.mem_append_right _ h))))))))
theorem inX6 : ∀ w ∈ wsX60, w ∈ lw_tbl := fun w h => wsL_law_in w (inlX6 w h)
theorem inlX7 : ∀ w ∈ wsX70, w ∈ wsL_law := fun _ h => List.mem_append_left _ (List.mem_append_left _ (List.mem_append_left _ (List.mem_append_left _ (List.mem_append_left _ (List.mem_append_left _ (List.mem_append_left _ (List.mem_append_right _ h)))))))
theorem inX7 : ∀ w ∈ wsX70, w ∈ lw_tbl := fun w h => wsL_law_in w (inlX7 w h)

