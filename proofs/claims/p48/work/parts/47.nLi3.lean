set_option maxRecDepth 20000 in
theorem wsL_seg45 : GoodIn zs_tbl wsL_law0_r45 := goodIn_p wsL_law0_r45 [496, 499, 502, 505, 508, 1503] (by decide +kernel) (by decide +kernel)
set_option maxRecDepth 20000 in
theorem wsL_seg46 : GoodIn zs_tbl wsL_law0_r46 := goodIn_p wsL_law0_r46 [1184, 708, 713, 1508] (by decide +kernel) (by decide +kernel)
set_option maxRecDepth 20000 in
theorem wsL_seg47 : GoodIn zs_tbl wsL_law0_r47 := goodIn_p wsL_law0_r47 [1191, 653, 1512, 1198, 1516, 251] (by decide +kernel) (by decide +kernel)
set_option maxRecDepth 20000 in
theorem wsL_seg48 : GoodIn zs_tbl wsL_law0_r48 := goodIn_p wsL_law0_r48 [1520, 1205, 1524, 1212] (by decide +kernel) (by decide +kernel)
set_option maxRecDepth 20000 in
theorem wsL_seg49 : GoodIn zs_tbl wsL_law0_r49 := goodIn_p wsL_law0_r49 [745, 1528, 603, 1532, 607, 611] (by decide +kernel) (by decide +kernel)
set_option maxRecDepth 20000 in
theorem wsL_seg50 : GoodIn zs_tbl wsL_law0_r50 := goodIn_p wsL_law0_r50 [615, 658, 697, 700, 704, 717] (by decide +kernel) (by decide +kernel)
set_option maxRecDepth 20000 in
theorem wsL_seg51 : GoodIn zs_tbl wsL_law0_r51 := goodIn_p wsL_law0_r51 [1536, 1540, 723, 728, 731, 735] (by decide +kernel) (by decide +kernel)
set_option maxRecDepth 20000 in
theorem wsL_seg52 : GoodIn zs_tbl wsL_law0_r52 := goodIn_p wsL_law0_r52 [1544, 1548] (by decide +kernel) (by decide +kernel)
