set_option maxRecDepth 20000 in
theorem wsL_seg36 : GoodIn zs_tbl wsL_law0_r36 := goodIn_p wsL_law0_r36 [1433, 1098, 1437, 1105, 1441] (by decide +kernel) (by decide +kernel)
set_option maxRecDepth 20000 in
theorem wsL_seg37 : GoodIn zs_tbl wsL_law0_r37 := goodIn_p wsL_law0_r37 [1444, 1112, 1448, 1120] (by decide +kernel) (by decide +kernel)
set_option maxRecDepth 20000 in
theorem wsL_seg38 : GoodIn zs_tbl wsL_law0_r38 := goodIn_p wsL_law0_r38 [1452, 1127, 619, 254, 1456] (by decide +kernel) (by decide +kernel)
set_option maxRecDepth 20000 in
theorem wsL_seg39 : GoodIn zs_tbl wsL_law0_r39 := goodIn_p wsL_law0_r39 [1134, 1460, 1141, 668] (by decide +kernel) (by decide +kernel)
set_option maxRecDepth 20000 in
theorem wsL_seg40 : GoodIn zs_tbl wsL_law0_r40 := goodIn_p wsL_law0_r40 [672, 678, 682, 687, 693] (by decide +kernel) (by decide +kernel)
set_option maxRecDepth 20000 in
theorem wsL_seg41 : GoodIn zs_tbl wsL_law0_r41 := goodIn_p wsL_law0_r41 [1464, 1467, 1470, 1148, 1474, 1477] (by decide +kernel) (by decide +kernel)
set_option maxRecDepth 20000 in
theorem wsL_seg42 : GoodIn zs_tbl wsL_law0_r42 := goodIn_p wsL_law0_r42 [1155, 1482, 1485, 1162, 1489] (by decide +kernel) (by decide +kernel)
set_option maxRecDepth 20000 in
theorem wsL_seg43 : GoodIn zs_tbl wsL_law0_r43 := goodIn_p wsL_law0_r43 [1169, 739, 1493, 1496, 1499] (by decide +kernel) (by decide +kernel)
set_option maxRecDepth 20000 in
theorem wsL_seg44 : GoodIn zs_tbl wsL_law0_r44 := goodIn_p wsL_law0_r44 [1176, 480, 483, 486, 489] (by decide +kernel) (by decide +kernel)
