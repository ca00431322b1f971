set_option maxRecDepth 20000 in
theorem wsL_seg18 : GoodIn zs_tbl wsL_law0_r18 := goodIn_p wsL_law0_r18 [365, 368, 371, 376, 379, 388] (by decide +kernel) (by decide +kernel)
set_option maxRecDepth 20000 in
theorem wsL_seg19 : GoodIn zs_tbl wsL_law0_r19 := goodIn_p wsL_law0_r19 [391, 394, 397, 401, 406, 409] (by decide +kernel) (by decide +kernel)
set_option maxRecDepth 20000 in
theorem wsL_seg20 : GoodIn zs_tbl wsL_law0_r20 := goodIn_p wsL_law0_r20 [415, 421, 423, 427, 430] (by decide +kernel) (by decide +kernel)
set_option maxRecDepth 20000 in
theorem wsL_seg21 : GoodIn zs_tbl wsL_law0_r21 := goodIn_p wsL_law0_r21 [433, 578, 581, 584, 588, 888, 1332] (by decide +kernel) (by decide +kernel)
set_option maxRecDepth 20000 in
theorem wsL_seg22 : GoodIn zs_tbl wsL_law0_r22 := goodIn_p wsL_law0_r22 [1337, 1340, 895, 898, 1348] (by decide +kernel) (by decide +kernel)
set_option maxRecDepth 20000 in
theorem wsL_seg23 : GoodIn zs_tbl wsL_law0_r23 := goodIn_p wsL_law0_r23 [906, 910, 1352, 917] (by decide +kernel) (by decide +kernel)
set_option maxRecDepth 20000 in
theorem wsL_seg24 : GoodIn zs_tbl wsL_law0_r24 := goodIn_p wsL_law0_r24 [921, 1356, 928, 1360, 1363] (by decide +kernel) (by decide +kernel)
set_option maxRecDepth 20000 in
theorem wsL_seg25 : GoodIn zs_tbl wsL_law0_r25 := goodIn_p wsL_law0_r25 [936, 1367, 943, 947, 1371] (by decide +kernel) (by decide +kernel)
set_option maxRecDepth 20000 in
theorem wsL_seg26 : GoodIn zs_tbl wsL_law0_r26 := goodIn_p wsL_law0_r26 [954, 1375, 961, 965] (by decide +kernel) (by decide +kernel)
set_option maxRecDepth 20000 in
theorem wsL_seg27 : GoodIn zs_tbl wsL_law0_r27 := goodIn_p wsL_law0_r27 [662, 623, 627, 243, 235] (by decide +kernel) (by decide +kernel)
set_option maxRecDepth 20000 in
theorem wsL_seg28 : GoodIn zs_tbl wsL_law0_r28 := goodIn_p wsL_law0_r28 [633, 1379, 1382, 1386, 1389] (by decide +kernel) (by decide +kernel)
set_option maxRecDepth 20000 in
theorem wsL_seg29 : GoodIn zs_tbl wsL_law0_r29 := goodIn_p wsL_law0_r29 [973, 1393, 981, 984, 1397] (by decide +kernel) (by decide +kernel)
set_option maxRecDepth 20000 in
theorem wsL_seg30 : GoodIn zs_tbl wsL_law0_r30 := goodIn_p wsL_law0_r30 [227, 231, 239, 1401] (by decide +kernel) (by decide +kernel)
set_option maxRecDepth 20000 in
theorem wsL_seg31 : GoodIn zs_tbl wsL_law0_r31 := goodIn_p wsL_law0_r31 [1007, 1010, 1405, 1019, 1023] (by decide +kernel) (by decide +kernel)
set_option maxRecDepth 20000 in
theorem wsL_seg32 : GoodIn zs_tbl wsL_law0_r32 := goodIn_p wsL_law0_r32 [1409, 1031, 1035, 1039, 1413] (by decide +kernel) (by decide +kernel)
set_option maxRecDepth 20000 in
theorem wsL_seg33 : GoodIn zs_tbl wsL_law0_r33 := goodIn_p wsL_law0_r33 [1047, 1051, 1055, 1059, 1417] (by decide +kernel) (by decide +kernel)
set_option maxRecDepth 20000 in
theorem wsL_seg34 : GoodIn zs_tbl wsL_law0_r34 := goodIn_p wsL_law0_r34 [1066, 1070, 1421, 1077] (by decide +kernel) (by decide +kernel)
set_option maxRecDepth 20000 in
theorem wsL_seg35 : GoodIn zs_tbl wsL_law0_r35 := goodIn_p wsL_law0_r35 [1425, 1084, 1429, 1091] (by decide +kernel) (by decide +kernel)
