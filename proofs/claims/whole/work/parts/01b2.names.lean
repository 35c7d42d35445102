set_option maxRecDepth 20000 in
theorem giL_wsL_law_r18 : GoodIn lw_tbl wsL_law_r18 := goodIn_p wsL_law_r18 [996, 999, 1003, 1006, 1010, 1014] (by decide +kernel) (by decide +kernel)
set_option maxRecDepth 20000 in
theorem giL_wsL_law_r19 : GoodIn lw_tbl wsL_law_r19 := goodIn_p wsL_law_r19 [1018, 1021, 1025, 1029, 1032, 492] (by decide +kernel) (by decide +kernel)
set_option maxRecDepth 20000 in
theorem giL_wsL_law_r20 : GoodIn lw_tbl wsL_law_r20 := goodIn_p wsL_law_r20 [496, 1036, 1041, 500, 504, 1045] (by decide +kernel) (by decide +kernel)
set_option maxRecDepth 20000 in
theorem giL_wsL_law_r21 : GoodIn lw_tbl wsL_law_r21 := goodIn_p wsL_law_r21 [1049, 509, 513, 1053, 1057] (by decide +kernel) (by decide +kernel)
set_option maxRecDepth 20000 in
theorem giL_wsL_law_r22 : GoodIn lw_tbl wsL_law_r22 := goodIn_p wsL_law_r22 [517, 521, 525, 528, 535] (by decide +kernel) (by decide +kernel)
set_option maxRecDepth 20000 in
theorem giL_wsL_law_r23 : GoodIn lw_tbl wsL_law_r23 := goodIn_p wsL_law_r23 [539, 543, 1061, 1065, 1069, 1073] (by decide +kernel) (by decide +kernel)
set_option maxRecDepth 20000 in
theorem giL_wsL_law_r24 : GoodIn lw_tbl wsL_law_r24 := goodIn_p wsL_law_r24 [1077, 1081, 547, 551, 1085, 1089] (by decide +kernel) (by decide +kernel)
set_option maxRecDepth 20000 in
theorem giL_wsL_law_r25 : GoodIn lw_tbl wsL_law_r25 := goodIn_p wsL_law_r25 [555, 559, 1093, 1097, 563, 567] (by decide +kernel) (by decide +kernel)
set_option maxRecDepth 20000 in
theorem giL_wsL_law_r26 : GoodIn lw_tbl wsL_law_r26 := goodIn_p wsL_law_r26 [571, 575, 579, 583, 1101] (by decide +kernel) (by decide +kernel)
set_option maxRecDepth 20000 in
theorem giL_wsL_law_r27 : GoodIn lw_tbl wsL_law_r27 := goodIn_p wsL_law_r27 [1105, 1110, 587, 591, 1114, 595] (by decide +kernel) (by decide +kernel)
set_option maxRecDepth 20000 in
theorem giL_wsL_law_r28 : GoodIn lw_tbl wsL_law_r28 := goodIn_p wsL_law_r28 [599, 1118, 1122, 603, 607, 611] (by decide +kernel) (by decide +kernel)
set_option maxRecDepth 20000 in
theorem giL_wsL_law_r29 : GoodIn lw_tbl wsL_law_r29 := goodIn_p wsL_law_r29 [617, 1126, 1131, 1135, 621] (by decide +kernel) (by decide +kernel)
set_option maxRecDepth 20000 in
theorem giL_wsL_law_r30 : GoodIn lw_tbl wsL_law_r30 := goodIn_p wsL_law_r30 [625, 1139, 629, 1143, 633, 637] (by decide +kernel) (by decide +kernel)
set_option maxRecDepth 20000 in
theorem giL_wsL_law_r31 : GoodIn lw_tbl wsL_law_r31 := goodIn_p wsL_law_r31 [1147, 1151, 1155, 642, 646] (by decide +kernel) (by decide +kernel)
set_option maxRecDepth 20000 in
theorem giL_wsL_law_r32 : GoodIn lw_tbl wsL_law_r32 := goodIn_p wsL_law_r32 [650, 654, 1159, 1162, 1166, 1170, 1174] (by decide +kernel) (by decide +kernel)
set_option maxRecDepth 20000 in
theorem giL_wsL_law_r33 : GoodIn lw_tbl wsL_law_r33 := goodIn_p wsL_law_r33 [1179, 658, 662, 1183, 1187] (by decide +kernel) (by decide +kernel)
set_option maxRecDepth 20000 in
theorem giL_wsL_law_r34 : GoodIn lw_tbl wsL_law_r34 := goodIn_p wsL_law_r34 [1191, 667, 672, 675, 678, 1195] (by decide +kernel) (by decide +kernel)
