set_option maxRecDepth 20000 in
theorem giL_wsL_law_r1 : GoodIn lw_tbl wsL_law_r1 := goodIn_p wsL_law_r1 [91, 94] (by decide +kernel) (by decide +kernel)
set_option maxRecDepth 20000 in
theorem giL_wsL_law_r2 : GoodIn lw_tbl wsL_law_r2 := goodIn_p wsL_law_r2 [] (by decide +kernel) (by decide +kernel)
set_option maxRecDepth 20000 in
theorem giL_wsL_law_r3 : GoodIn lw_tbl wsL_law_r3 := goodIn_p wsL_law_r3 [99, 117, 144, 168] (by decide +kernel) (by decide +kernel)
set_option maxRecDepth 20000 in
theorem giL_wsL_law_r4 : GoodIn lw_tbl wsL_law_r4 := goodIn_p wsL_law_r4 [188, 235, 252] (by decide +kernel) (by decide +kernel)
set_option maxRecDepth 20000 in
theorem giL_wsL_law_r5 : GoodIn lw_tbl wsL_law_r5 := goodIn_p wsL_law_r5 [789] (by decide +kernel) (by decide +kernel)
set_option maxRecDepth 20000 in
theorem giL_wsL_law_r6 : GoodIn lw_tbl wsL_law_r6 := goodIn_p wsL_law_r6 [320, 323, 327, 331] (by decide +kernel) (by decide +kernel)
set_option maxRecDepth 20000 in
theorem giL_wsL_law_r7 : GoodIn lw_tbl wsL_law_r7 := goodIn_p wsL_law_r7 [335, 338, 341, 346, 923] (by decide +kernel) (by decide +kernel)
set_option maxRecDepth 20000 in
theorem giL_wsL_law_r8 : GoodIn lw_tbl wsL_law_r8 := goodIn_p wsL_law_r8 [890, 350, 928, 354, 932, 358] (by decide +kernel) (by decide +kernel)
set_option maxRecDepth 20000 in
theorem giL_wsL_law_r9 : GoodIn lw_tbl wsL_law_r9 := goodIn_p wsL_law_r9 [936, 940, 943, 363, 367] (by decide +kernel) (by decide +kernel)
set_option maxRecDepth 20000 in
theorem giL_wsL_law_r10 : GoodIn lw_tbl wsL_law_r10 := goodIn_p wsL_law_r10 [949, 953, 371, 957, 375] (by decide +kernel) (by decide +kernel)
set_option maxRecDepth 20000 in
theorem giL_wsL_law_r11 : GoodIn lw_tbl wsL_law_r11 := goodIn_p wsL_law_r11 [378, 382, 386, 962, 965, 390] (by decide +kernel) (by decide +kernel)
set_option maxRecDepth 20000 in
theorem giL_wsL_law_r12 : GoodIn lw_tbl wsL_law_r12 := goodIn_p wsL_law_r12 [971, 394, 398, 975, 886] (by decide +kernel) (by decide +kernel)
set_option maxRecDepth 20000 in
theorem giL_wsL_law_r13 : GoodIn lw_tbl wsL_law_r13 := goodIn_p wsL_law_r13 [895, 403, 409, 413, 417] (by decide +kernel) (by decide +kernel)
set_option maxRecDepth 20000 in
theorem giL_wsL_law_r14 : GoodIn lw_tbl wsL_law_r14 := goodIn_p wsL_law_r14 [421, 425, 428, 432] (by decide +kernel) (by decide +kernel)
set_option maxRecDepth 20000 in
theorem giL_wsL_law_r15 : GoodIn lw_tbl wsL_law_r15 := goodIn_p wsL_law_r15 [436, 440, 444, 447, 451, 455] (by decide +kernel) (by decide +kernel)
set_option maxRecDepth 20000 in
theorem giL_wsL_law_r16 : GoodIn lw_tbl wsL_law_r16 := goodIn_p wsL_law_r16 [459, 463, 467, 471, 475, 479] (by decide +kernel) (by decide +kernel)
set_option maxRecDepth 20000 in
theorem giL_wsL_law_r17 : GoodIn lw_tbl wsL_law_r17 := goodIn_p wsL_law_r17 [484, 488, 980, 984, 988, 992] (by decide +kernel) (by decide +kernel)
set_option maxRecDepth 20000 in
theorem giL_wsL_law_r18 : GoodIn lw_tbl wsL_law_r18 := goodIn_p wsL_law_r18 [996, 999, 1003, 1006, 1010, 1014] (by decide +kernel) (by decide +kernel)
set_option maxRecDepth 20000 in
theorem giL_wsL_law_r19 : GoodIn lw_tbl wsL_law_r19 := goodIn_p wsL_law_r19 [1018, 1021, 1025, 1029, 1032, 492] (by decide +kernel) (by decide +kernel)
set_option maxRecDepth 20000 in
theorem giL_wsL_law_r20 : GoodIn lw_tbl wsL_law_r20 := goodIn_p wsL_law_r20 [496, 1036, 1041, 500, 504, 1045] (by decide +kernel) (by decide +kernel)
set_option maxRecDepth 20000 in
theorem giL_wsL_law_r21 : GoodIn lw_tbl wsL_law_r21 := goodIn_p wsL_law_r21 [1049, 509, 513, 1053, 1057] (by decide +kernel) (by decide +kernel)
set_option maxRecDepth 20000 in
theorem giL_wsL_law_r22 : GoodIn lw_tbl wsL_law_r22 := goodIn_p wsL_law_r22 [517, 521, 525, 528, 535] (by decide +kernel) (by decide +kernel)
set_option maxRecDepth 20000 in
theorem giL_wsL_law_r23 : GoodIn lw_tbl wsL_law_r23 := goodIn_p wsL_law_r23 [539, 543, 1061, 1065, 1069, 1073] (by decide +kernel) (by decide +kernel)
set_option maxRecDepth 20000 in
theorem giL_wsL_law_r24 : GoodIn lw_tbl wsL_law_r24 := goodIn_p wsL_law_r24 [1077, 1081, 547, 551, 1085, 1089] (by decide +kernel) (by decide +kernel)
set_option maxRecDepth 20000 in
theorem giL_wsL_law_r25 : GoodIn lw_tbl wsL_law_r25 := goodIn_p wsL_law_r25 [555, 559, 1093, 1097, 563, 567] (by decide +kernel) (by decide +kernel)
set_option maxRecDepth 20000 in
theorem giL_wsL_law_r26 : GoodIn lw_tbl wsL_law_r26 := goodIn_p wsL_law_r26 [571, 575, 579, 583, 1101] (by decide +kernel) (by decide +kernel)
