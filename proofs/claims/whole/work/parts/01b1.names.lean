set_option maxRecDepth 20000 in
theorem giL_wsL_law_r1 : GoodIn lw_tbl wsL_law_r1 := goodIn_p wsL_law_r1 [90, 93] (by decide +kernel) (by decide +kernel)
set_option maxRecDepth 20000 in
theorem giL_wsL_law_r2 : GoodIn lw_tbl wsL_law_r2 := goodIn_p wsL_law_r2 [] (by decide +kernel) (by decide +kernel)
set_option maxRecDepth 20000 in
theorem giL_wsL_law_r3 : GoodIn lw_tbl wsL_law_r3 := goodIn_p wsL_law_r3 [98, 116, 143, 167] (by decide +kernel) (by decide +kernel)
set_option maxRecDepth 20000 in
theorem giL_wsL_law_r4 : GoodIn lw_tbl wsL_law_r4 := goodIn_p wsL_law_r4 [187, 234, 251] (by decide +kernel) (by decide +kernel)
set_option maxRecDepth 20000 in
theorem giL_wsL_law_r5 : GoodIn lw_tbl wsL_law_r5 := goodIn_p wsL_law_r5 [786] (by decide +kernel) (by decide +kernel)
set_option maxRecDepth 20000 in
theorem giL_wsL_law_r6 : GoodIn lw_tbl wsL_law_r6 := goodIn_p wsL_law_r6 [319, 322, 326, 330] (by decide +kernel) (by decide +kernel)
set_option maxRecDepth 20000 in
theorem giL_wsL_law_r7 : GoodIn lw_tbl wsL_law_r7 := goodIn_p wsL_law_r7 [334, 337, 340, 345, 920] (by decide +kernel) (by decide +kernel)
set_option maxRecDepth 20000 in
theorem giL_wsL_law_r8 : GoodIn lw_tbl wsL_law_r8 := goodIn_p wsL_law_r8 [887, 349, 925, 353, 929, 357] (by decide +kernel) (by decide +kernel)
set_option maxRecDepth 20000 in
theorem giL_wsL_law_r9 : GoodIn lw_tbl wsL_law_r9 := goodIn_p wsL_law_r9 [933, 937, 940, 362, 366] (by decide +kernel) (by decide +kernel)
set_option maxRecDepth 20000 in
theorem giL_wsL_law_r10 : GoodIn lw_tbl wsL_law_r10 := goodIn_p wsL_law_r10 [946, 950, 370, 954, 374] (by decide +kernel) (by decide +kernel)
set_option maxRecDepth 20000 in
theorem giL_wsL_law_r11 : GoodIn lw_tbl wsL_law_r11 := goodIn_p wsL_law_r11 [377, 381, 385, 959, 962, 389] (by decide +kernel) (by decide +kernel)
set_option maxRecDepth 20000 in
theorem giL_wsL_law_r12 : GoodIn lw_tbl wsL_law_r12 := goodIn_p wsL_law_r12 [968, 393, 397, 972, 883] (by decide +kernel) (by decide +kernel)
set_option maxRecDepth 20000 in
theorem giL_wsL_law_r13 : GoodIn lw_tbl wsL_law_r13 := goodIn_p wsL_law_r13 [892, 402, 408, 412, 416] (by decide +kernel) (by decide +kernel)
set_option maxRecDepth 20000 in
theorem giL_wsL_law_r14 : GoodIn lw_tbl wsL_law_r14 := goodIn_p wsL_law_r14 [420, 424, 427, 431] (by decide +kernel) (by decide +kernel)
set_option maxRecDepth 20000 in
theorem giL_wsL_law_r15 : GoodIn lw_tbl wsL_law_r15 := goodIn_p wsL_law_r15 [435, 439, 443, 446, 450, 454] (by decide +kernel) (by decide +kernel)
set_option maxRecDepth 20000 in
theorem giL_wsL_law_r16 : GoodIn lw_tbl wsL_law_r16 := goodIn_p wsL_law_r16 [458, 462, 466, 470, 474, 478] (by decide +kernel) (by decide +kernel)
set_option maxRecDepth 20000 in
theorem giL_wsL_law_r17 : GoodIn lw_tbl wsL_law_r17 := goodIn_p wsL_law_r17 [483, 487, 977, 981, 985, 989] (by decide +kernel) (by decide +kernel)
set_option maxRecDepth 20000 in
theorem giL_wsL_law_r18 : GoodIn lw_tbl wsL_law_r18 := goodIn_p wsL_law_r18 [993, 996, 1000, 1003, 1007, 1011] (by decide +kernel) (by decide +kernel)
set_option maxRecDepth 20000 in
theorem giL_wsL_law_r19 : GoodIn lw_tbl wsL_law_r19 := goodIn_p wsL_law_r19 [1015, 1018, 1022, 1026, 1029, 491] (by decide +kernel) (by decide +kernel)
set_option maxRecDepth 20000 in
theorem giL_wsL_law_r20 : GoodIn lw_tbl wsL_law_r20 := goodIn_p wsL_law_r20 [495, 1033, 1038, 499, 503, 1042] (by decide +kernel) (by decide +kernel)
set_option maxRecDepth 20000 in
theorem giL_wsL_law_r21 : GoodIn lw_tbl wsL_law_r21 := goodIn_p wsL_law_r21 [1046, 508, 512, 1050, 1054] (by decide +kernel) (by decide +kernel)
set_option maxRecDepth 20000 in
theorem giL_wsL_law_r22 : GoodIn lw_tbl wsL_law_r22 := goodIn_p wsL_law_r22 [516, 520, 524, 527, 534] (by decide +kernel) (by decide +kernel)
set_option maxRecDepth 20000 in
theorem giL_wsL_law_r23 : GoodIn lw_tbl wsL_law_r23 := goodIn_p wsL_law_r23 [538, 542, 1058, 1062, 1066, 1070] (by decide +kernel) (by decide +kernel)
set_option maxRecDepth 20000 in
theorem giL_wsL_law_r24 : GoodIn lw_tbl wsL_law_r24 := goodIn_p wsL_law_r24 [1074, 1078, 546, 550, 1082, 1086] (by decide +kernel) (by decide +kernel)
set_option maxRecDepth 20000 in
theorem giL_wsL_law_r25 : GoodIn lw_tbl wsL_law_r25 := goodIn_p wsL_law_r25 [554, 558, 1090, 1094, 562, 566] (by decide +kernel) (by decide +kernel)
set_option maxRecDepth 20000 in
theorem giL_wsL_law_r26 : GoodIn lw_tbl wsL_law_r26 := goodIn_p wsL_law_r26 [570, 574, 578, 582, 1098] (by decide +kernel) (by decide +kernel)
