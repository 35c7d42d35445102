set_option maxRecDepth 20000 in
theorem giL_wsL_law_r27 : GoodIn lw_tbl wsL_law_r27 := goodIn_p wsL_law_r27 [1102, 1107, 586, 590, 1111, 594] (by decide +kernel) (by decide +kernel)
set_option maxRecDepth 20000 in
theorem giL_wsL_law_r28 : GoodIn lw_tbl wsL_law_r28 := goodIn_p wsL_law_r28 [598, 1115, 1119, 602, 606, 610] (by decide +kernel) (by decide +kernel)
set_option maxRecDepth 20000 in
theorem giL_wsL_law_r29 : GoodIn lw_tbl wsL_law_r29 := goodIn_p wsL_law_r29 [616, 1123, 1128, 1132, 620] (by decide +kernel) (by decide +kernel)
set_option maxRecDepth 20000 in
theorem giL_wsL_law_r30 : GoodIn lw_tbl wsL_law_r30 := goodIn_p wsL_law_r30 [624, 1136, 628, 1140, 632, 636] (by decide +kernel) (by decide +kernel)
set_option maxRecDepth 20000 in
theorem giL_wsL_law_r31 : GoodIn lw_tbl wsL_law_r31 := goodIn_p wsL_law_r31 [1144, 1148, 1152, 641, 645] (by decide +kernel) (by decide +kernel)
set_option maxRecDepth 20000 in
theorem giL_wsL_law_r32 : GoodIn lw_tbl wsL_law_r32 := goodIn_p wsL_law_r32 [649, 653, 1156, 1159, 1163, 1167, 1171] (by decide +kernel) (by decide +kernel)
set_option maxRecDepth 20000 in
theorem giL_wsL_law_r33 : GoodIn lw_tbl wsL_law_r33 := goodIn_p wsL_law_r33 [1176, 657, 661, 1180, 1184] (by decide +kernel) (by decide +kernel)
set_option maxRecDepth 20000 in
theorem giL_wsL_law_r34 : GoodIn lw_tbl wsL_law_r34 := goodIn_p wsL_law_r34 [1188, 666, 671, 674, 677, 1192] (by decide +kernel) (by decide +kernel)
set_option maxRecDepth 20000 in
theorem giL_wsL_law_r35 : GoodIn lw_tbl wsL_law_r35 := goodIn_p wsL_law_r35 [1197, 1200, 1203, 681, 685, 688, 692] (by decide +kernel) (by decide +kernel)
set_option maxRecDepth 20000 in
theorem giL_wsL_law_r36 : GoodIn lw_tbl wsL_law_r36 := goodIn_p wsL_law_r36 [1208, 1212, 1216, 696, 700] (by decide +kernel) (by decide +kernel)
set_option maxRecDepth 20000 in
theorem giL_wsL_law_r37 : GoodIn lw_tbl wsL_law_r37 := goodIn_p wsL_law_r37 [880, 705, 896, 709, 713, 717] (by decide +kernel) (by decide +kernel)
set_option maxRecDepth 20000 in
theorem giL_wsL_law_r38 : GoodIn lw_tbl wsL_law_r38 := goodIn_p wsL_law_r38 [900, 904, 907, 721, 911, 725] (by decide +kernel) (by decide +kernel)
set_option maxRecDepth 20000 in
theorem giL_wsL_law_r39 : GoodIn lw_tbl wsL_law_r39 := goodIn_p wsL_law_r39 [729, 916, 736, 1221, 741] (by decide +kernel) (by decide +kernel)
set_option maxRecDepth 20000 in
theorem giL_wsL_law_r40 : GoodIn lw_tbl wsL_law_r40 := goodIn_p wsL_law_r40 [745, 1225, 1229, 749] (by decide +kernel) (by decide +kernel)
set_option maxRecDepth 20000 in
theorem giL_wsL_law_r41 : GoodIn lw_tbl wsL_law_r41 := goodIn_p wsL_law_r41 [759, 768, 772] (by decide +kernel) (by decide +kernel)
set_option maxRecDepth 20000 in
theorem giL_wsL_law_r42 : GoodIn lw_tbl wsL_law_r42 := goodIn_p wsL_law_r42 [1233, 1240, 1244] (by decide +kernel) (by decide +kernel)
set_option maxRecDepth 20000 in
theorem giL_wsX70 : GoodIn lw_tbl wsX70 := goodIn_p wsX70 [] (by decide +kernel) (by decide +kernel)
set_option maxRecDepth 20000 in
theorem giL_wsX80 : GoodIn lw_tbl wsX80 := goodIn_p wsX80 [] (by decide +kernel) (by decide +kernel)
set_option maxRecDepth 20000 in
theorem giL_wsX60 : GoodIn lw_tbl wsX60 := goodIn_p wsX60 [] (by decide +kernel) (by decide +kernel)
set_option maxRecDepth 20000 in
theorem giL_wsX50 : GoodIn lw_tbl wsX50 := goodIn_p wsX50 [] (by decide +kernel) (by decide +kernel)
set_option maxRecDepth 20000 in
theorem giL_wsX20 : GoodIn lw_tbl wsX20 := goodIn_p wsX20 [] (by decide +kernel) (by decide +kernel)
set_option maxRecDepth 20000 in
theorem giL_wsX30 : GoodIn lw_tbl wsX30 := goodIn_p wsX30 [] (by decide +kernel) (by decide +kernel)
set_option maxRecDepth 20000 in
theorem giL_wsX10 : GoodIn lw_tbl wsX10 := goodIn_p wsX10 [] (by decide +kernel) (by decide +kernel)
set_option maxRecDepth 20000 in
theorem giL_wsX00 : GoodIn lw_tbl wsX00 := goodIn_p wsX00 [] (by decide +kernel) (by decide +kernel)
set_option maxRecDepth 20000 in
theorem giL_wsX40 : GoodIn lw_tbl wsX40 := goodIn_p wsX40 [] (by decide +kernel) (by decide +kernel)
theorem wsL_good : GoodIn lw_tbl wsL_law := (goodIn_app (goodIn_app (goodIn_app (goodIn_app (goodIn_app (goodIn_app (goodIn_app (goodIn_app (goodIn_app (goodIn_app (goodIn_app giL_wsL_law_r1 (goodIn_app giL_wsL_law_r2 (goodIn_app giL_wsL_law_r3 (goodIn_app giL_wsL_law_r4 (goodIn_app giL_wsL_law_r5 (goodIn_app giL_wsL_law_r6 (goodIn_app giL_wsL_law_r7 (goodIn_app giL_wsL_law_r8 (goodIn_app giL_wsL_law_r9 (goodIn_app giL_wsL_law_r10 (goodIn_app giL_wsL_law_r11 (goodIn_app giL_wsL_law_r12 (goodIn_app giL_wsL_law_r13 (goodIn_app giL_wsL_law_r14 (goodIn_app giL_wsL_law_r15 (goodIn_app giL_wsL_law_r16 (goodIn_app giL_wsL_law_r17 (goodIn_app giL_wsL_law_r18 (goodIn_app giL_wsL_law_r19 (goodIn_app giL_wsL_law_r20 (goodIn_app giL_wsL_law_r21 (goodIn_app giL_wsL_law_r22 (goodIn_app giL_wsL_law_r23 (goodIn_app giL_wsL_law_r24 (goodIn_app giL_wsL_law_r25 (goodIn_app giL_wsL_law_r26 (goodIn_app giL_wsL_law_r27 (goodIn_app giL_wsL_law_r28 (goodIn_app giL_wsL_law_r29 (goodIn_app giL_wsL_law_r30 (goodIn_app giL_wsL_law_r31 (goodIn_app giL_wsL_law_r32 (goodIn_app giL_wsL_law_r33 (goodIn_app giL_wsL_law_r34 (goodIn_app giL_wsL_law_r35 (goodIn_app giL_wsL_law_r36 (goodIn_app giL_wsL_law_r37 (goodIn_app giL_wsL_law_r38 (goodIn_app giL_wsL_law_r39 (goodIn_app giL_wsL_law_r40 (goodIn_app giL_wsL_law_r41 giL_wsL_law_r42))))))))))))))))))))))))))))))))))))))))) giL_wsX70) giL_wsX80) giL_wsX60) giL_wsX50) giL_wsX20) giL_wsX30) giL_wsX10) giL_wsX00) giL_wsX40) (fun _ h => absurd h List.not_mem_nil))
theorem wsL_law_in : ∀ w ∈ wsL_law, w ∈ lw_tbl := fun w h => (wsL_good w h).1
