theorem dX7_copy_106 : decode cX7_copy 106 = .ok (.ireturn, 1) := by decide +kernel
theorem dX7_copy_107 : decode cX7_copy 107 = .ok (.aload 6, 2) := by decide +kernel
theorem dX7_copy_109 : decode cX7_copy 109 = .ok (.getfield 133, 3) := by decide +kernel
theorem dX7_copy_112 : decode cX7_copy 112 = .ok (.iload_n 2, 1) := by decide +kernel
theorem dX7_copy_113 : decode cX7_copy 113 = .ok (.aload 7, 2) := by decide +kernel
theorem dX7_copy_115 : decode cX7_copy 115 = .ok (.getfield 133, 3) := by decide +kernel
theorem dX7_copy_118 : decode cX7_copy 118 = .ok (.iload 4, 2) := by decide +kernel
theorem dX7_copy_120 : decode cX7_copy 120 = .ok (.iload 5, 2) := by decide +kernel
theorem dX7_copy_122 : decode cX7_copy 122 = .ok (.invokestatic 274, 3) := by decide +kernel
theorem dX7_copy_125 : decode cX7_copy 125 = .ok (.iconst 1, 1) := by decide +kernel
theorem dX7_copy_126 : decode cX7_copy 126 = .ok (.ireturn, 1) := by decide +kernel
set_option maxRecDepth 20000 in
theorem ggX7_write_X7_isTenant : GoodIn wsX7_write wsX7_isTenant := goodIn_r _ [12, 13, 14, 120, 121, 122, 123, 124, 125, 126, 127, 128, 129, 130, 131, 132, 133, 134, 139, 140, 141, 142] (by decide +kernel) (by decide +kernel)
set_option maxRecDepth 20000 in
theorem gX7_write_X7_isTenant : GoodIn wsX7_write (wsV RX7 102 RX7 yX7_isTenant wsX7_isTenant) := goodIn_app (goodIn_of _ (by decide +kernel)) ggX7_write_X7_isTenant
set_option maxRecDepth 20000 in
theorem ggX7_write_X7_within : GoodIn wsX7_write wsX7_within := goodIn_r _ [17] (by decide +kernel) (by decide +kernel)
set_option maxRecDepth 20000 in
theorem gX7_write_X7_within : GoodIn wsX7_write (va_wsS RX7 85 yX7_within wsX7_within) := goodIn_app (goodIn_of _ (by decide +kernel)) ggX7_write_X7_within
set_option maxRecDepth 20000 in
theorem ggX7_write_X7_found : GoodIn wsX7_write wsX7_found := goodIn_r _ [21, 22, 120, 121, 122, 123, 124, 125, 126, 127, 128, 129, 130, 131, 132, 133, 134] (by decide +kernel) (by decide +kernel)
set_option maxRecDepth 20000 in
theorem gX7_write_X7_found : GoodIn wsX7_write (wsV RX7 129 RX7 yX7_found wsX7_found) := goodIn_app (goodIn_of _ (by decide +kernel)) ggX7_write_X7_found
set_option maxRecDepth 20000 in
theorem ggX7_write_X7_courseTold : GoodIn wsX7_write wsX7_courseTold := goodIn_r _ [26, 27, 28, 13, 29, 30, 31, 32, 33, 34, 35, 36, 37, 38, 39, 40, 41, 42, 43, 44, 45, 46, 47, 48, 49, 50, 51, 52, 53, 54, 55, 56, 57, 58, 59, 60, 61, 62, 63, 64, 5, 6, 7, 65, 66, 67, 68, 69, 70, 71, 72, 73, 74, 75, 76, 77, 78, 79, 80, 81, 82, 83, 84, 85, 86, 87, 88, 89, 90, 91, 92, 93, 94, 95, 96, 97, 98, 99, 100, 101, 102, 103, 104, 105, 106, 107, 108, 120, 121, 122, 123, 124, 125, 126, 127, 128, 129, 130, 131, 132, 133, 134, 143, 144, 145, 146, 147, 148, 149, 150, 151, 152, 153, 154, 139, 140, 141, 142, 155, 156, 157, 158] (by decide +kernel) (by decide +kernel)
set_option maxRecDepth 20000 in
theorem gX7_write_X7_courseTold : GoodIn wsX7_write (wsV RX7 145 RX7 yX7_courseTold wsX7_courseTold) := goodIn_app (goodIn_of _ (by decide +kernel)) ggX7_write_X7_courseTold
set_option maxRecDepth 20000 in
theorem ggX7_write_X1_floorAt : GoodIn wsX7_write wsX1_floorAt := goodIn_r _ [112, 107, 143, 144, 145, 146, 147, 148, 149, 150, 151, 152, 153, 154] (by decide +kernel) (by decide +kernel)
set_option maxRecDepth 20000 in
theorem gX7_write_X1_floorAt : GoodIn wsX7_write (wsV RX7 149 RX1 yX1_floorAt wsX1_floorAt) := goodIn_app (goodIn_of _ (by decide +kernel)) ggX7_write_X1_floorAt
set_option maxRecDepth 20000 in
theorem ggX7_write_X4_put : GoodIn wsX7_write wsX4_put := goodIn_r _ [117, 118, 119, 135, 136, 137, 138] (by decide +kernel) (by decide +kernel)
set_option maxRecDepth 20000 in
theorem gX7_write_X4_put : GoodIn wsX7_write (wsV RX7 265 RX4 yX4_put wsX4_put) := goodIn_app (goodIn_of _ (by decide +kernel)) ggX7_write_X4_put
theorem dX7_write_0 : decode cX7_write 0 = .ok (.aload_n 0, 1) := by decide +kernel
theorem dX7_write_1 : decode cX7_write 1 = .ok (.iload_n 1, 1) := by decide +kernel
theorem dX7_write_2 : decode cX7_write 2 = .ok (.invokevirtual 102, 3) := by decide +kernel
theorem dX7_write_5 : decode cX7_write 5 = .ok (.ifCond .eq 12, 3) := by decide +kernel
theorem dX7_write_8 : decode cX7_write 8 = .ok (.iload_n 2, 1) := by decide +kernel
theorem dX7_write_9 : decode cX7_write 9 = .ok (.iconst 0, 1) := by decide +kernel
theorem dX7_write_10 : decode cX7_write 10 = .ok (.iconst 3, 1) := by decide +kernel
theorem dX7_write_11 : decode cX7_write 11 = .ok (.invokestatic 85, 3) := by decide +kernel
theorem dX7_write_14 : decode cX7_write 14 = .ok (.ifCond .ne 6, 3) := by decide +kernel
theorem dX7_write_17 : decode cX7_write 17 = .ok (.bipush (-2), 2) := by decide +kernel
theorem dX7_write_19 : decode cX7_write 19 = .ok (.ireturn, 1) := by decide +kernel
theorem dX7_write_20 : decode cX7_write 20 = .ok (.aload_n 0, 1) := by decide +kernel
theorem dX7_write_21 : decode cX7_write 21 = .ok (.getfield 59, 3) := by decide +kernel
theorem dX7_write_24 : decode cX7_write 24 = .ok (.iload_n 2, 1) := by decide +kernel
theorem dX7_write_25 : decode cX7_write 25 = .ok (.aaload, 1) := by decide +kernel
theorem dX7_write_26 : decode cX7_write 26 = .ok (.getfield 126, 3) := by decide +kernel
theorem dX7_write_29 : decode cX7_write 29 = .ok (.ifCond .eq 9, 3) := by decide +kernel
theorem dX7_write_32 : decode cX7_write 32 = .ok (.aload_n 0, 1) := by decide +kernel
theorem dX7_write_33 : decode cX7_write 33 = .ok (.iconst 1, 1) := by decide +kernel
theorem dX7_write_34 : decode cX7_write 34 = .ok (.invokevirtual 129, 3) := by decide +kernel
theorem dX7_write_37 : decode cX7_write 37 = .ok (.ireturn, 1) := by decide +kernel
theorem dX7_write_38 : decode cX7_write 38 = .ok (.aload_n 0, 1) := by decide +kernel
theorem dX7_write_39 : decode cX7_write 39 = .ok (.invokevirtual 145, 3) := by decide +kernel
theorem dX7_write_42 : decode cX7_write 42 = .ok (.astore_n 3, 1) := by decide +kernel
theorem dX7_write_43 : decode cX7_write 43 = .ok (.aload_n 0, 1) := by decide +kernel
theorem dX7_write_44 : decode cX7_write 44 = .ok (.getfield 59, 3) := by decide +kernel
theorem dX7_write_47 : decode cX7_write 47 = .ok (.iload_n 2, 1) := by decide +kernel
theorem dX7_write_48 : decode cX7_write 48 = .ok (.aaload, 1) := by decide +kernel
theorem dX7_write_49 : decode cX7_write 49 = .ok (.getfield 136, 3) := by decide +kernel
theorem dX7_write_52 : decode cX7_write 52 = .ok (.bipush 24, 2) := by decide +kernel
theorem dX7_write_54 : decode cX7_write 54 = .ok (.invokestatic 280, 3) := by decide +kernel
theorem dX7_write_57 : decode cX7_write 57 = .ok (.istore 4, 2) := by decide +kernel
theorem dX7_write_59 : decode cX7_write 59 = .ok (.iconst 0, 1) := by decide +kernel
theorem dX7_write_60 : decode cX7_write 60 = .ok (.istore 5, 2) := by decide +kernel
theorem dX7_write_62 : decode cX7_write 62 = .ok (.iload 5, 2) := by decide +kernel
theorem dX7_write_64 : decode cX7_write 64 = .ok (.iload 4, 2) := by decide +kernel
theorem dX7_write_66 : decode cX7_write 66 = .ok (.if_icmp .ge 27, 3) := by decide +kernel
theorem dX7_write_69 : decode cX7_write 69 = .ok (.aload_n 0, 1) := by decide +kernel
theorem dX7_write_70 : decode cX7_write 70 = .ok (.getfield 59, 3) := by decide +kernel
theorem dX7_write_73 : decode cX7_write 73 = .ok (.iload_n 2, 1) := by decide +kernel
theorem dX7_write_74 : decode cX7_write 74 = .ok (.aaload, 1) := by decide +kernel
theorem dX7_write_75 : decode cX7_write 75 = .ok (.iload 5, 2) := by decide +kernel
theorem dX7_write_77 : decode cX7_write 77 = .ok (.aload_n 3, 1) := by decide +kernel
theorem dX7_write_78 : decode cX7_write 78 = .ok (.iload 5, 2) := by decide +kernel
theorem dX7_write_80 : decode cX7_write 80 = .ok (.iload_n 1, 1) := by decide +kernel
theorem dX7_write_81 : decode cX7_write 81 = .ok (.invokevirtual 149, 3) := by decide +kernel
theorem dX7_write_84 : decode cX7_write 84 = .ok (.invokevirtual 265, 3) := by decide +kernel
theorem dX7_write_87 : decode cX7_write 87 = .ok (.iinc 5 1, 3) := by decide +kernel
theorem dX7_write_90 : decode cX7_write 90 = .ok (.goto (-28), 3) := by decide +kernel
theorem dX7_write_93 : decode cX7_write 93 = .ok (.iload 4, 2) := by decide +kernel
theorem dX7_write_95 : decode cX7_write 95 = .ok (.ireturn, 1) := by decide +kernel
set_option maxRecDepth 20000 in
theorem ggX7_count_X7_courseTold : GoodIn wsX7_count wsX7_courseTold := goodIn_r _ [15, 16, 17, 1, 5, 7, 18, 19, 20, 21, 22, 23, 24, 25, 26, 27, 28, 29, 30, 31, 32, 33, 34, 35, 36, 37, 38, 39, 40, 41, 42, 43, 44, 45, 46, 47, 48, 49, 50, 51, 52, 53, 54, 55, 56, 57, 58, 59, 60, 61, 62, 63, 64, 65, 66, 67, 68, 69, 70, 71, 72, 73, 74, 75, 76, 77, 78, 79, 80, 81, 82, 83, 84, 85, 86, 87, 88, 89, 90, 91, 92, 93, 94, 95, 96, 97, 98, 126, 127, 128, 129, 130, 131, 132, 133, 134, 135, 136, 137, 138, 139, 140, 155, 156, 157, 158, 159, 160, 161, 162, 163, 164, 165, 166, 141, 142, 143, 144, 147, 148, 149, 150] (by decide +kernel) (by decide +kernel)
set_option maxRecDepth 20000 in
theorem gX7_count_X7_courseTold : GoodIn wsX7_count (wsV RX7 145 RX7 yX7_courseTold wsX7_courseTold) := goodIn_app (goodIn_of _ (by decide +kernel)) ggX7_count_X7_courseTold
set_option maxRecDepth 20000 in
theorem ggX7_count_X1_settledInAll : GoodIn wsX7_count wsX1_settledInAll := goodIn_r _ [102, 103, 104, 105, 21, 106, 23, 33, 107, 108, 109, 110, 111, 112, 113, 155, 156, 157, 158, 159, 160, 161, 162, 163, 164, 165, 166] (by decide +kernel) (by decide +kernel)
set_option maxRecDepth 20000 in
theorem gX7_count_X1_settledInAll : GoodIn wsX7_count (wsV RX7 181 RX1 yX1_settledInAll wsX1_settledInAll) := goodIn_app (goodIn_of _ (by decide +kernel)) ggX7_count_X1_settledInAll
set_option maxRecDepth 20000 in
theorem ggX7_count_X1_fallsInAll : GoodIn wsX7_count wsX1_fallsInAll := goodIn_r _ [117, 23, 34, 155, 156, 157, 158, 159, 160, 161, 162, 163, 164, 165, 166] (by decide +kernel) (by decide +kernel)
set_option maxRecDepth 20000 in
theorem gX7_count_X1_fallsInAll : GoodIn wsX7_count (wsV RX7 184 RX1 yX1_fallsInAll wsX1_fallsInAll) := goodIn_app (goodIn_of _ (by decide +kernel)) ggX7_count_X1_fallsInAll
set_option maxRecDepth 20000 in
theorem ggX7_count_X1_housedAtLast : GoodIn wsX7_count wsX1_housedAtLast := goodIn_r _ [121, 23, 122, 123, 124, 21, 125, 97, 155, 156, 157, 158, 159, 160, 161, 162, 163, 164, 165, 166] (by decide +kernel) (by decide +kernel)
set_option maxRecDepth 20000 in
theorem gX7_count_X1_housedAtLast : GoodIn wsX7_count (wsV RX7 286 RX1 yX1_housedAtLast wsX1_housedAtLast) := goodIn_app (goodIn_of _ (by decide +kernel)) ggX7_count_X1_housedAtLast
theorem dX7_count_0 : decode cX7_count 0 = .ok (.iload_n 1, 1) := by decide +kernel
theorem dX7_count_1 : decode cX7_count 1 = .ok (.tableswitch 117 0 8 #[51, 59, 67, 75, 83, 91, 96, 104, 112], 51) := by decide +kernel
theorem dX7_count_52 : decode cX7_count 52 = .ok (.aload_n 0, 1) := by decide +kernel
theorem dX7_count_53 : decode cX7_count 53 = .ok (.getfield 19, 3) := by decide +kernel
theorem dX7_count_56 : decode cX7_count 56 = .ok (.getfield 285, 3) := by decide +kernel
theorem dX7_count_59 : decode cX7_count 59 = .ok (.ireturn, 1) := by decide +kernel
theorem dX7_count_60 : decode cX7_count 60 = .ok (.aload_n 0, 1) := by decide +kernel
theorem dX7_count_61 : decode cX7_count 61 = .ok (.getfield 12, 3) := by decide +kernel
theorem dX7_count_64 : decode cX7_count 64 = .ok (.getfield 89, 3) := by decide +kernel
theorem dX7_count_67 : decode cX7_count 67 = .ok (.ireturn, 1) := by decide +kernel
theorem dX7_count_68 : decode cX7_count 68 = .ok (.aload_n 0, 1) := by decide +kernel
theorem dX7_count_69 : decode cX7_count 69 = .ok (.getfield 29, 3) := by decide +kernel
theorem dX7_count_72 : decode cX7_count 72 = .ok (.getfield 121, 3) := by decide +kernel
theorem dX7_count_75 : decode cX7_count 75 = .ok (.ireturn, 1) := by decide +kernel
theorem dX7_count_76 : decode cX7_count 76 = .ok (.aload_n 0, 1) := by decide +kernel
theorem dX7_count_77 : decode cX7_count 77 = .ok (.invokevirtual 145, 3) := by decide +kernel
theorem dX7_count_80 : decode cX7_count 80 = .ok (.invokevirtual 181, 3) := by decide +kernel
theorem dX7_count_83 : decode cX7_count 83 = .ok (.ireturn, 1) := by decide +kernel
theorem dX7_count_84 : decode cX7_count 84 = .ok (.aload_n 0, 1) := by decide +kernel
theorem dX7_count_85 : decode cX7_count 85 = .ok (.invokevirtual 145, 3) := by decide +kernel
theorem dX7_count_88 : decode cX7_count 88 = .ok (.invokevirtual 184, 3) := by decide +kernel
theorem dX7_count_91 : decode cX7_count 91 = .ok (.ireturn, 1) := by decide +kernel
theorem dX7_count_92 : decode cX7_count 92 = .ok (.aload_n 0, 1) := by decide +kernel
theorem dX7_count_93 : decode cX7_count 93 = .ok (.getfield 70, 3) := by decide +kernel
theorem dX7_count_96 : decode cX7_count 96 = .ok (.ireturn, 1) := by decide +kernel
theorem dX7_count_97 : decode cX7_count 97 = .ok (.aload_n 0, 1) := by decide +kernel
theorem dX7_count_98 : decode cX7_count 98 = .ok (.invokevirtual 145, 3) := by decide +kernel
theorem dX7_count_101 : decode cX7_count 101 = .ok (.invokevirtual 286, 3) := by decide +kernel
theorem dX7_count_104 : decode cX7_count 104 = .ok (.ireturn, 1) := by decide +kernel
theorem dX7_count_105 : decode cX7_count 105 = .ok (.aload_n 0, 1) := by decide +kernel
theorem dX7_count_106 : decode cX7_count 106 = .ok (.getfield 36, 3) := by decide +kernel
theorem dX7_count_109 : decode cX7_count 109 = .ok (.getfield 223, 3) := by decide +kernel
theorem dX7_count_112 : decode cX7_count 112 = .ok (.ireturn, 1) := by decide +kernel
theorem dX7_count_113 : decode cX7_count 113 = .ok (.aload_n 0, 1) := by decide +kernel
theorem dX7_count_114 : decode cX7_count 114 = .ok (.getfield 74, 3) := by decide +kernel
theorem dX7_count_117 : decode cX7_count 117 = .ok (.ireturn, 1) := by decide +kernel
theorem dX7_count_118 : decode cX7_count 118 = .ok (.bipush (-2), 2) := by decide +kernel
theorem dX7_count_120 : decode cX7_count 120 = .ok (.ireturn, 1) := by decide +kernel
set_option maxRecDepth 20000 in
theorem ggX7_digest_X7_count : GoodIn wsX7_digest wsX7_count := goodIn_r _ [9, 3, 4, 10, 11, 12, 13, 14, 15, 16, 17, 18, 19, 20, 8, 21, 22, 23, 24, 25, 26, 27, 28, 29, 30, 31, 32, 33, 34, 35, 36, 37, 38, 39, 40, 41, 42, 43, 44, 45, 46, 47, 48, 49, 50, 51, 52, 53, 54, 55, 56, 57, 58, 59, 60, 61, 62, 63, 64, 65, 66, 67, 68, 69, 70, 71, 72, 73, 74, 75, 76, 77, 78, 79, 80, 81, 82, 83, 84, 85, 86, 87, 88, 89, 90, 91, 92, 93, 94, 95, 96, 97, 98, 99, 100, 101, 102, 103, 104, 105, 106, 107, 108, 109, 110, 111, 112, 113, 114, 115, 116, 117, 118, 119, 120, 121, 122, 123, 124, 125, 126, 127, 128, 129, 130, 131, 391, 392, 393, 394, 395, 396, 397, 398, 399, 400, 401, 402, 403, 404, 405, 406, 407, 408, 409, 410, 411, 412, 413, 414, 415, 416, 417, 418, 419, 420, 421, 422, 423, 424, 425, 426, 427, 428, 429, 430, 431] (by decide +kernel) (by decide +kernel)
set_option maxRecDepth 20000 in
theorem gX7_digest_X7_count : GoodIn wsX7_digest (wsV RX7 293 RX7 yX7_count wsX7_count) := goodIn_app (goodIn_of _ (by decide +kernel)) ggX7_digest_X7_count
set_option maxRecDepth 20000 in
theorem ggX7_digest_X7_fault : GoodIn wsX7_digest wsX7_fault := goodIn_r _ [135, 10, 136, 137, 138, 139, 140, 141, 142, 143, 144, 145, 146, 147, 148, 391, 392, 393, 394, 395, 396, 397, 398, 399, 400, 401, 402, 403, 404, 405, 410, 411] (by decide +kernel) (by decide +kernel)
set_option maxRecDepth 20000 in
theorem gX7_digest_X7_fault : GoodIn wsX7_digest (wsV RX7 296 RX7 yX7_fault wsX7_fault) := goodIn_app (goodIn_of _ (by decide +kernel)) ggX7_digest_X7_fault
set_option maxRecDepth 20000 in
theorem ggX7_digest_X7_lift : GoodIn wsX7_digest wsX7_lift := goodIn_r _ [152, 153, 154, 8, 155, 156, 157, 158, 18, 19, 20, 21, 22, 23, 3, 12, 14, 24, 25, 26, 27, 28, 29, 30, 31, 32, 33, 34, 35, 36, 37, 38, 39, 40, 41, 42, 43, 44, 45, 46, 47, 48, 49, 50, 51, 52, 53, 54, 55, 56, 57, 58, 59, 60, 61, 62, 63, 64, 65, 66, 67, 68, 69, 70, 71, 72, 73, 74, 75, 76, 77, 78, 79, 80, 81, 82, 83, 84, 85, 86, 87, 88, 89, 90, 91, 92, 93, 94, 95, 96, 97, 98, 99, 100, 101, 102, 103, 104, 159, 160, 161, 162, 128, 129, 130, 131, 163, 164, 165, 166, 167, 168, 169, 170, 171, 172, 173, 391, 392, 393, 394, 395, 396, 397, 398, 399, 400, 401, 402, 403, 404, 405, 420, 421, 422, 423, 424, 425, 426, 427, 428, 429, 430, 431, 406, 407, 408, 409, 412, 413, 414, 415] (by decide +kernel) (by decide +kernel)
set_option maxRecDepth 20000 in
theorem gX7_digest_X7_lift : GoodIn wsX7_digest (wsV RX7 299 RX7 yX7_lift wsX7_lift) := goodIn_app (goodIn_of _ (by decide +kernel)) ggX7_digest_X7_lift
set_option maxRecDepth 20000 in
theorem ggX7_digest_X7_live : GoodIn wsX7_digest wsX7_live := goodIn_r _ [177, 153, 154, 8, 155, 156, 157, 158, 18, 19, 20, 21, 22, 23, 3, 12, 14, 24, 25, 26, 27, 28, 29, 30, 31, 32, 33, 34, 35, 36, 37, 38, 39, 40, 41, 42, 43, 44, 45, 46, 47, 48, 49, 50, 51, 52, 53, 54, 55, 56, 57, 58, 59, 60, 61, 62, 63, 64, 65, 66, 67, 68, 69, 70, 71, 72, 73, 74, 75, 76, 77, 78, 79, 80, 81, 82, 83, 84, 85, 86, 87, 88, 89, 90, 91, 92, 93, 94, 95, 96, 97, 98, 99, 100, 101, 102, 103, 104, 178, 179, 180, 181, 128, 129, 130, 131, 391, 392, 393, 394, 395, 396, 397, 398, 399, 400, 401, 402, 403, 404, 405, 420, 421, 422, 423, 424, 425, 426, 427, 428, 429, 430, 431, 406, 407, 408, 409, 412, 413, 414, 415] (by decide +kernel) (by decide +kernel)
set_option maxRecDepth 20000 in
theorem gX7_digest_X7_live : GoodIn wsX7_digest (wsV RX7 302 RX7 yX7_live wsX7_live) := goodIn_app (goodIn_of _ (by decide +kernel)) ggX7_digest_X7_live
set_option maxRecDepth 20000 in
theorem ggX7_digest_X7_digestMonths : GoodIn wsX7_digest wsX7_digestMonths := goodIn_r _ [185, 2, 186, 187, 188, 8, 189, 3, 190, 191, 192, 193, 194, 195, 196, 4, 156, 157, 158, 197, 198, 199, 200, 201, 202, 203, 204, 205, 153, 154, 155, 18, 19, 20, 21, 22, 23, 12, 14, 24, 25, 26, 27, 28, 29, 30, 31, 32, 33, 34, 35, 36, 37, 38, 39, 40, 41, 42, 43, 44, 45, 46, 47, 48, 49, 50, 51, 52, 53, 54, 55, 56, 57, 58, 59, 60, 61, 62, 63, 64, 65, 66, 67, 68, 69, 70, 71, 72, 73, 74, 75, 76, 77, 78, 79, 80, 81, 82, 83, 84, 85, 86, 87, 88, 89, 90, 91, 92, 93, 94, 95, 96, 97, 98, 99, 100, 101, 102, 103, 104, 206, 129, 130, 131, 207, 171, 172, 173, 208, 164, 165, 166, 167, 168, 169, 128, 170, 209, 210, 211, 212, 213, 214, 215, 216, 217, 218, 219, 220, 221, 222, 223, 391, 392, 393, 394, 395, 396, 397, 398, 399, 400, 401, 402, 403, 404, 405, 406, 407, 408, 409, 420, 421, 422, 423, 424, 425, 426, 427, 428, 429, 430, 431, 412, 413, 414, 415] (by decide +kernel) (by decide +kernel)
set_option maxRecDepth 20000 in
theorem gX7_digest_X7_digestMonths : GoodIn wsX7_digest (wsV RX7 305 RX7 yX7_digestMonths wsX7_digestMonths) := goodIn_app (goodIn_of _ (by decide +kernel)) ggX7_digest_X7_digestMonths
set_option maxRecDepth 20000 in
theorem ggX7_digest_X7_digestPlans : GoodIn wsX7_digest wsX7_digestPlans := goodIn_r _ [227, 2, 228, 229, 230, 8, 231, 232, 233, 3, 192, 234, 12, 14, 235, 236, 237, 238, 239, 240, 241, 242, 243, 244, 245, 246, 247, 248, 249, 24, 25, 26, 27, 28, 29, 30, 31, 32, 33, 34, 35, 36, 37, 38, 39, 40, 41, 42, 43, 44, 45, 46, 47, 48, 49, 50, 51, 52, 53, 54, 55, 56, 57, 58, 59, 60, 61, 62, 63, 64, 65, 66, 67, 68, 69, 70, 71, 72, 73, 74, 75, 76, 77, 78, 79, 80, 81, 82, 83, 84, 85, 86, 87, 88, 89, 90, 91, 92, 93, 94, 95, 96, 97, 98, 99, 100, 101, 102, 103, 104, 105, 106, 107, 108, 109, 110, 111, 112, 113, 114, 115, 116, 117, 118, 119, 120, 121, 122, 123, 250, 251, 252, 253, 254, 255, 256, 257, 258, 259, 260, 261, 262, 263, 264, 265, 266, 267, 190, 268, 269, 270, 271, 193, 194, 195, 196, 4, 156, 157, 158, 272, 273, 274, 275, 15, 276, 277, 278, 279, 280, 281, 282, 283, 284, 285, 286, 287, 129, 130, 131, 288, 289, 290, 291, 128, 292, 293, 294, 295, 296, 297, 298, 299, 300, 301, 302, 303, 304, 168, 169, 305, 306, 307, 308, 309, 13, 310, 311, 312, 313, 314, 315, 316, 317, 318, 319, 320, 321, 322, 323, 324, 325, 326, 327, 391, 392, 393, 394, 395, 396, 397, 398, 399, 400, 401, 402, 403, 404, 405, 406, 407, 408, 409, 432, 433, 434, 420, 421, 422, 423, 424, 425, 426, 427, 428, 429, 430, 431, 412, 413, 414, 415, 416, 417, 418, 419] (by decide +kernel) (by decide +kernel)
set_option maxRecDepth 20000 in
theorem gX7_digest_X7_digestPlans : GoodIn wsX7_digest (wsV RX7 309 RX7 yX7_digestPlans wsX7_digestPlans) := goodIn_app (goodIn_of _ (by decide +kernel)) ggX7_digest_X7_digestPlans
set_option maxRecDepth 20000 in
theorem ggX7_digest_X7_sum : GoodIn wsX7_digest wsX7_sum := goodIn_r _ [331, 156, 157, 8, 158, 18, 19, 20, 21, 22, 23, 3, 12, 14, 24, 25, 26, 27, 28, 29, 30, 31, 32, 33, 34, 35, 36, 37, 38, 39, 40, 41, 42, 43, 44, 45, 46, 47, 48, 49, 50, 51, 52, 53, 54, 55, 56, 57, 58, 59, 60, 61, 62, 63, 64, 65, 66, 67, 68, 69, 70, 71, 72, 73, 74, 75, 76, 77, 78, 79, 80, 81, 82, 83, 84, 85, 86, 87, 88, 89, 90, 91, 92, 93, 94, 95, 96, 97, 98, 99, 100, 101, 102, 103, 104, 105, 106, 107, 108, 109, 110, 111, 112, 113, 114, 115, 116, 117, 118, 119, 120, 121, 122, 123, 332, 333, 334, 335, 336, 337, 338, 339, 163, 164, 165, 166, 167, 168, 169, 128, 129, 130, 131, 170, 171, 172, 173, 391, 392, 393, 394, 395, 396, 397, 398, 399, 400, 401, 402, 403, 404, 405, 420, 421, 422, 423, 424, 425, 426, 427, 428, 429, 430, 431, 406, 407, 408, 409, 412, 413, 414, 415] (by decide +kernel) (by decide +kernel)
set_option maxRecDepth 20000 in
theorem gX7_digest_X7_sum : GoodIn wsX7_digest (wsV RX7 312 RX7 yX7_sum wsX7_sum) := goodIn_app (goodIn_of _ (by decide +kernel)) ggX7_digest_X7_sum
set_option maxRecDepth 20000 in
theorem ggX7_digest_X7_top : GoodIn wsX7_digest wsX7_top := goodIn_r _ [343, 18, 19, 20, 8, 21, 22, 23, 3, 12, 14, 24, 25, 26, 27, 28, 29, 30, 31, 32, 33, 34, 35, 36, 37, 38, 39, 40, 41, 42, 43, 44, 45, 46, 47, 48, 49, 50, 51, 52, 53, 54, 55, 56, 57, 58, 59, 60, 61, 62, 63, 64, 65, 66, 67, 68, 69, 70, 71, 72, 73, 74, 75, 76, 77, 78, 79, 80, 81, 82, 83, 84, 85, 86, 87, 88, 89, 90, 91, 92, 93, 94, 95, 96, 97, 98, 99, 100, 101, 102, 103, 104, 344, 345, 346, 347, 128, 129, 130, 131, 391, 392, 393, 394, 395, 396, 397, 398, 399, 400, 401, 402, 403, 404, 405, 420, 421, 422, 423, 424, 425, 426, 427, 428, 429, 430, 431, 406, 407, 408, 409, 412, 413, 414, 415] (by decide +kernel) (by decide +kernel)
set_option maxRecDepth 20000 in
theorem gX7_digest_X7_top : GoodIn wsX7_digest (wsV RX7 315 RX7 yX7_top wsX7_top) := goodIn_app (goodIn_of _ (by decide +kernel)) ggX7_digest_X7_top
set_option maxRecDepth 20000 in
theorem ggX7_digest_X7_heard : GoodIn wsX7_digest wsX7_heard := goodIn_r _ [351, 18, 19, 20, 8, 21, 22, 23, 3, 12, 14, 24, 25, 26, 27, 28, 29, 30, 31, 32, 33, 34, 35, 36, 37, 38, 39, 40, 41, 42, 43, 44, 45, 46, 47, 48, 49, 50, 51, 52, 53, 54, 55, 56, 57, 58, 59, 60, 61, 62, 63, 64, 65, 66, 67, 68, 69, 70, 71, 72, 73, 74, 75, 76, 77, 78, 79, 80, 81, 82, 83, 84, 85, 86, 87, 88, 89, 90, 91, 92, 93, 94, 95, 96, 97, 98, 99, 100, 101, 102, 103, 104, 352, 353, 354, 355, 128, 129, 130, 131, 391, 392, 393, 394, 395, 396, 397, 398, 399, 400, 401, 402, 403, 404, 405, 420, 421, 422, 423, 424, 425, 426, 427, 428, 429, 430, 431, 406, 407, 408, 409, 412, 413, 414, 415] (by decide +kernel) (by decide +kernel)
set_option maxRecDepth 20000 in
theorem gX7_digest_X7_heard : GoodIn wsX7_digest (wsV RX7 318 RX7 yX7_heard wsX7_heard) := goodIn_app (goodIn_of _ (by decide +kernel)) ggX7_digest_X7_heard
set_option maxRecDepth 20000 in
theorem ggX7_digest_X7_planRoom : GoodIn wsX7_digest wsX7_planRoom := goodIn_r _ [359, 232, 234, 3, 12, 235, 236, 237, 238, 239, 240, 24, 25, 26, 27, 28, 29, 30, 31, 32, 33, 34, 35, 36, 37, 38, 39, 40, 41, 42, 43, 44, 45, 46, 47, 48, 49, 50, 51, 52, 53, 54, 55, 56, 57, 58, 59, 60, 61, 62, 63, 64, 65, 66, 67, 68, 69, 70, 71, 72, 73, 74, 75, 76, 77, 78, 79, 80, 81, 82, 83, 84, 85, 86, 87, 88, 89, 90, 91, 92, 93, 94, 95, 96, 97, 98, 99, 100, 101, 102, 103, 104, 105, 106, 107, 108, 109, 110, 111, 112, 113, 114, 115, 116, 117, 118, 119, 120, 121, 122, 123, 250, 251, 252, 253, 254, 255, 391, 392, 393, 394, 395, 396, 397, 398, 399, 400, 401, 402, 403, 404, 405, 432, 433, 434, 420, 421, 422, 423, 424, 425, 426, 427, 428, 429, 430, 431, 406, 407, 408, 409, 412, 413, 414, 415] (by decide +kernel) (by decide +kernel)
set_option maxRecDepth 20000 in
theorem gX7_digest_X7_planRoom : GoodIn wsX7_digest (wsV RX7 209 RX7 yX7_planRoom wsX7_planRoom) := goodIn_app (goodIn_of _ (by decide +kernel)) ggX7_digest_X7_planRoom
set_option maxRecDepth 20000 in
theorem ggX7_digest_X7_digestBest : GoodIn wsX7_digest wsX7_digestBest := goodIn_r _ [259, 2, 232, 260, 261, 262, 238, 263, 240, 254, 255, 391, 392, 393, 394, 395, 396, 397, 398, 399, 400, 401, 402, 403, 404, 405, 432, 433, 434] (by decide +kernel) (by decide +kernel)
set_option maxRecDepth 20000 in
theorem gX7_digest_X7_digestBest : GoodIn wsX7_digest (wsV RX7 321 RX7 yX7_digestBest wsX7_digestBest) := goodIn_app (goodIn_of _ (by decide +kernel)) ggX7_digest_X7_digestBest
set_option maxRecDepth 20000 in
theorem ggX7_digest_X7_spare : GoodIn wsX7_digest wsX7_spare := goodIn_r _ [363, 156, 157, 8, 158, 364, 365, 366, 367, 12, 13, 310, 311, 312, 313, 314, 315, 234, 3, 14, 316, 79, 80, 81, 24, 25, 26, 27, 28, 29, 30, 31, 32, 33, 34, 35, 36, 37, 38, 39, 40, 41, 42, 43, 44, 45, 46, 47, 48, 49, 50, 51, 52, 53, 54, 55, 56, 57, 58, 59, 60, 61, 62, 63, 64, 65, 66, 67, 68, 69, 70, 71, 72, 73, 74, 75, 76, 77, 78, 82, 83, 84, 85, 86, 87, 88, 89, 90, 91, 92, 93, 94, 95, 96, 97, 98, 99, 100, 101, 102, 103, 104, 317, 110, 111, 112, 368, 114, 115, 116, 117, 118, 119, 369, 370, 371, 391, 392, 393, 394, 395, 396, 397, 398, 399, 400, 401, 402, 403, 404, 405, 412, 413, 414, 415, 420, 421, 422, 423, 424, 425, 426, 427, 428, 429, 430, 431, 406, 407, 408, 409] (by decide +kernel) (by decide +kernel)
set_option maxRecDepth 20000 in
theorem gX7_digest_X7_spare : GoodIn wsX7_digest (wsV RX7 325 RX7 yX7_spare wsX7_spare) := goodIn_app (goodIn_of _ (by decide +kernel)) ggX7_digest_X7_spare
set_option maxRecDepth 20000 in
theorem ggX7_digest_X7_never : GoodIn wsX7_digest wsX7_never := goodIn_r _ [375, 12, 13, 234, 3, 14, 15, 24, 25, 26, 27, 28, 29, 30, 31, 32, 33, 34, 35, 36, 37, 38, 39, 40, 41, 42, 43, 44, 45, 46, 47, 48, 49, 50, 51, 52, 53, 54, 55, 56, 57, 58, 59, 60, 61, 62, 63, 64, 65, 66, 67, 68, 69, 70, 71, 72, 73, 74, 75, 76, 77, 78, 79, 80, 81, 82, 83, 84, 85, 86, 87, 88, 89, 90, 91, 92, 93, 94, 95, 96, 97, 98, 99, 100, 101, 102, 103, 104, 277, 278, 279, 280, 281, 282, 283, 284, 285, 286, 287, 129, 130, 131, 391, 392, 393, 394, 395, 396, 397, 398, 399, 400, 401, 402, 403, 404, 405, 412, 413, 414, 415, 420, 421, 422, 423, 424, 425, 426, 427, 428, 429, 430, 431, 406, 407, 408, 409, 416, 417, 418, 419] (by decide +kernel) (by decide +kernel)
set_option maxRecDepth 20000 in
theorem gX7_digest_X7_never : GoodIn wsX7_digest (wsV RX7 328 RX7 yX7_never wsX7_never) := goodIn_app (goodIn_of _ (by decide +kernel)) ggX7_digest_X7_never
set_option maxRecDepth 20000 in
theorem ggX7_digest_X7_houses : GoodIn wsX7_digest wsX7_houses := goodIn_r _ [379, 233, 234, 12, 14, 156, 157, 8, 158, 380, 381, 382, 244, 383, 246, 247, 248, 249, 384, 385, 386, 387, 388, 389, 390, 24, 25, 26, 27, 28, 29, 30, 31, 32, 33, 34, 35, 36, 37, 38, 39, 40, 41, 42, 43, 44, 45, 46, 47, 48, 49, 50, 51, 52, 53, 54, 55, 56, 57, 58, 59, 60, 61, 62, 63, 64, 65, 66, 67, 68, 69, 70, 71, 72, 73, 74, 75, 76, 77, 78, 79, 80, 81, 82, 83, 84, 85, 86, 87, 88, 89, 90, 91, 92, 93, 94, 95, 96, 97, 98, 99, 100, 101, 102, 103, 104, 105, 106, 107, 108, 109, 110, 111, 112, 113, 114, 115, 116, 117, 118, 119, 120, 121, 122, 123, 391, 392, 393, 394, 395, 396, 397, 398, 399, 400, 401, 402, 403, 404, 405, 406, 407, 408, 409, 420, 421, 422, 423, 424, 425, 426, 427, 428, 429, 430, 431, 412, 413, 414, 415] (by decide +kernel) (by decide +kernel)
set_option maxRecDepth 20000 in
theorem gX7_digest_X7_houses : GoodIn wsX7_digest (wsV RX7 331 RX7 yX7_houses wsX7_houses) := goodIn_app (goodIn_of _ (by decide +kernel)) ggX7_digest_X7_houses
theorem dX7_digest_0 : decode cX7_digest 0 = .ok (.ldc2_w 289, 3) := by decide +kernel
theorem dX7_digest_3 : decode cX7_digest 3 = .ok (.lstore_n 1, 1) := by decide +kernel
theorem dX7_digest_4 : decode cX7_digest 4 = .ok (.iconst 0, 1) := by decide +kernel
theorem dX7_digest_5 : decode cX7_digest 5 = .ok (.istore_n 3, 1) := by decide +kernel
theorem dX7_digest_6 : decode cX7_digest 6 = .ok (.iload_n 3, 1) := by decide +kernel
theorem dX7_digest_7 : decode cX7_digest 7 = .ok (.bipush 7, 2) := by decide +kernel
theorem dX7_digest_9 : decode cX7_digest 9 = .ok (.if_icmp .gt 22, 3) := by decide +kernel
theorem dX7_digest_12 : decode cX7_digest 12 = .ok (.ldc2_w 291, 3) := by decide +kernel
theorem dX7_digest_15 : decode cX7_digest 15 = .ok (.lload_n 1, 1) := by decide +kernel
theorem dX7_digest_16 : decode cX7_digest 16 = .ok (.lmul, 1) := by decide +kernel
theorem dX7_digest_17 : decode cX7_digest 17 = .ok (.aload_n 0, 1) := by decide +kernel
theorem dX7_digest_18 : decode cX7_digest 18 = .ok (.iload_n 3, 1) := by decide +kernel
theorem dX7_digest_19 : decode cX7_digest 19 = .ok (.invokevirtual 293, 3) := by decide +kernel
theorem dX7_digest_22 : decode cX7_digest 22 = .ok (.i2l, 1) := by decide +kernel
theorem dX7_digest_23 : decode cX7_digest 23 = .ok (.ladd, 1) := by decide +kernel
theorem dX7_digest_24 : decode cX7_digest 24 = .ok (.lstore_n 1, 1) := by decide +kernel
theorem dX7_digest_25 : decode cX7_digest 25 = .ok (.iinc 3 1, 3) := by decide +kernel
theorem dX7_digest_28 : decode cX7_digest 28 = .ok (.goto (-22), 3) := by decide +kernel
theorem dX7_digest_31 : decode cX7_digest 31 = .ok (.ldc2_w 291, 3) := by decide +kernel
theorem dX7_digest_34 : decode cX7_digest 34 = .ok (.lload_n 1, 1) := by decide +kernel
theorem dX7_digest_35 : decode cX7_digest 35 = .ok (.lmul, 1) := by decide +kernel
theorem dX7_digest_36 : decode cX7_digest 36 = .ok (.aload_n 0, 1) := by decide +kernel
theorem dX7_digest_37 : decode cX7_digest 37 = .ok (.invokevirtual 296, 3) := by decide +kernel
theorem dX7_digest_40 : decode cX7_digest 40 = .ok (.i2l, 1) := by decide +kernel
theorem dX7_digest_41 : decode cX7_digest 41 = .ok (.ladd, 1) := by decide +kernel
theorem dX7_digest_42 : decode cX7_digest 42 = .ok (.lstore_n 1, 1) := by decide +kernel
theorem dX7_digest_43 : decode cX7_digest 43 = .ok (.iconst 0, 1) := by decide +kernel
theorem dX7_digest_44 : decode cX7_digest 44 = .ok (.istore_n 3, 1) := by decide +kernel
theorem dX7_digest_45 : decode cX7_digest 45 = .ok (.iload_n 3, 1) := by decide +kernel
theorem dX7_digest_46 : decode cX7_digest 46 = .ok (.bipush 24, 2) := by decide +kernel
theorem dX7_digest_48 : decode cX7_digest 48 = .ok (.if_icmp .ge 22, 3) := by decide +kernel
theorem dX7_digest_51 : decode cX7_digest 51 = .ok (.ldc2_w 291, 3) := by decide +kernel
theorem dX7_digest_54 : decode cX7_digest 54 = .ok (.lload_n 1, 1) := by decide +kernel
theorem dX7_digest_55 : decode cX7_digest 55 = .ok (.lmul, 1) := by decide +kernel
theorem dX7_digest_56 : decode cX7_digest 56 = .ok (.aload_n 0, 1) := by decide +kernel
theorem dX7_digest_57 : decode cX7_digest 57 = .ok (.iload_n 3, 1) := by decide +kernel
theorem dX7_digest_58 : decode cX7_digest 58 = .ok (.invokevirtual 299, 3) := by decide +kernel
theorem dX7_digest_61 : decode cX7_digest 61 = .ok (.i2l, 1) := by decide +kernel
theorem dX7_digest_62 : decode cX7_digest 62 = .ok (.ladd, 1) := by decide +kernel
theorem dX7_digest_63 : decode cX7_digest 63 = .ok (.lstore_n 1, 1) := by decide +kernel
theorem dX7_digest_64 : decode cX7_digest 64 = .ok (.iinc 3 1, 3) := by decide +kernel
theorem dX7_digest_67 : decode cX7_digest 67 = .ok (.goto (-22), 3) := by decide +kernel
theorem dX7_digest_70 : decode cX7_digest 70 = .ok (.iconst 0, 1) := by decide +kernel
theorem dX7_digest_71 : decode cX7_digest 71 = .ok (.istore_n 3, 1) := by decide +kernel
theorem dX7_digest_72 : decode cX7_digest 72 = .ok (.iload_n 3, 1) := by decide +kernel
theorem dX7_digest_73 : decode cX7_digest 73 = .ok (.bipush 12, 2) := by decide +kernel
theorem dX7_digest_75 : decode cX7_digest 75 = .ok (.if_icmp .gt 53, 3) := by decide +kernel
theorem dX7_digest_78 : decode cX7_digest 78 = .ok (.ldc2_w 291, 3) := by decide +kernel
theorem dX7_digest_81 : decode cX7_digest 81 = .ok (.lload_n 1, 1) := by decide +kernel
theorem dX7_digest_82 : decode cX7_digest 82 = .ok (.lmul, 1) := by decide +kernel
theorem dX7_digest_83 : decode cX7_digest 83 = .ok (.aload_n 0, 1) := by decide +kernel
theorem dX7_digest_84 : decode cX7_digest 84 = .ok (.iconst 3, 1) := by decide +kernel
theorem dX7_digest_85 : decode cX7_digest 85 = .ok (.iload_n 3, 1) := by decide +kernel
theorem dX7_digest_86 : decode cX7_digest 86 = .ok (.invokevirtual 302, 3) := by decide +kernel
theorem dX7_digest_89 : decode cX7_digest 89 = .ok (.i2l, 1) := by decide +kernel
theorem dX7_digest_90 : decode cX7_digest 90 = .ok (.ladd, 1) := by decide +kernel
theorem dX7_digest_91 : decode cX7_digest 91 = .ok (.lstore_n 1, 1) := by decide +kernel
theorem dX7_digest_92 : decode cX7_digest 92 = .ok (.ldc2_w 291, 3) := by decide +kernel
theorem dX7_digest_95 : decode cX7_digest 95 = .ok (.lload_n 1, 1) := by decide +kernel
theorem dX7_digest_96 : decode cX7_digest 96 = .ok (.lmul, 1) := by decide +kernel
theorem dX7_digest_97 : decode cX7_digest 97 = .ok (.aload_n 0, 1) := by decide +kernel
theorem dX7_digest_98 : decode cX7_digest 98 = .ok (.bipush 9, 2) := by decide +kernel
theorem dX7_digest_100 : decode cX7_digest 100 = .ok (.iload_n 3, 1) := by decide +kernel
theorem dX7_digest_101 : decode cX7_digest 101 = .ok (.invokevirtual 302, 3) := by decide +kernel
theorem dX7_digest_104 : decode cX7_digest 104 = .ok (.i2l, 1) := by decide +kernel
theorem dX7_digest_105 : decode cX7_digest 105 = .ok (.ladd, 1) := by decide +kernel
theorem dX7_digest_106 : decode cX7_digest 106 = .ok (.lstore_n 1, 1) := by decide +kernel
theorem dX7_digest_107 : decode cX7_digest 107 = .ok (.ldc2_w 291, 3) := by decide +kernel
theorem dX7_digest_110 : decode cX7_digest 110 = .ok (.lload_n 1, 1) := by decide +kernel
theorem dX7_digest_111 : decode cX7_digest 111 = .ok (.lmul, 1) := by decide +kernel
theorem dX7_digest_112 : decode cX7_digest 112 = .ok (.aload_n 0, 1) := by decide +kernel
theorem dX7_digest_113 : decode cX7_digest 113 = .ok (.bipush 23, 2) := by decide +kernel
theorem dX7_digest_115 : decode cX7_digest 115 = .ok (.iload_n 3, 1) := by decide +kernel
theorem dX7_digest_116 : decode cX7_digest 116 = .ok (.invokevirtual 302, 3) := by decide +kernel
theorem dX7_digest_119 : decode cX7_digest 119 = .ok (.i2l, 1) := by decide +kernel
theorem dX7_digest_120 : decode cX7_digest 120 = .ok (.ladd, 1) := by decide +kernel
theorem dX7_digest_121 : decode cX7_digest 121 = .ok (.lstore_n 1, 1) := by decide +kernel
theorem dX7_digest_122 : decode cX7_digest 122 = .ok (.iinc 3 1, 3) := by decide +kernel
theorem dX7_digest_125 : decode cX7_digest 125 = .ok (.goto (-53), 3) := by decide +kernel
theorem dX7_digest_128 : decode cX7_digest 128 = .ok (.iconst 0, 1) := by decide +kernel
theorem dX7_digest_129 : decode cX7_digest 129 = .ok (.istore_n 3, 1) := by decide +kernel
theorem dX7_digest_130 : decode cX7_digest 130 = .ok (.iload_n 3, 1) := by decide +kernel
theorem dX7_digest_131 : decode cX7_digest 131 = .ok (.aload_n 0, 1) := by decide +kernel
theorem dX7_digest_132 : decode cX7_digest 132 = .ok (.getfield 19, 3) := by decide +kernel
theorem dX7_digest_135 : decode cX7_digest 135 = .ok (.getfield 285, 3) := by decide +kernel
theorem dX7_digest_138 : decode cX7_digest 138 = .ok (.if_icmp .ge 21, 3) := by decide +kernel
theorem dX7_digest_141 : decode cX7_digest 141 = .ok (.aload_n 0, 1) := by decide +kernel
theorem dX7_digest_142 : decode cX7_digest 142 = .ok (.aload_n 0, 1) := by decide +kernel
theorem dX7_digest_143 : decode cX7_digest 143 = .ok (.lload_n 1, 1) := by decide +kernel
theorem dX7_digest_144 : decode cX7_digest 144 = .ok (.iload_n 3, 1) := by decide +kernel
theorem dX7_digest_145 : decode cX7_digest 145 = .ok (.invokevirtual 305, 3) := by decide +kernel
theorem dX7_digest_148 : decode cX7_digest 148 = .ok (.iload_n 3, 1) := by decide +kernel
theorem dX7_digest_149 : decode cX7_digest 149 = .ok (.invokevirtual 309, 3) := by decide +kernel
theorem dX7_digest_152 : decode cX7_digest 152 = .ok (.lstore_n 1, 1) := by decide +kernel
theorem dX7_digest_153 : decode cX7_digest 153 = .ok (.iinc 3 1, 3) := by decide +kernel
theorem dX7_digest_156 : decode cX7_digest 156 = .ok (.goto (-26), 3) := by decide +kernel
theorem dX7_digest_159 : decode cX7_digest 159 = .ok (.iconst 0, 1) := by decide +kernel
theorem dX7_digest_160 : decode cX7_digest 160 = .ok (.istore_n 3, 1) := by decide +kernel
theorem dX7_digest_161 : decode cX7_digest 161 = .ok (.iload_n 3, 1) := by decide +kernel
theorem dX7_digest_162 : decode cX7_digest 162 = .ok (.iconst 3, 1) := by decide +kernel
theorem dX7_digest_163 : decode cX7_digest 163 = .ok (.if_icmp .gt 22, 3) := by decide +kernel
theorem dX7_digest_166 : decode cX7_digest 166 = .ok (.ldc2_w 291, 3) := by decide +kernel
theorem dX7_digest_169 : decode cX7_digest 169 = .ok (.lload_n 1, 1) := by decide +kernel
theorem dX7_digest_170 : decode cX7_digest 170 = .ok (.lmul, 1) := by decide +kernel
theorem dX7_digest_171 : decode cX7_digest 171 = .ok (.aload_n 0, 1) := by decide +kernel
theorem dX7_digest_172 : decode cX7_digest 172 = .ok (.iload_n 3, 1) := by decide +kernel
theorem dX7_digest_173 : decode cX7_digest 173 = .ok (.invokevirtual 312, 3) := by decide +kernel
theorem dX7_digest_176 : decode cX7_digest 176 = .ok (.i2l, 1) := by decide +kernel
theorem dX7_digest_177 : decode cX7_digest 177 = .ok (.ladd, 1) := by decide +kernel
theorem dX7_digest_178 : decode cX7_digest 178 = .ok (.lstore_n 1, 1) := by decide +kernel
theorem dX7_digest_179 : decode cX7_digest 179 = .ok (.iinc 3 1, 3) := by decide +kernel
theorem dX7_digest_182 : decode cX7_digest 182 = .ok (.goto (-21), 3) := by decide +kernel
theorem dX7_digest_185 : decode cX7_digest 185 = .ok (.ldc2_w 291, 3) := by decide +kernel
theorem dX7_digest_188 : decode cX7_digest 188 = .ok (.lload_n 1, 1) := by decide +kernel
theorem dX7_digest_189 : decode cX7_digest 189 = .ok (.lmul, 1) := by decide +kernel
theorem dX7_digest_190 : decode cX7_digest 190 = .ok (.aload_n 0, 1) := by decide +kernel
theorem dX7_digest_191 : decode cX7_digest 191 = .ok (.invokevirtual 315, 3) := by decide +kernel
theorem dX7_digest_194 : decode cX7_digest 194 = .ok (.i2l, 1) := by decide +kernel
theorem dX7_digest_195 : decode cX7_digest 195 = .ok (.ladd, 1) := by decide +kernel
theorem dX7_digest_196 : decode cX7_digest 196 = .ok (.lstore_n 1, 1) := by decide +kernel
theorem dX7_digest_197 : decode cX7_digest 197 = .ok (.ldc2_w 291, 3) := by decide +kernel
theorem dX7_digest_200 : decode cX7_digest 200 = .ok (.lload_n 1, 1) := by decide +kernel
theorem dX7_digest_201 : decode cX7_digest 201 = .ok (.lmul, 1) := by decide +kernel
theorem dX7_digest_202 : decode cX7_digest 202 = .ok (.aload_n 0, 1) := by decide +kernel
theorem dX7_digest_203 : decode cX7_digest 203 = .ok (.invokevirtual 318, 3) := by decide +kernel
theorem dX7_digest_206 : decode cX7_digest 206 = .ok (.i2l, 1) := by decide +kernel
theorem dX7_digest_207 : decode cX7_digest 207 = .ok (.ladd, 1) := by decide +kernel
theorem dX7_digest_208 : decode cX7_digest 208 = .ok (.lstore_n 1, 1) := by decide +kernel
theorem dX7_digest_209 : decode cX7_digest 209 = .ok (.aload_n 0, 1) := by decide +kernel
theorem dX7_digest_210 : decode cX7_digest 210 = .ok (.invokevirtual 209, 3) := by decide +kernel
theorem dX7_digest_213 : decode cX7_digest 213 = .ok (.aload_n 0, 1) := by decide +kernel
theorem dX7_digest_214 : decode cX7_digest 214 = .ok (.lload_n 1, 1) := by decide +kernel
theorem dX7_digest_215 : decode cX7_digest 215 = .ok (.invokevirtual 321, 3) := by decide +kernel
theorem dX7_digest_218 : decode cX7_digest 218 = .ok (.lstore_n 1, 1) := by decide +kernel
theorem dX7_digest_219 : decode cX7_digest 219 = .ok (.ldc2_w 291, 3) := by decide +kernel
theorem dX7_digest_222 : decode cX7_digest 222 = .ok (.lload_n 1, 1) := by decide +kernel
theorem dX7_digest_223 : decode cX7_digest 223 = .ok (.lmul, 1) := by decide +kernel
theorem dX7_digest_224 : decode cX7_digest 224 = .ok (.aload_n 0, 1) := by decide +kernel
theorem dX7_digest_225 : decode cX7_digest 225 = .ok (.iconst (-1), 1) := by decide +kernel
theorem dX7_digest_226 : decode cX7_digest 226 = .ok (.invokevirtual 325, 3) := by decide +kernel
theorem dX7_digest_229 : decode cX7_digest 229 = .ok (.i2l, 1) := by decide +kernel
theorem dX7_digest_230 : decode cX7_digest 230 = .ok (.ladd, 1) := by decide +kernel
theorem dX7_digest_231 : decode cX7_digest 231 = .ok (.lstore_n 1, 1) := by decide +kernel
theorem dX7_digest_232 : decode cX7_digest 232 = .ok (.ldc2_w 291, 3) := by decide +kernel
theorem dX7_digest_235 : decode cX7_digest 235 = .ok (.lload_n 1, 1) := by decide +kernel
theorem dX7_digest_236 : decode cX7_digest 236 = .ok (.lmul, 1) := by decide +kernel
theorem dX7_digest_237 : decode cX7_digest 237 = .ok (.aload_n 0, 1) := by decide +kernel
theorem dX7_digest_238 : decode cX7_digest 238 = .ok (.iconst 0, 1) := by decide +kernel
theorem dX7_digest_239 : decode cX7_digest 239 = .ok (.invokevirtual 325, 3) := by decide +kernel
theorem dX7_digest_242 : decode cX7_digest 242 = .ok (.i2l, 1) := by decide +kernel
theorem dX7_digest_243 : decode cX7_digest 243 = .ok (.ladd, 1) := by decide +kernel
theorem dX7_digest_244 : decode cX7_digest 244 = .ok (.lstore_n 1, 1) := by decide +kernel
theorem dX7_digest_245 : decode cX7_digest 245 = .ok (.ldc2_w 291, 3) := by decide +kernel
theorem dX7_digest_248 : decode cX7_digest 248 = .ok (.lload_n 1, 1) := by decide +kernel
theorem dX7_digest_249 : decode cX7_digest 249 = .ok (.lmul, 1) := by decide +kernel
theorem dX7_digest_250 : decode cX7_digest 250 = .ok (.aload_n 0, 1) := by decide +kernel
theorem dX7_digest_251 : decode cX7_digest 251 = .ok (.invokevirtual 328, 3) := by decide +kernel
theorem dX7_digest_254 : decode cX7_digest 254 = .ok (.i2l, 1) := by decide +kernel
theorem dX7_digest_255 : decode cX7_digest 255 = .ok (.ladd, 1) := by decide +kernel
theorem dX7_digest_256 : decode cX7_digest 256 = .ok (.lstore_n 1, 1) := by decide +kernel
theorem dX7_digest_257 : decode cX7_digest 257 = .ok (.ldc2_w 291, 3) := by decide +kernel
theorem dX7_digest_260 : decode cX7_digest 260 = .ok (.lload_n 1, 1) := by decide +kernel
theorem dX7_digest_261 : decode cX7_digest 261 = .ok (.lmul, 1) := by decide +kernel
theorem dX7_digest_262 : decode cX7_digest 262 = .ok (.aload_n 0, 1) := by decide +kernel
theorem dX7_digest_263 : decode cX7_digest 263 = .ok (.bipush 7, 2) := by decide +kernel
theorem dX7_digest_265 : decode cX7_digest 265 = .ok (.bipush 6, 2) := by decide +kernel
theorem dX7_digest_267 : decode cX7_digest 267 = .ok (.iconst 0, 1) := by decide +kernel
theorem dX7_digest_268 : decode cX7_digest 268 = .ok (.invokevirtual 331, 3) := by decide +kernel
theorem dX7_digest_271 : decode cX7_digest 271 = .ok (.i2l, 1) := by decide +kernel
theorem dX7_digest_272 : decode cX7_digest 272 = .ok (.ladd, 1) := by decide +kernel
theorem dX7_digest_273 : decode cX7_digest 273 = .ok (.lstore_n 1, 1) := by decide +kernel
theorem dX7_digest_274 : decode cX7_digest 274 = .ok (.ldc2_w 291, 3) := by decide +kernel
theorem dX7_digest_277 : decode cX7_digest 277 = .ok (.lload_n 1, 1) := by decide +kernel
theorem dX7_digest_278 : decode cX7_digest 278 = .ok (.lmul, 1) := by decide +kernel
theorem dX7_digest_279 : decode cX7_digest 279 = .ok (.aload_n 0, 1) := by decide +kernel
theorem dX7_digest_280 : decode cX7_digest 280 = .ok (.bipush 7, 2) := by decide +kernel
theorem dX7_digest_282 : decode cX7_digest 282 = .ok (.bipush 6, 2) := by decide +kernel
theorem dX7_digest_284 : decode cX7_digest 284 = .ok (.iconst 1, 1) := by decide +kernel
theorem dX7_digest_285 : decode cX7_digest 285 = .ok (.invokevirtual 331, 3) := by decide +kernel
theorem dX7_digest_288 : decode cX7_digest 288 = .ok (.i2l, 1) := by decide +kernel
theorem dX7_digest_289 : decode cX7_digest 289 = .ok (.ladd, 1) := by decide +kernel
theorem dX7_digest_290 : decode cX7_digest 290 = .ok (.lstore_n 1, 1) := by decide +kernel
theorem dX7_digest_291 : decode cX7_digest 291 = .ok (.lload_n 1, 1) := by decide +kernel
theorem dX7_digest_292 : decode cX7_digest 292 = .ok (.lreturn, 1) := by decide +kernel
set_option maxRecDepth 20000 in
theorem ggX7_digestMonths_X7_tenant : GoodIn wsX7_digestMonths wsX7_tenant := goodIn_r _ [6, 7, 8, 9, 10, 11, 12, 13, 5, 14, 15, 16, 17, 18, 152, 153, 154, 155, 156, 157, 158, 159, 160, 161, 162, 163, 164, 165, 166, 167, 168, 169, 170] (by decide +kernel) (by decide +kernel)
set_option maxRecDepth 20000 in
theorem gX7_digestMonths_X7_tenant : GoodIn wsX7_digestMonths (wsV RX7 334 RX7 yX7_tenant wsX7_tenant) := goodIn_app (goodIn_of _ (by decide +kernel)) ggX7_digestMonths_X7_tenant
set_option maxRecDepth 20000 in
theorem ggX7_digestMonths_X7_digestMonth : GoodIn wsX7_digestMonths wsX7_digestMonth := goodIn_r _ [22, 1, 23, 24, 25, 5, 26, 27, 28, 29, 30, 16, 17, 18, 11, 12, 13, 14, 7, 15, 31, 32, 33, 34, 35, 36, 37, 38, 39, 40, 41, 42, 43, 44, 45, 46, 47, 48, 49, 50, 51, 52, 53, 54, 55, 56, 57, 58, 59, 60, 61, 62, 63, 64, 65, 66, 67, 68, 69, 70, 71, 72, 73, 74, 75, 76, 77, 78, 79, 80, 81, 82, 83, 84, 85, 86, 87, 88, 89, 90, 91, 92, 93, 94, 95, 96, 97, 98, 99, 100, 101, 102, 103, 104, 105, 106, 107, 108, 109, 110, 111, 112, 113, 114, 115, 116, 117, 118, 119, 120, 121, 122, 123, 124, 125, 126, 127, 128, 129, 130, 131, 132, 133, 134, 135, 136, 137, 138, 139, 140, 152, 153, 154, 155, 156, 157, 158, 159, 160, 161, 162, 163, 164, 165, 166, 167, 168, 169, 170, 171, 172, 173, 174, 175, 176, 177, 178, 179, 180, 181, 182, 183, 184, 185, 186] (by decide +kernel) (by decide +kernel)
set_option maxRecDepth 20000 in
theorem gX7_digestMonths_X7_digestMonth : GoodIn wsX7_digestMonths (wsV RX7 337 RX7 yX7_digestMonth wsX7_digestMonth) := goodIn_app (goodIn_of _ (by decide +kernel)) ggX7_digestMonths_X7_digestMonth
set_option maxRecDepth 20000 in
theorem ggX7_digestMonths_X7_ends : GoodIn wsX7_digestMonths wsX7_ends := goodIn_r _ [144, 27, 145, 146, 147, 11, 12, 13, 5, 14, 7, 15, 16, 17, 18, 31, 32, 33, 34, 35, 36, 37, 38, 39, 40, 41, 42, 43, 44, 45, 46, 47, 48, 49, 50, 51, 52, 53, 54, 55, 56, 57, 58, 59, 60, 61, 62, 63, 64, 65, 66, 67, 68, 69, 70, 71, 72, 73, 74, 75, 76, 77, 78, 79, 80, 81, 82, 83, 84, 85, 86, 87, 88, 89, 90, 91, 92, 93, 94, 95, 96, 97, 98, 99, 100, 101, 102, 103, 104, 105, 106, 107, 108, 109, 110, 111, 112, 113, 114, 115, 116, 117, 118, 119, 148, 149, 150, 151, 132, 133, 134, 135, 121, 122, 123, 171, 172, 173, 174, 175, 176, 177, 178, 179, 180, 181, 182, 152, 153, 154, 155, 156, 157, 158, 159, 160, 161, 162, 163, 164, 165, 166, 167, 168, 169, 170, 183, 184, 185, 186] (by decide +kernel) (by decide +kernel)
set_option maxRecDepth 20000 in
theorem gX7_digestMonths_X7_ends : GoodIn wsX7_digestMonths (wsV RX7 341 RX7 yX7_ends wsX7_ends) := goodIn_app (goodIn_of _ (by decide +kernel)) ggX7_digestMonths_X7_ends
theorem dX7_digestMonths_0 : decode cX7_digestMonths 0 = .ok (.lload_n 1, 1) := by decide +kernel
theorem dX7_digestMonths_1 : decode cX7_digestMonths 1 = .ok (.lstore 4, 2) := by decide +kernel
theorem dX7_digestMonths_3 : decode cX7_digestMonths 3 = .ok (.iconst 0, 1) := by decide +kernel
theorem dX7_digestMonths_4 : decode cX7_digestMonths 4 = .ok (.istore 6, 2) := by decide +kernel
theorem dX7_digestMonths_6 : decode cX7_digestMonths 6 = .ok (.iload 6, 2) := by decide +kernel
theorem dX7_digestMonths_8 : decode cX7_digestMonths 8 = .ok (.iconst 2, 1) := by decide +kernel
theorem dX7_digestMonths_9 : decode cX7_digestMonths 9 = .ok (.if_icmp .gt 26, 3) := by decide +kernel
theorem dX7_digestMonths_12 : decode cX7_digestMonths 12 = .ok (.ldc2_w 291, 3) := by decide +kernel
theorem dX7_digestMonths_15 : decode cX7_digestMonths 15 = .ok (.lload 4, 2) := by decide +kernel
theorem dX7_digestMonths_17 : decode cX7_digestMonths 17 = .ok (.lmul, 1) := by decide +kernel
theorem dX7_digestMonths_18 : decode cX7_digestMonths 18 = .ok (.aload_n 0, 1) := by decide +kernel
theorem dX7_digestMonths_19 : decode cX7_digestMonths 19 = .ok (.iload_n 3, 1) := by decide +kernel
theorem dX7_digestMonths_20 : decode cX7_digestMonths 20 = .ok (.iload 6, 2) := by decide +kernel
theorem dX7_digestMonths_22 : decode cX7_digestMonths 22 = .ok (.invokevirtual 334, 3) := by decide +kernel
theorem dX7_digestMonths_25 : decode cX7_digestMonths 25 = .ok (.i2l, 1) := by decide +kernel
theorem dX7_digestMonths_26 : decode cX7_digestMonths 26 = .ok (.ladd, 1) := by decide +kernel
theorem dX7_digestMonths_27 : decode cX7_digestMonths 27 = .ok (.lstore 4, 2) := by decide +kernel
theorem dX7_digestMonths_29 : decode cX7_digestMonths 29 = .ok (.iinc 6 1, 3) := by decide +kernel
theorem dX7_digestMonths_32 : decode cX7_digestMonths 32 = .ok (.goto (-26), 3) := by decide +kernel
theorem dX7_digestMonths_35 : decode cX7_digestMonths 35 = .ok (.aload_n 0, 1) := by decide +kernel
theorem dX7_digestMonths_36 : decode cX7_digestMonths 36 = .ok (.lload 4, 2) := by decide +kernel
theorem dX7_digestMonths_38 : decode cX7_digestMonths 38 = .ok (.iconst 0, 1) := by decide +kernel
theorem dX7_digestMonths_39 : decode cX7_digestMonths 39 = .ok (.iload_n 3, 1) := by decide +kernel
theorem dX7_digestMonths_40 : decode cX7_digestMonths 40 = .ok (.invokevirtual 337, 3) := by decide +kernel
theorem dX7_digestMonths_43 : decode cX7_digestMonths 43 = .ok (.lstore 4, 2) := by decide +kernel
theorem dX7_digestMonths_45 : decode cX7_digestMonths 45 = .ok (.aload_n 0, 1) := by decide +kernel
theorem dX7_digestMonths_46 : decode cX7_digestMonths 46 = .ok (.lload 4, 2) := by decide +kernel
theorem dX7_digestMonths_48 : decode cX7_digestMonths 48 = .ok (.bipush 6, 2) := by decide +kernel
theorem dX7_digestMonths_50 : decode cX7_digestMonths 50 = .ok (.iload_n 3, 1) := by decide +kernel
theorem dX7_digestMonths_51 : decode cX7_digestMonths 51 = .ok (.invokevirtual 337, 3) := by decide +kernel
theorem dX7_digestMonths_54 : decode cX7_digestMonths 54 = .ok (.lstore 4, 2) := by decide +kernel
theorem dX7_digestMonths_56 : decode cX7_digestMonths 56 = .ok (.aload_n 0, 1) := by decide +kernel
theorem dX7_digestMonths_57 : decode cX7_digestMonths 57 = .ok (.lload 4, 2) := by decide +kernel
theorem dX7_digestMonths_59 : decode cX7_digestMonths 59 = .ok (.bipush 13, 2) := by decide +kernel
theorem dX7_digestMonths_61 : decode cX7_digestMonths 61 = .ok (.iload_n 3, 1) := by decide +kernel
theorem dX7_digestMonths_62 : decode cX7_digestMonths 62 = .ok (.invokevirtual 337, 3) := by decide +kernel
theorem dX7_digestMonths_65 : decode cX7_digestMonths 65 = .ok (.lstore 4, 2) := by decide +kernel
theorem dX7_digestMonths_67 : decode cX7_digestMonths 67 = .ok (.aload_n 0, 1) := by decide +kernel
theorem dX7_digestMonths_68 : decode cX7_digestMonths 68 = .ok (.lload 4, 2) := by decide +kernel
theorem dX7_digestMonths_70 : decode cX7_digestMonths 70 = .ok (.bipush 23, 2) := by decide +kernel
theorem dX7_digestMonths_72 : decode cX7_digestMonths 72 = .ok (.iload_n 3, 1) := by decide +kernel
theorem dX7_digestMonths_73 : decode cX7_digestMonths 73 = .ok (.invokevirtual 337, 3) := by decide +kernel
theorem dX7_digestMonths_76 : decode cX7_digestMonths 76 = .ok (.lstore 4, 2) := by decide +kernel
theorem dX7_digestMonths_78 : decode cX7_digestMonths 78 = .ok (.iconst 0, 1) := by decide +kernel
theorem dX7_digestMonths_79 : decode cX7_digestMonths 79 = .ok (.istore 6, 2) := by decide +kernel
theorem dX7_digestMonths_81 : decode cX7_digestMonths 81 = .ok (.iload 6, 2) := by decide +kernel
theorem dX7_digestMonths_83 : decode cX7_digestMonths 83 = .ok (.iconst 3, 1) := by decide +kernel
theorem dX7_digestMonths_84 : decode cX7_digestMonths 84 = .ok (.if_icmp .gt 26, 3) := by decide +kernel
theorem dX7_digestMonths_87 : decode cX7_digestMonths 87 = .ok (.ldc2_w 291, 3) := by decide +kernel
theorem dX7_digestMonths_90 : decode cX7_digestMonths 90 = .ok (.lload 4, 2) := by decide +kernel
theorem dX7_digestMonths_92 : decode cX7_digestMonths 92 = .ok (.lmul, 1) := by decide +kernel
theorem dX7_digestMonths_93 : decode cX7_digestMonths 93 = .ok (.aload_n 0, 1) := by decide +kernel
theorem dX7_digestMonths_94 : decode cX7_digestMonths 94 = .ok (.iload_n 3, 1) := by decide +kernel
theorem dX7_digestMonths_95 : decode cX7_digestMonths 95 = .ok (.iload 6, 2) := by decide +kernel
theorem dX7_digestMonths_97 : decode cX7_digestMonths 97 = .ok (.invokevirtual 341, 3) := by decide +kernel
theorem dX7_digestMonths_100 : decode cX7_digestMonths 100 = .ok (.i2l, 1) := by decide +kernel
theorem dX7_digestMonths_101 : decode cX7_digestMonths 101 = .ok (.ladd, 1) := by decide +kernel
theorem dX7_digestMonths_102 : decode cX7_digestMonths 102 = .ok (.lstore 4, 2) := by decide +kernel
theorem dX7_digestMonths_104 : decode cX7_digestMonths 104 = .ok (.iinc 6 1, 3) := by decide +kernel
theorem dX7_digestMonths_107 : decode cX7_digestMonths 107 = .ok (.goto (-26), 3) := by decide +kernel
theorem dX7_digestMonths_110 : decode cX7_digestMonths 110 = .ok (.lload 4, 2) := by decide +kernel
theorem dX7_digestMonths_112 : decode cX7_digestMonths 112 = .ok (.lreturn, 1) := by decide +kernel
set_option maxRecDepth 20000 in
theorem ggX7_digestMonth_X7_at : GoodIn wsX7_digestMonth wsX7_at := goodIn_r _ [6, 7, 8, 9, 5, 10, 11, 12, 13, 14, 15, 16, 17, 18, 19, 20, 21, 22, 23, 24, 25, 26, 27, 28, 29, 30, 31, 32, 33, 34, 35, 36, 37, 38, 39, 40, 41, 42, 43, 44, 45, 46, 47, 48, 49, 50, 51, 52, 53, 54, 55, 56, 57, 58, 59, 60, 61, 62, 63, 64, 65, 66, 67, 68, 69, 70, 71, 72, 73, 74, 75, 76, 77, 78, 79, 80, 81, 82, 83, 84, 85, 86, 87, 88, 89, 90, 91, 92, 93, 94, 95, 96, 97, 98, 99, 100, 101, 102, 103, 104, 105, 106, 107, 108, 109, 110, 111, 112, 113, 114, 115, 116, 117, 118, 119, 120, 121, 122, 123, 124, 125, 126, 127, 128, 129, 130, 131, 132, 133, 134, 135, 136, 137, 138, 139, 140, 141, 142, 143, 144, 145, 146, 147, 148, 149, 150, 151, 152, 153, 154, 155, 156, 157, 158, 159, 160, 161, 162, 163, 164] (by decide +kernel) (by decide +kernel)
set_option maxRecDepth 20000 in
theorem gX7_digestMonth_X7_at : GoodIn wsX7_digestMonth (wsV RX7 344 RX7 yX7_at wsX7_at) := goodIn_app (goodIn_of _ (by decide +kernel)) ggX7_digestMonth_X7_at
theorem dX7_digestMonth_0 : decode cX7_digestMonth 0 = .ok (.lload_n 1, 1) := by decide +kernel
theorem dX7_digestMonth_1 : decode cX7_digestMonth 1 = .ok (.lstore 5, 2) := by decide +kernel
theorem dX7_digestMonth_3 : decode cX7_digestMonth 3 = .ok (.iconst 0, 1) := by decide +kernel
theorem dX7_digestMonth_4 : decode cX7_digestMonth 4 = .ok (.istore 7, 2) := by decide +kernel
theorem dX7_digestMonth_6 : decode cX7_digestMonth 6 = .ok (.iload 7, 2) := by decide +kernel
theorem dX7_digestMonth_8 : decode cX7_digestMonth 8 = .ok (.iconst 3, 1) := by decide +kernel
theorem dX7_digestMonth_9 : decode cX7_digestMonth 9 = .ok (.if_icmp .gt 28, 3) := by decide +kernel
theorem dX7_digestMonth_12 : decode cX7_digestMonth 12 = .ok (.ldc2_w 291, 3) := by decide +kernel
theorem dX7_digestMonth_15 : decode cX7_digestMonth 15 = .ok (.lload 5, 2) := by decide +kernel
theorem dX7_digestMonth_17 : decode cX7_digestMonth 17 = .ok (.lmul, 1) := by decide +kernel
theorem dX7_digestMonth_18 : decode cX7_digestMonth 18 = .ok (.aload_n 0, 1) := by decide +kernel
theorem dX7_digestMonth_19 : decode cX7_digestMonth 19 = .ok (.iload_n 3, 1) := by decide +kernel
theorem dX7_digestMonth_20 : decode cX7_digestMonth 20 = .ok (.iload 4, 2) := by decide +kernel
theorem dX7_digestMonth_22 : decode cX7_digestMonth 22 = .ok (.iload 7, 2) := by decide +kernel
theorem dX7_digestMonth_24 : decode cX7_digestMonth 24 = .ok (.invokevirtual 344, 3) := by decide +kernel
theorem dX7_digestMonth_27 : decode cX7_digestMonth 27 = .ok (.i2l, 1) := by decide +kernel
theorem dX7_digestMonth_28 : decode cX7_digestMonth 28 = .ok (.ladd, 1) := by decide +kernel
theorem dX7_digestMonth_29 : decode cX7_digestMonth 29 = .ok (.lstore 5, 2) := by decide +kernel
theorem dX7_digestMonth_31 : decode cX7_digestMonth 31 = .ok (.iinc 7 1, 3) := by decide +kernel
theorem dX7_digestMonth_34 : decode cX7_digestMonth 34 = .ok (.goto (-28), 3) := by decide +kernel
theorem dX7_digestMonth_37 : decode cX7_digestMonth 37 = .ok (.lload 5, 2) := by decide +kernel
theorem dX7_digestMonth_39 : decode cX7_digestMonth 39 = .ok (.lreturn, 1) := by decide +kernel
set_option maxRecDepth 20000 in
theorem ggX7_digestPlans_X7_planWage : GoodIn wsX7_digestPlans wsX7_planWage := goodIn_r _ [6, 7, 8, 9, 10, 11, 12, 13, 14, 15, 16, 17, 18, 19, 20, 21, 22, 23, 24, 25, 26, 27, 28, 29, 30, 31, 32, 33, 34, 35, 36, 37, 38, 39, 40, 41, 42, 43, 44, 45, 46, 47, 48, 49, 50, 51, 52, 53, 54, 55, 56, 57, 58, 59, 60, 61, 62, 63, 64, 65, 66, 67, 68, 69, 70, 71, 72, 73, 74, 75, 76, 77, 78, 79, 80, 81, 82, 83, 84, 85, 86, 87, 88, 89, 90, 91, 92, 93, 94, 95, 96, 97, 98, 99, 100, 101, 102, 103, 104, 105, 106, 107, 108, 109, 110, 111, 112, 113, 114, 115, 116, 117, 118, 119, 120, 121, 122, 123, 124, 125, 126, 127, 128, 129, 130, 131, 132, 133, 134, 224, 225, 226, 227, 228, 229, 230, 231, 232, 233, 234, 235, 236, 237, 238, 239, 240, 241, 242, 243, 244, 245, 246, 247, 248, 249, 250, 251, 252, 253, 254, 255, 256, 257, 258, 259, 260, 261] (by decide +kernel) (by decide +kernel)
set_option maxRecDepth 20000 in
theorem gX7_digestPlans_X7_planWage : GoodIn wsX7_digestPlans (wsV RX7 199 RX7 yX7_planWage wsX7_planWage) := goodIn_app (goodIn_of _ (by decide +kernel)) ggX7_digestPlans_X7_planWage
set_option maxRecDepth 20000 in
theorem ggX7_digestPlans_X7_digestBest : GoodIn wsX7_digestPlans wsX7_digestBest := goodIn_r _ [138, 1, 7, 139, 140, 141, 17, 142, 19, 133, 134, 224, 225, 226, 227, 228, 229, 230, 231, 232, 233, 234, 235, 236, 237, 238, 243, 244, 245] (by decide +kernel) (by decide +kernel)
set_option maxRecDepth 20000 in
theorem gX7_digestPlans_X7_digestBest : GoodIn wsX7_digestPlans (wsV RX7 321 RX7 yX7_digestBest wsX7_digestBest) := goodIn_app (goodIn_of _ (by decide +kernel)) ggX7_digestPlans_X7_digestBest
set_option maxRecDepth 20000 in
theorem ggX7_digestPlans_X7_planSort : GoodIn wsX7_digestPlans wsX7_planSort := goodIn_r _ [146, 7, 8, 9, 147, 11, 12, 13, 14, 15, 16, 17, 18, 19, 20, 21, 22, 23, 24, 25, 26, 27, 28, 29, 30, 31, 32, 33, 34, 35, 36, 37, 38, 39, 40, 41, 42, 43, 44, 45, 46, 47, 48, 49, 50, 51, 52, 53, 54, 55, 56, 57, 58, 59, 60, 61, 62, 63, 64, 65, 66, 67, 68, 69, 70, 71, 72, 73, 74, 75, 76, 77, 78, 79, 80, 81, 82, 83, 84, 85, 86, 87, 88, 89, 90, 91, 92, 93, 94, 95, 96, 97, 98, 99, 100, 101, 102, 103, 104, 105, 106, 107, 108, 109, 110, 111, 112, 113, 114, 115, 116, 117, 118, 119, 120, 121, 122, 123, 124, 125, 126, 127, 128, 129, 130, 131, 132, 133, 134, 224, 225, 226, 227, 228, 229, 230, 231, 232, 233, 234, 235, 236, 237, 238, 239, 240, 241, 242, 243, 244, 245, 246, 247, 248, 249, 250, 251, 252, 253, 254, 255, 256, 257, 258, 259, 260, 261] (by decide +kernel) (by decide +kernel)
set_option maxRecDepth 20000 in
theorem gX7_digestPlans_X7_planSort : GoodIn wsX7_digestPlans (wsV RX7 206 RX7 yX7_planSort wsX7_planSort) := goodIn_app (goodIn_of _ (by decide +kernel)) ggX7_digestPlans_X7_planSort
set_option maxRecDepth 20000 in
theorem ggX7_digestPlans_X7_was : GoodIn wsX7_digestPlans wsX7_was := goodIn_r _ [151, 152, 153, 154, 5, 155, 9, 156, 157, 158, 159, 160, 161, 162, 163, 8, 10, 11, 12, 13, 164, 165, 20, 21, 22, 23, 24, 25, 26, 27, 28, 29, 30, 31, 32, 33, 34, 35, 36, 37, 38, 39, 40, 41, 42, 43, 44, 45, 46, 47, 48, 49, 50, 51, 52, 53, 54, 55, 56, 57, 58, 59, 60, 61, 62, 63, 64, 65, 66, 67, 68, 69, 70, 71, 72, 73, 74, 75, 76, 77, 78, 79, 80, 81, 82, 83, 84, 85, 86, 87, 88, 89, 90, 91, 92, 93, 94, 95, 96, 97, 98, 99, 100, 101, 102, 103, 104, 105, 106, 107, 108, 109, 166, 167, 168, 169, 170, 171, 172, 173, 174, 175, 176, 177, 178, 179, 180, 181, 182, 183, 184, 185, 186, 187, 188, 147, 224, 225, 226, 227, 228, 229, 230, 231, 232, 233, 234, 235, 236, 237, 238, 239, 240, 241, 242, 246, 247, 248, 249, 250, 251, 252, 253, 254, 255, 256, 257, 258, 259, 260, 261, 262, 263, 264, 265] (by decide +kernel) (by decide +kernel)
set_option maxRecDepth 20000 in
theorem gX7_digestPlans_X7_was : GoodIn wsX7_digestPlans (wsV RX7 347 RX7 yX7_was wsX7_was) := goodIn_app (goodIn_of _ (by decide +kernel)) ggX7_digestPlans_X7_was
set_option maxRecDepth 20000 in
theorem ggX7_digestPlans_X7_ask : GoodIn wsX7_digestPlans wsX7_ask := goodIn_r _ [192, 152, 153, 154, 5, 155, 9, 156, 160, 161, 162, 163, 8, 10, 11, 12, 13, 164, 165, 20, 21, 22, 23, 24, 25, 26, 27, 28, 29, 30, 31, 32, 33, 34, 35, 36, 37, 38, 39, 40, 41, 42, 43, 44, 45, 46, 47, 48, 49, 50, 51, 52, 53, 54, 55, 56, 57, 58, 59, 60, 61, 62, 63, 64, 65, 66, 67, 68, 69, 70, 71, 72, 73, 74, 75, 76, 77, 78, 79, 80, 81, 82, 83, 84, 85, 86, 87, 88, 89, 90, 91, 92, 93, 94, 95, 96, 97, 98, 99, 100, 101, 102, 103, 104, 105, 106, 107, 108, 109, 166, 167, 168, 169, 170, 171, 172, 173, 174, 175, 176, 177, 178, 179, 180, 181, 182, 183, 184, 193, 194, 195, 196, 197, 198, 199, 224, 225, 226, 227, 228, 229, 230, 231, 232, 233, 234, 235, 236, 237, 238, 239, 240, 241, 242, 246, 247, 248, 249, 250, 251, 252, 253, 254, 255, 256, 257, 258, 259, 260, 261, 262, 263, 264, 265] (by decide +kernel) (by decide +kernel)
set_option maxRecDepth 20000 in
theorem gX7_digestPlans_X7_ask : GoodIn wsX7_digestPlans (wsV RX7 350 RX7 yX7_ask wsX7_ask) := goodIn_app (goodIn_of _ (by decide +kernel)) ggX7_digestPlans_X7_ask
set_option maxRecDepth 20000 in
theorem ggX7_digestPlans_X7_chance : GoodIn wsX7_digestPlans wsX7_chance := goodIn_r _ [203, 204, 12, 205, 157, 158, 5, 159, 152, 153, 154, 155, 9, 156, 206, 207, 208, 209, 210, 211, 11, 13, 212, 84, 85, 86, 29, 30, 31, 32, 33, 34, 35, 36, 37, 38, 39, 40, 41, 42, 43, 44, 45, 46, 47, 48, 49, 50, 51, 52, 53, 54, 55, 56, 57, 58, 59, 60, 61, 62, 63, 64, 65, 66, 67, 68, 69, 70, 71, 72, 73, 74, 75, 76, 77, 78, 79, 80, 81, 82, 83, 87, 88, 89, 90, 91, 92, 93, 94, 95, 96, 97, 98, 99, 100, 101, 102, 103, 104, 105, 106, 107, 108, 109, 213, 115, 116, 117, 214, 215, 216, 217, 218, 219, 220, 221, 222, 223, 224, 225, 226, 227, 228, 229, 230, 231, 232, 233, 234, 235, 236, 237, 238, 258, 259, 260, 261, 239, 240, 241, 242, 246, 247, 248, 249, 250, 251, 252, 253, 254, 255, 256, 257] (by decide +kernel) (by decide +kernel)
set_option maxRecDepth 20000 in
theorem gX7_digestPlans_X7_chance : GoodIn wsX7_digestPlans (wsV RX7 353 RX7 yX7_chance wsX7_chance) := goodIn_app (goodIn_of _ (by decide +kernel)) ggX7_digestPlans_X7_chance
theorem dX7_digestPlans_0 : decode cX7_digestPlans 0 = .ok (.aload_n 0, 1) := by decide +kernel
theorem dX7_digestPlans_1 : decode cX7_digestPlans 1 = .ok (.iload_n 3, 1) := by decide +kernel
theorem dX7_digestPlans_2 : decode cX7_digestPlans 2 = .ok (.invokevirtual 199, 3) := by decide +kernel
theorem dX7_digestPlans_5 : decode cX7_digestPlans 5 = .ok (.aload_n 0, 1) := by decide +kernel
theorem dX7_digestPlans_6 : decode cX7_digestPlans 6 = .ok (.lload_n 1, 1) := by decide +kernel
theorem dX7_digestPlans_7 : decode cX7_digestPlans 7 = .ok (.invokevirtual 321, 3) := by decide +kernel
theorem dX7_digestPlans_10 : decode cX7_digestPlans 10 = .ok (.lstore 4, 2) := by decide +kernel
theorem dX7_digestPlans_12 : decode cX7_digestPlans 12 = .ok (.aload_n 0, 1) := by decide +kernel
theorem dX7_digestPlans_13 : decode cX7_digestPlans 13 = .ok (.iload_n 3, 1) := by decide +kernel
theorem dX7_digestPlans_14 : decode cX7_digestPlans 14 = .ok (.invokevirtual 206, 3) := by decide +kernel
theorem dX7_digestPlans_17 : decode cX7_digestPlans 17 = .ok (.aload_n 0, 1) := by decide +kernel
theorem dX7_digestPlans_18 : decode cX7_digestPlans 18 = .ok (.lload 4, 2) := by decide +kernel
theorem dX7_digestPlans_20 : decode cX7_digestPlans 20 = .ok (.invokevirtual 321, 3) := by decide +kernel
theorem dX7_digestPlans_23 : decode cX7_digestPlans 23 = .ok (.lstore 4, 2) := by decide +kernel
theorem dX7_digestPlans_25 : decode cX7_digestPlans 25 = .ok (.ldc2_w 291, 3) := by decide +kernel
theorem dX7_digestPlans_28 : decode cX7_digestPlans 28 = .ok (.lload 4, 2) := by decide +kernel
theorem dX7_digestPlans_30 : decode cX7_digestPlans 30 = .ok (.lmul, 1) := by decide +kernel
theorem dX7_digestPlans_31 : decode cX7_digestPlans 31 = .ok (.aload_n 0, 1) := by decide +kernel
theorem dX7_digestPlans_32 : decode cX7_digestPlans 32 = .ok (.iload_n 3, 1) := by decide +kernel
theorem dX7_digestPlans_33 : decode cX7_digestPlans 33 = .ok (.iconst 0, 1) := by decide +kernel
theorem dX7_digestPlans_34 : decode cX7_digestPlans 34 = .ok (.invokevirtual 347, 3) := by decide +kernel
theorem dX7_digestPlans_37 : decode cX7_digestPlans 37 = .ok (.i2l, 1) := by decide +kernel
theorem dX7_digestPlans_38 : decode cX7_digestPlans 38 = .ok (.ladd, 1) := by decide +kernel
theorem dX7_digestPlans_39 : decode cX7_digestPlans 39 = .ok (.lstore 4, 2) := by decide +kernel
theorem dX7_digestPlans_41 : decode cX7_digestPlans 41 = .ok (.ldc2_w 291, 3) := by decide +kernel
theorem dX7_digestPlans_44 : decode cX7_digestPlans 44 = .ok (.lload 4, 2) := by decide +kernel
theorem dX7_digestPlans_46 : decode cX7_digestPlans 46 = .ok (.lmul, 1) := by decide +kernel
theorem dX7_digestPlans_47 : decode cX7_digestPlans 47 = .ok (.aload_n 0, 1) := by decide +kernel
theorem dX7_digestPlans_48 : decode cX7_digestPlans 48 = .ok (.iload_n 3, 1) := by decide +kernel
theorem dX7_digestPlans_49 : decode cX7_digestPlans 49 = .ok (.iconst 1, 1) := by decide +kernel
theorem dX7_digestPlans_50 : decode cX7_digestPlans 50 = .ok (.invokevirtual 347, 3) := by decide +kernel
theorem dX7_digestPlans_53 : decode cX7_digestPlans 53 = .ok (.i2l, 1) := by decide +kernel
theorem dX7_digestPlans_54 : decode cX7_digestPlans 54 = .ok (.ladd, 1) := by decide +kernel
theorem dX7_digestPlans_55 : decode cX7_digestPlans 55 = .ok (.lstore 4, 2) := by decide +kernel
theorem dX7_digestPlans_57 : decode cX7_digestPlans 57 = .ok (.ldc2_w 291, 3) := by decide +kernel
theorem dX7_digestPlans_60 : decode cX7_digestPlans 60 = .ok (.lload 4, 2) := by decide +kernel
theorem dX7_digestPlans_62 : decode cX7_digestPlans 62 = .ok (.lmul, 1) := by decide +kernel
theorem dX7_digestPlans_63 : decode cX7_digestPlans 63 = .ok (.aload_n 0, 1) := by decide +kernel
theorem dX7_digestPlans_64 : decode cX7_digestPlans 64 = .ok (.iload_n 3, 1) := by decide +kernel
theorem dX7_digestPlans_65 : decode cX7_digestPlans 65 = .ok (.invokevirtual 350, 3) := by decide +kernel
theorem dX7_digestPlans_68 : decode cX7_digestPlans 68 = .ok (.i2l, 1) := by decide +kernel
theorem dX7_digestPlans_69 : decode cX7_digestPlans 69 = .ok (.ladd, 1) := by decide +kernel
theorem dX7_digestPlans_70 : decode cX7_digestPlans 70 = .ok (.lstore 4, 2) := by decide +kernel
theorem dX7_digestPlans_72 : decode cX7_digestPlans 72 = .ok (.ldc2_w 291, 3) := by decide +kernel
theorem dX7_digestPlans_75 : decode cX7_digestPlans 75 = .ok (.lload 4, 2) := by decide +kernel
theorem dX7_digestPlans_77 : decode cX7_digestPlans 77 = .ok (.lmul, 1) := by decide +kernel
theorem dX7_digestPlans_78 : decode cX7_digestPlans 78 = .ok (.aload_n 0, 1) := by decide +kernel
theorem dX7_digestPlans_79 : decode cX7_digestPlans 79 = .ok (.iconst 5, 1) := by decide +kernel
theorem dX7_digestPlans_80 : decode cX7_digestPlans 80 = .ok (.iload_n 3, 1) := by decide +kernel
theorem dX7_digestPlans_81 : decode cX7_digestPlans 81 = .ok (.iconst 0, 1) := by decide +kernel
theorem dX7_digestPlans_82 : decode cX7_digestPlans 82 = .ok (.invokevirtual 353, 3) := by decide +kernel
theorem dX7_digestPlans_85 : decode cX7_digestPlans 85 = .ok (.ladd, 1) := by decide +kernel
theorem dX7_digestPlans_86 : decode cX7_digestPlans 86 = .ok (.lstore 4, 2) := by decide +kernel
theorem dX7_digestPlans_88 : decode cX7_digestPlans 88 = .ok (.ldc2_w 291, 3) := by decide +kernel
theorem dX7_digestPlans_91 : decode cX7_digestPlans 91 = .ok (.lload 4, 2) := by decide +kernel
theorem dX7_digestPlans_93 : decode cX7_digestPlans 93 = .ok (.lmul, 1) := by decide +kernel
theorem dX7_digestPlans_94 : decode cX7_digestPlans 94 = .ok (.aload_n 0, 1) := by decide +kernel
theorem dX7_digestPlans_95 : decode cX7_digestPlans 95 = .ok (.iconst 5, 1) := by decide +kernel
theorem dX7_digestPlans_96 : decode cX7_digestPlans 96 = .ok (.iload_n 3, 1) := by decide +kernel
theorem dX7_digestPlans_97 : decode cX7_digestPlans 97 = .ok (.iconst 1, 1) := by decide +kernel
theorem dX7_digestPlans_98 : decode cX7_digestPlans 98 = .ok (.invokevirtual 353, 3) := by decide +kernel
theorem dX7_digestPlans_101 : decode cX7_digestPlans 101 = .ok (.ladd, 1) := by decide +kernel
theorem dX7_digestPlans_102 : decode cX7_digestPlans 102 = .ok (.lstore 4, 2) := by decide +kernel
theorem dX7_digestPlans_104 : decode cX7_digestPlans 104 = .ok (.lload 4, 2) := by decide +kernel
theorem dX7_digestPlans_106 : decode cX7_digestPlans 106 = .ok (.lreturn, 1) := by decide +kernel
set_option maxRecDepth 20000 in
theorem ggX7_digestBest_X0_part : GoodIn wsX7_digestBest wsX0_part := goodIn_r _ [7, 8, 9, 10, 26, 27, 28] (by decide +kernel) (by decide +kernel)
set_option maxRecDepth 20000 in
theorem gX7_digestBest_X0_part : GoodIn wsX7_digestBest (wsV RX7 203 RX0 yX0_part wsX0_part) := goodIn_app (goodIn_of _ (by decide +kernel)) ggX7_digestBest_X0_part
theorem dX7_digestBest_0 : decode cX7_digestBest 0 = .ok (.lload_n 1, 1) := by decide +kernel
theorem dX7_digestBest_1 : decode cX7_digestBest 1 = .ok (.lstore_n 3, 1) := by decide +kernel
theorem dX7_digestBest_2 : decode cX7_digestBest 2 = .ok (.iconst 0, 1) := by decide +kernel
theorem dX7_digestBest_3 : decode cX7_digestBest 3 = .ok (.istore 5, 2) := by decide +kernel
theorem dX7_digestBest_5 : decode cX7_digestBest 5 = .ok (.iload 5, 2) := by decide +kernel
theorem dX7_digestBest_7 : decode cX7_digestBest 7 = .ok (.iconst 2, 1) := by decide +kernel
theorem dX7_digestBest_8 : decode cX7_digestBest 8 = .ok (.if_icmp .gt 26, 3) := by decide +kernel
theorem dX7_digestBest_11 : decode cX7_digestBest 11 = .ok (.ldc2_w 291, 3) := by decide +kernel
theorem dX7_digestBest_14 : decode cX7_digestBest 14 = .ok (.lload_n 3, 1) := by decide +kernel
theorem dX7_digestBest_15 : decode cX7_digestBest 15 = .ok (.lmul, 1) := by decide +kernel
theorem dX7_digestBest_16 : decode cX7_digestBest 16 = .ok (.aload_n 0, 1) := by decide +kernel
theorem dX7_digestBest_17 : decode cX7_digestBest 17 = .ok (.getfield 53, 3) := by decide +kernel
theorem dX7_digestBest_20 : decode cX7_digestBest 20 = .ok (.iload 5, 2) := by decide +kernel
theorem dX7_digestBest_22 : decode cX7_digestBest 22 = .ok (.invokevirtual 203, 3) := by decide +kernel
theorem dX7_digestBest_25 : decode cX7_digestBest 25 = .ok (.i2l, 1) := by decide +kernel
theorem dX7_digestBest_26 : decode cX7_digestBest 26 = .ok (.ladd, 1) := by decide +kernel
theorem dX7_digestBest_27 : decode cX7_digestBest 27 = .ok (.lstore_n 3, 1) := by decide +kernel
theorem dX7_digestBest_28 : decode cX7_digestBest 28 = .ok (.iinc 5 1, 3) := by decide +kernel
theorem dX7_digestBest_31 : decode cX7_digestBest 31 = .ok (.goto (-26), 3) := by decide +kernel
theorem dX7_digestBest_34 : decode cX7_digestBest 34 = .ok (.lload_n 3, 1) := by decide +kernel
theorem dX7_digestBest_35 : decode cX7_digestBest 35 = .ok (.lreturn, 1) := by decide +kernel
theorem dX7_within_0 : decode cX7_within 0 = .ok (.iload_n 0, 1) := by decide +kernel
theorem dX7_within_1 : decode cX7_within 1 = .ok (.iload_n 1, 1) := by decide +kernel
theorem dX7_within_2 : decode cX7_within 2 = .ok (.if_icmp .lt 12, 3) := by decide +kernel
theorem dX7_within_5 : decode cX7_within 5 = .ok (.iload_n 0, 1) := by decide +kernel
theorem dX7_within_6 : decode cX7_within 6 = .ok (.iload_n 2, 1) := by decide +kernel
theorem dX7_within_7 : decode cX7_within 7 = .ok (.if_icmp .gt 7, 3) := by decide +kernel
theorem dX7_within_10 : decode cX7_within 10 = .ok (.iconst 1, 1) := by decide +kernel
theorem dX7_within_11 : decode cX7_within 11 = .ok (.goto 4, 3) := by decide +kernel
theorem dX7_within_14 : decode cX7_within 14 = .ok (.iconst 0, 1) := by decide +kernel
theorem dX7_within_15 : decode cX7_within 15 = .ok (.ireturn, 1) := by decide +kernel
set_option maxRecDepth 20000 in
theorem ggX7_isMonth_X7_within : GoodIn wsX7_isMonth wsX7_within := goodIn_r _ [4] (by decide +kernel) (by decide +kernel)
set_option maxRecDepth 20000 in
theorem gX7_isMonth_X7_within : GoodIn wsX7_isMonth (va_wsS RX7 85 yX7_within wsX7_within) := goodIn_app (goodIn_of _ (by decide +kernel)) ggX7_isMonth_X7_within
theorem dX7_isMonth_0 : decode cX7_isMonth 0 = .ok (.iload_n 0, 1) := by decide +kernel
theorem dX7_isMonth_1 : decode cX7_isMonth 1 = .ok (.iconst 0, 1) := by decide +kernel
theorem dX7_isMonth_2 : decode cX7_isMonth 2 = .ok (.bipush 23, 2) := by decide +kernel
theorem dX7_isMonth_4 : decode cX7_isMonth 4 = .ok (.invokestatic 85, 3) := by decide +kernel
theorem dX7_isMonth_7 : decode cX7_isMonth 7 = .ok (.ireturn, 1) := by decide +kernel
theorem dX7_isTenant_0 : decode cX7_isTenant 0 = .ok (.iload_n 1, 1) := by decide +kernel
theorem dX7_isTenant_1 : decode cX7_isTenant 1 = .ok (.ifCond .lt 18, 3) := by decide +kernel
theorem dX7_isTenant_4 : decode cX7_isTenant 4 = .ok (.iload_n 1, 1) := by decide +kernel
theorem dX7_isTenant_5 : decode cX7_isTenant 5 = .ok (.aload_n 0, 1) := by decide +kernel
theorem dX7_isTenant_6 : decode cX7_isTenant 6 = .ok (.getfield 19, 3) := by decide +kernel
theorem dX7_isTenant_9 : decode cX7_isTenant 9 = .ok (.getfield 285, 3) := by decide +kernel
theorem dX7_isTenant_12 : decode cX7_isTenant 12 = .ok (.if_icmp .ge 7, 3) := by decide +kernel
theorem dX7_isTenant_15 : decode cX7_isTenant 15 = .ok (.iconst 1, 1) := by decide +kernel
theorem dX7_isTenant_16 : decode cX7_isTenant 16 = .ok (.goto 4, 3) := by decide +kernel
theorem dX7_isTenant_19 : decode cX7_isTenant 19 = .ok (.iconst 0, 1) := by decide +kernel
theorem dX7_isTenant_20 : decode cX7_isTenant 20 = .ok (.ireturn, 1) := by decide +kernel
theorem dX7_found_0 : decode cX7_found 0 = .ok (.aload_n 0, 1) := by decide +kernel
theorem dX7_found_1 : decode cX7_found 1 = .ok (.iload_n 1, 1) := by decide +kernel
theorem dX7_found_2 : decode cX7_found 2 = .ok (.putfield 74, 3) := by decide +kernel
theorem dX7_found_5 : decode cX7_found 5 = .ok (.bipush (-10), 2) := by decide +kernel
theorem dX7_found_7 : decode cX7_found 7 = .ok (.iload_n 1, 1) := by decide +kernel
theorem dX7_found_8 : decode cX7_found 8 = .ok (.isub, 1) := by decide +kernel
theorem dX7_found_9 : decode cX7_found 9 = .ok (.ireturn, 1) := by decide +kernel
set_option maxRecDepth 20000 in
theorem ggX7_textChanged_X5_takeFrom : GoodIn wsX7_textChanged wsX5_takeFrom := goodIn_r _ [7, 8, 9, 10, 11, 12, 13, 14, 15, 16, 17, 18, 19, 20, 21, 22, 23, 24, 25, 26, 27, 50, 51, 52, 53, 54, 55] (by decide +kernel) (by decide +kernel)
set_option maxRecDepth 20000 in
theorem gX7_textChanged_X5_takeFrom : GoodIn wsX7_textChanged (wsV RX7 357 RX5 yX5_takeFrom wsX5_takeFrom) := goodIn_app (goodIn_of _ (by decide +kernel)) ggX7_textChanged_X5_takeFrom
set_option maxRecDepth 20000 in
theorem ggX7_textChanged_X7_houseChanged : GoodIn wsX7_textChanged wsX7_houseChanged := goodIn_r _ [32, 33, 34, 35, 36, 37, 38, 39, 40, 41, 42, 43, 44, 45, 46, 47, 48, 49] (by decide +kernel) (by decide +kernel)
set_option maxRecDepth 20000 in
theorem gX7_textChanged_X7_houseChanged : GoodIn wsX7_textChanged (wsV RX7 115 RX7 yX7_houseChanged wsX7_houseChanged) := goodIn_app (goodIn_of _ (by decide +kernel)) ggX7_textChanged_X7_houseChanged
theorem dX7_textChanged_0 : decode cX7_textChanged 0 = .ok (.aload_n 0, 1) := by decide +kernel
theorem dX7_textChanged_1 : decode cX7_textChanged 1 = .ok (.getfield 19, 3) := by decide +kernel
theorem dX7_textChanged_4 : decode cX7_textChanged 4 = .ok (.aload_n 0, 1) := by decide +kernel
theorem dX7_textChanged_5 : decode cX7_textChanged 5 = .ok (.getfield 12, 3) := by decide +kernel
theorem dX7_textChanged_8 : decode cX7_textChanged 8 = .ok (.invokevirtual 357, 3) := by decide +kernel
theorem dX7_textChanged_11 : decode cX7_textChanged 11 = .ok (.aload_n 0, 1) := by decide +kernel
theorem dX7_textChanged_12 : decode cX7_textChanged 12 = .ok (.invokevirtual 115, 3) := by decide +kernel
theorem dX7_textChanged_15 : decode cX7_textChanged 15 = .ok (.return_, 1) := by decide +kernel
theorem dX7_houseChanged_0 : decode cX7_houseChanged 0 = .ok (.aload_n 0, 1) := by decide +kernel
theorem dX7_houseChanged_1 : decode cX7_houseChanged 1 = .ok (.iconst 0, 1) := by decide +kernel
theorem dX7_houseChanged_2 : decode cX7_houseChanged 2 = .ok (.putfield 77, 3) := by decide +kernel
theorem dX7_houseChanged_5 : decode cX7_houseChanged 5 = .ok (.aload_n 0, 1) := by decide +kernel
theorem dX7_houseChanged_6 : decode cX7_houseChanged 6 = .ok (.iconst 0, 1) := by decide +kernel
theorem dX7_houseChanged_7 : decode cX7_houseChanged 7 = .ok (.putfield 81, 3) := by decide +kernel
theorem dX7_houseChanged_10 : decode cX7_houseChanged 10 = .ok (.return_, 1) := by decide +kernel
set_option maxRecDepth 20000 in
theorem ggX7_courseTold_X1_run : GoodIn wsX7_courseTold wsX1_run := goodIn_r _ [10, 11, 12, 13, 14, 15, 16, 17, 18, 9, 19, 20, 21, 22, 23, 24, 25, 26, 27, 28, 29, 30, 31, 32, 33, 34, 35, 36, 37, 38, 39, 40, 41, 42, 43, 44, 45, 46, 47, 48, 49, 50, 51, 52, 53, 54, 55, 56, 57, 58, 59, 60, 61, 62, 63, 64, 65, 66, 67, 68, 69, 70, 71, 72, 73, 74, 75, 76, 77, 78, 79, 80, 81, 82, 83, 84, 85, 86, 102, 103, 104, 105, 106, 107, 108, 109, 110, 111, 112, 113, 114, 115, 116, 117, 118, 119, 120, 121] (by decide +kernel) (by decide +kernel)
set_option maxRecDepth 20000 in
theorem gX7_courseTold_X1_run : GoodIn wsX7_courseTold (wsV RX7 225 RX1 yX1_run wsX1_run) := goodIn_app (goodIn_of _ (by decide +kernel)) ggX7_courseTold_X1_run
theorem dX7_courseTold_0 : decode cX7_courseTold 0 = .ok (.aload_n 0, 1) := by decide +kernel
theorem dX7_courseTold_1 : decode cX7_courseTold 1 = .ok (.getfield 77, 3) := by decide +kernel
theorem dX7_courseTold_4 : decode cX7_courseTold 4 = .ok (.ifCond .ne 30, 3) := by decide +kernel
theorem dX7_courseTold_7 : decode cX7_courseTold 7 = .ok (.aload_n 0, 1) := by decide +kernel
theorem dX7_courseTold_8 : decode cX7_courseTold 8 = .ok (.getfield 43, 3) := by decide +kernel
theorem dX7_courseTold_11 : decode cX7_courseTold 11 = .ok (.aload_n 0, 1) := by decide +kernel
theorem dX7_courseTold_12 : decode cX7_courseTold 12 = .ok (.getfield 19, 3) := by decide +kernel
theorem dX7_courseTold_15 : decode cX7_courseTold 15 = .ok (.aload_n 0, 1) := by decide +kernel
theorem dX7_courseTold_16 : decode cX7_courseTold 16 = .ok (.getfield 29, 3) := by decide +kernel
theorem dX7_courseTold_19 : decode cX7_courseTold 19 = .ok (.sipush 255, 3) := by decide +kernel
theorem dX7_courseTold_22 : decode cX7_courseTold 22 = .ok (.aload_n 0, 1) := by decide +kernel
theorem dX7_courseTold_23 : decode cX7_courseTold 23 = .ok (.getfield 70, 3) := by decide +kernel
theorem dX7_courseTold_26 : decode cX7_courseTold 26 = .ok (.invokevirtual 225, 3) := by decide +kernel
theorem dX7_courseTold_29 : decode cX7_courseTold 29 = .ok (.aload_n 0, 1) := by decide +kernel
theorem dX7_courseTold_30 : decode cX7_courseTold 30 = .ok (.iconst 1, 1) := by decide +kernel
theorem dX7_courseTold_31 : decode cX7_courseTold 31 = .ok (.putfield 77, 3) := by decide +kernel
theorem dX7_courseTold_34 : decode cX7_courseTold 34 = .ok (.aload_n 0, 1) := by decide +kernel
theorem dX7_courseTold_35 : decode cX7_courseTold 35 = .ok (.getfield 43, 3) := by decide +kernel
theorem dX7_courseTold_38 : decode cX7_courseTold 38 = .ok (.areturn, 1) := by decide +kernel
set_option maxRecDepth 20000 in
theorem ggX7_planWage_X0_clear : GoodIn wsX7_planWage wsX0_clear := goodIn_r _ [12, 13, 148, 149, 150] (by decide +kernel) (by decide +kernel)
set_option maxRecDepth 20000 in
theorem gX7_planWage_X0_clear : GoodIn wsX7_planWage (wsV RX7 361 RX0 yX0_clear wsX0_clear) := goodIn_app (goodIn_of _ (by decide +kernel)) ggX7_planWage_X0_clear
set_option maxRecDepth 20000 in
theorem ggX7_planWage_X5_copyOf : GoodIn wsX7_planWage wsX5_copyOf := goodIn_r _ [18, 19, 20, 21, 22, 144, 145, 146, 147] (by decide +kernel) (by decide +kernel)
set_option maxRecDepth 20000 in
theorem gX7_planWage_X5_copyOf : GoodIn wsX7_planWage (wsV RX7 364 RX5 yX5_copyOf wsX5_copyOf) := goodIn_app (goodIn_of _ (by decide +kernel)) ggX7_planWage_X5_copyOf
set_option maxRecDepth 20000 in
theorem ggX7_planWage_X1_run : GoodIn wsX7_planWage wsX1_run := goodIn_r _ [27, 28, 29, 30, 31, 32, 33, 34, 35, 26, 36, 37, 38, 39, 40, 41, 42, 43, 44, 45, 46, 47, 48, 49, 50, 51, 52, 53, 54, 55, 56, 57, 58, 59, 60, 61, 62, 63, 64, 65, 66, 67, 68, 69, 70, 71, 72, 73, 74, 75, 76, 77, 78, 79, 80, 81, 82, 83, 84, 85, 86, 87, 88, 89, 90, 91, 92, 93, 94, 95, 96, 97, 98, 99, 100, 101, 102, 103, 151, 152, 153, 154, 155, 156, 157, 158, 159, 160, 161, 162, 144, 145, 146, 147, 163, 164, 165, 166] (by decide +kernel) (by decide +kernel)
set_option maxRecDepth 20000 in
theorem gX7_planWage_X1_run : GoodIn wsX7_planWage (wsV RX7 225 RX1 yX1_run wsX1_run) := goodIn_app (goodIn_of _ (by decide +kernel)) ggX7_planWage_X1_run
set_option maxRecDepth 20000 in
theorem ggX7_planWage_X1_settledInAll : GoodIn wsX7_planWage wsX1_settledInAll := goodIn_r _ [107, 108, 109, 110, 26, 111, 28, 38, 112, 113, 114, 115, 116, 117, 118, 151, 152, 153, 154, 155, 156, 157, 158, 159, 160, 161, 162] (by decide +kernel) (by decide +kernel)
set_option maxRecDepth 20000 in
theorem gX7_planWage_X1_settledInAll : GoodIn wsX7_planWage (wsV RX7 181 RX1 yX1_settledInAll wsX1_settledInAll) := goodIn_app (goodIn_of _ (by decide +kernel)) ggX7_planWage_X1_settledInAll
set_option maxRecDepth 20000 in
theorem ggX7_planWage_X1_fallsInAll : GoodIn wsX7_planWage wsX1_fallsInAll := goodIn_r _ [122, 28, 39, 151, 152, 153, 154, 155, 156, 157, 158, 159, 160, 161, 162] (by decide +kernel) (by decide +kernel)
set_option maxRecDepth 20000 in
theorem gX7_planWage_X1_fallsInAll : GoodIn wsX7_planWage (wsV RX7 184 RX1 yX1_fallsInAll wsX1_fallsInAll) := goodIn_app (goodIn_of _ (by decide +kernel)) ggX7_planWage_X1_fallsInAll
set_option maxRecDepth 20000 in
theorem ggX7_planWage_X0_offer : GoodIn wsX7_planWage wsX0_offer := goodIn_r _ [126, 13, 127, 128, 148, 149, 150] (by decide +kernel) (by decide +kernel)
set_option maxRecDepth 20000 in
theorem gX7_planWage_X0_offer : GoodIn wsX7_planWage (wsV RX7 368 RX0 yX0_offer wsX0_offer) := goodIn_app (goodIn_of _ (by decide +kernel)) ggX7_planWage_X0_offer
theorem dX7_planWage_0 : decode cX7_planWage 0 = .ok (.aload_n 0, 1) := by decide +kernel
theorem dX7_planWage_1 : decode cX7_planWage 1 = .ok (.getfield 53, 3) := by decide +kernel
theorem dX7_planWage_4 : decode cX7_planWage 4 = .ok (.invokevirtual 361, 3) := by decide +kernel
theorem dX7_planWage_7 : decode cX7_planWage 7 = .ok (.aload_n 0, 1) := by decide +kernel
theorem dX7_planWage_8 : decode cX7_planWage 8 = .ok (.getfield 23, 3) := by decide +kernel
theorem dX7_planWage_11 : decode cX7_planWage 11 = .ok (.aload_n 0, 1) := by decide +kernel
theorem dX7_planWage_12 : decode cX7_planWage 12 = .ok (.getfield 19, 3) := by decide +kernel
theorem dX7_planWage_15 : decode cX7_planWage 15 = .ok (.invokevirtual 364, 3) := by decide +kernel
theorem dX7_planWage_18 : decode cX7_planWage 18 = .ok (.iconst 0, 1) := by decide +kernel
theorem dX7_planWage_19 : decode cX7_planWage 19 = .ok (.istore_n 2, 1) := by decide +kernel
theorem dX7_planWage_20 : decode cX7_planWage 20 = .ok (.iload_n 2, 1) := by decide +kernel
theorem dX7_planWage_21 : decode cX7_planWage 21 = .ok (.bipush 10, 2) := by decide +kernel
theorem dX7_planWage_23 : decode cX7_planWage 23 = .ok (.if_icmp .ge 63, 3) := by decide +kernel
theorem dX7_planWage_26 : decode cX7_planWage 26 = .ok (.aload_n 0, 1) := by decide +kernel
theorem dX7_planWage_27 : decode cX7_planWage 27 = .ok (.getfield 23, 3) := by decide +kernel
theorem dX7_planWage_30 : decode cX7_planWage 30 = .ok (.getfield 112, 3) := by decide +kernel
theorem dX7_planWage_33 : decode cX7_planWage 33 = .ok (.iload_n 1, 1) := by decide +kernel
theorem dX7_planWage_34 : decode cX7_planWage 34 = .ok (.iload_n 2, 1) := by decide +kernel
theorem dX7_planWage_35 : decode cX7_planWage 35 = .ok (.iastore, 1) := by decide +kernel
theorem dX7_planWage_36 : decode cX7_planWage 36 = .ok (.aload_n 0, 1) := by decide +kernel
theorem dX7_planWage_37 : decode cX7_planWage 37 = .ok (.getfield 47, 3) := by decide +kernel
theorem dX7_planWage_40 : decode cX7_planWage 40 = .ok (.aload_n 0, 1) := by decide +kernel
theorem dX7_planWage_41 : decode cX7_planWage 41 = .ok (.getfield 23, 3) := by decide +kernel
theorem dX7_planWage_44 : decode cX7_planWage 44 = .ok (.aload_n 0, 1) := by decide +kernel
theorem dX7_planWage_45 : decode cX7_planWage 45 = .ok (.getfield 29, 3) := by decide +kernel
theorem dX7_planWage_48 : decode cX7_planWage 48 = .ok (.sipush 255, 3) := by decide +kernel
theorem dX7_planWage_51 : decode cX7_planWage 51 = .ok (.aload_n 0, 1) := by decide +kernel
theorem dX7_planWage_52 : decode cX7_planWage 52 = .ok (.getfield 70, 3) := by decide +kernel
theorem dX7_planWage_55 : decode cX7_planWage 55 = .ok (.invokevirtual 225, 3) := by decide +kernel
theorem dX7_planWage_58 : decode cX7_planWage 58 = .ok (.aload_n 0, 1) := by decide +kernel
theorem dX7_planWage_59 : decode cX7_planWage 59 = .ok (.getfield 53, 3) := by decide +kernel
theorem dX7_planWage_62 : decode cX7_planWage 62 = .ok (.iload_n 2, 1) := by decide +kernel
theorem dX7_planWage_63 : decode cX7_planWage 63 = .ok (.aload_n 0, 1) := by decide +kernel
theorem dX7_planWage_64 : decode cX7_planWage 64 = .ok (.getfield 47, 3) := by decide +kernel
theorem dX7_planWage_67 : decode cX7_planWage 67 = .ok (.invokevirtual 181, 3) := by decide +kernel
theorem dX7_planWage_70 : decode cX7_planWage 70 = .ok (.aload_n 0, 1) := by decide +kernel
theorem dX7_planWage_71 : decode cX7_planWage 71 = .ok (.getfield 47, 3) := by decide +kernel
theorem dX7_planWage_74 : decode cX7_planWage 74 = .ok (.invokevirtual 184, 3) := by decide +kernel
theorem dX7_planWage_77 : decode cX7_planWage 77 = .ok (.invokevirtual 368, 3) := by decide +kernel
theorem dX7_planWage_80 : decode cX7_planWage 80 = .ok (.iinc 2 1, 3) := by decide +kernel
theorem dX7_planWage_83 : decode cX7_planWage 83 = .ok (.goto (-63), 3) := by decide +kernel
theorem dX7_planWage_86 : decode cX7_planWage 86 = .ok (.return_, 1) := by decide +kernel
set_option maxRecDepth 20000 in
theorem ggX7_planSort_X0_clear : GoodIn wsX7_planSort wsX0_clear := goodIn_r _ [12, 13, 148, 149, 150] (by decide +kernel) (by decide +kernel)
set_option maxRecDepth 20000 in
theorem gX7_planSort_X0_clear : GoodIn wsX7_planSort (wsV RX7 361 RX0 yX0_clear wsX0_clear) := goodIn_app (goodIn_of _ (by decide +kernel)) ggX7_planSort_X0_clear
set_option maxRecDepth 20000 in
theorem ggX7_planSort_X5_copyOf : GoodIn wsX7_planSort wsX5_copyOf := goodIn_r _ [18, 19, 20, 21, 22, 144, 145, 146, 147] (by decide +kernel) (by decide +kernel)
set_option maxRecDepth 20000 in
theorem gX7_planSort_X5_copyOf : GoodIn wsX7_planSort (wsV RX7 364 RX5 yX5_copyOf wsX5_copyOf) := goodIn_app (goodIn_of _ (by decide +kernel)) ggX7_planSort_X5_copyOf
set_option maxRecDepth 20000 in
theorem ggX7_planSort_X1_run : GoodIn wsX7_planSort wsX1_run := goodIn_r _ [27, 28, 29, 30, 31, 32, 33, 34, 35, 26, 36, 37, 38, 39, 40, 41, 42, 43, 44, 45, 46, 47, 48, 49, 50, 51, 52, 53, 54, 55, 56, 57, 58, 59, 60, 61, 62, 63, 64, 65, 66, 67, 68, 69, 70, 71, 72, 73, 74, 75, 76, 77, 78, 79, 80, 81, 82, 83, 84, 85, 86, 87, 88, 89, 90, 91, 92, 93, 94, 95, 96, 97, 98, 99, 100, 101, 102, 103, 151, 152, 153, 154, 155, 156, 157, 158, 159, 160, 161, 162, 144, 145, 146, 147, 163, 164, 165, 166] (by decide +kernel) (by decide +kernel)
set_option maxRecDepth 20000 in
theorem gX7_planSort_X1_run : GoodIn wsX7_planSort (wsV RX7 225 RX1 yX1_run wsX1_run) := goodIn_app (goodIn_of _ (by decide +kernel)) ggX7_planSort_X1_run
set_option maxRecDepth 20000 in
theorem ggX7_planSort_X1_settledInAll : GoodIn wsX7_planSort wsX1_settledInAll := goodIn_r _ [107, 108, 109, 110, 26, 111, 28, 38, 112, 113, 114, 115, 116, 117, 118, 151, 152, 153, 154, 155, 156, 157, 158, 159, 160, 161, 162] (by decide +kernel) (by decide +kernel)
set_option maxRecDepth 20000 in
theorem gX7_planSort_X1_settledInAll : GoodIn wsX7_planSort (wsV RX7 181 RX1 yX1_settledInAll wsX1_settledInAll) := goodIn_app (goodIn_of _ (by decide +kernel)) ggX7_planSort_X1_settledInAll
set_option maxRecDepth 20000 in
theorem ggX7_planSort_X1_fallsInAll : GoodIn wsX7_planSort wsX1_fallsInAll := goodIn_r _ [122, 28, 39, 151, 152, 153, 154, 155, 156, 157, 158, 159, 160, 161, 162] (by decide +kernel) (by decide +kernel)
set_option maxRecDepth 20000 in
theorem gX7_planSort_X1_fallsInAll : GoodIn wsX7_planSort (wsV RX7 184 RX1 yX1_fallsInAll wsX1_fallsInAll) := goodIn_app (goodIn_of _ (by decide +kernel)) ggX7_planSort_X1_fallsInAll
set_option maxRecDepth 20000 in
theorem ggX7_planSort_X0_offer : GoodIn wsX7_planSort wsX0_offer := goodIn_r _ [126, 13, 127, 128, 148, 149, 150] (by decide +kernel) (by decide +kernel)
set_option maxRecDepth 20000 in
theorem gX7_planSort_X0_offer : GoodIn wsX7_planSort (wsV RX7 368 RX0 yX0_offer wsX0_offer) := goodIn_app (goodIn_of _ (by decide +kernel)) ggX7_planSort_X0_offer
theorem dX7_planSort_0 : decode cX7_planSort 0 = .ok (.aload_n 0, 1) := by decide +kernel
theorem dX7_planSort_1 : decode cX7_planSort 1 = .ok (.getfield 53, 3) := by decide +kernel
theorem dX7_planSort_4 : decode cX7_planSort 4 = .ok (.invokevirtual 361, 3) := by decide +kernel
theorem dX7_planSort_7 : decode cX7_planSort 7 = .ok (.aload_n 0, 1) := by decide +kernel
theorem dX7_planSort_8 : decode cX7_planSort 8 = .ok (.getfield 23, 3) := by decide +kernel
theorem dX7_planSort_11 : decode cX7_planSort 11 = .ok (.aload_n 0, 1) := by decide +kernel
theorem dX7_planSort_12 : decode cX7_planSort 12 = .ok (.getfield 19, 3) := by decide +kernel
theorem dX7_planSort_15 : decode cX7_planSort 15 = .ok (.invokevirtual 364, 3) := by decide +kernel
theorem dX7_planSort_18 : decode cX7_planSort 18 = .ok (.iconst 0, 1) := by decide +kernel
theorem dX7_planSort_19 : decode cX7_planSort 19 = .ok (.istore_n 2, 1) := by decide +kernel
theorem dX7_planSort_20 : decode cX7_planSort 20 = .ok (.iload_n 2, 1) := by decide +kernel
theorem dX7_planSort_21 : decode cX7_planSort 21 = .ok (.iconst 4, 1) := by decide +kernel
theorem dX7_planSort_22 : decode cX7_planSort 22 = .ok (.if_icmp .ge 63, 3) := by decide +kernel
theorem dX7_planSort_25 : decode cX7_planSort 25 = .ok (.aload_n 0, 1) := by decide +kernel
theorem dX7_planSort_26 : decode cX7_planSort 26 = .ok (.getfield 23, 3) := by decide +kernel
theorem dX7_planSort_29 : decode cX7_planSort 29 = .ok (.getfield 106, 3) := by decide +kernel
theorem dX7_planSort_32 : decode cX7_planSort 32 = .ok (.iload_n 1, 1) := by decide +kernel
theorem dX7_planSort_33 : decode cX7_planSort 33 = .ok (.iload_n 2, 1) := by decide +kernel
theorem dX7_planSort_34 : decode cX7_planSort 34 = .ok (.iastore, 1) := by decide +kernel
theorem dX7_planSort_35 : decode cX7_planSort 35 = .ok (.aload_n 0, 1) := by decide +kernel
theorem dX7_planSort_36 : decode cX7_planSort 36 = .ok (.getfield 47, 3) := by decide +kernel
theorem dX7_planSort_39 : decode cX7_planSort 39 = .ok (.aload_n 0, 1) := by decide +kernel
theorem dX7_planSort_40 : decode cX7_planSort 40 = .ok (.getfield 23, 3) := by decide +kernel
theorem dX7_planSort_43 : decode cX7_planSort 43 = .ok (.aload_n 0, 1) := by decide +kernel
theorem dX7_planSort_44 : decode cX7_planSort 44 = .ok (.getfield 29, 3) := by decide +kernel
theorem dX7_planSort_47 : decode cX7_planSort 47 = .ok (.sipush 255, 3) := by decide +kernel
theorem dX7_planSort_50 : decode cX7_planSort 50 = .ok (.aload_n 0, 1) := by decide +kernel
theorem dX7_planSort_51 : decode cX7_planSort 51 = .ok (.getfield 70, 3) := by decide +kernel
theorem dX7_planSort_54 : decode cX7_planSort 54 = .ok (.invokevirtual 225, 3) := by decide +kernel
theorem dX7_planSort_57 : decode cX7_planSort 57 = .ok (.aload_n 0, 1) := by decide +kernel
theorem dX7_planSort_58 : decode cX7_planSort 58 = .ok (.getfield 53, 3) := by decide +kernel
theorem dX7_planSort_61 : decode cX7_planSort 61 = .ok (.iload_n 2, 1) := by decide +kernel
theorem dX7_planSort_62 : decode cX7_planSort 62 = .ok (.aload_n 0, 1) := by decide +kernel
theorem dX7_planSort_63 : decode cX7_planSort 63 = .ok (.getfield 47, 3) := by decide +kernel
theorem dX7_planSort_66 : decode cX7_planSort 66 = .ok (.invokevirtual 181, 3) := by decide +kernel
theorem dX7_planSort_69 : decode cX7_planSort 69 = .ok (.aload_n 0, 1) := by decide +kernel
theorem dX7_planSort_70 : decode cX7_planSort 70 = .ok (.getfield 47, 3) := by decide +kernel
theorem dX7_planSort_73 : decode cX7_planSort 73 = .ok (.invokevirtual 184, 3) := by decide +kernel
theorem dX7_planSort_76 : decode cX7_planSort 76 = .ok (.invokevirtual 368, 3) := by decide +kernel
theorem dX7_planSort_79 : decode cX7_planSort 79 = .ok (.iinc 2 1, 3) := by decide +kernel
theorem dX7_planSort_82 : decode cX7_planSort 82 = .ok (.goto (-62), 3) := by decide +kernel
theorem dX7_planSort_85 : decode cX7_planSort 85 = .ok (.return_, 1) := by decide +kernel
set_option maxRecDepth 20000 in
theorem ggX7_planRoom_X0_clear : GoodIn wsX7_planRoom wsX0_clear := goodIn_r _ [9, 10, 132, 133, 134] (by decide +kernel) (by decide +kernel)
set_option maxRecDepth 20000 in
theorem gX7_planRoom_X0_clear : GoodIn wsX7_planRoom (wsV RX7 361 RX0 yX0_clear wsX0_clear) := goodIn_app (goodIn_of _ (by decide +kernel)) ggX7_planRoom_X0_clear
set_option maxRecDepth 20000 in
theorem ggX7_planRoom_X1_run : GoodIn wsX7_planRoom wsX1_run := goodIn_r _ [15, 16, 17, 18, 19, 20, 21, 22, 23, 14, 24, 25, 26, 27, 28, 29, 30, 31, 32, 33, 34, 35, 36, 37, 38, 39, 40, 41, 42, 43, 44, 45, 46, 47, 48, 49, 50, 51, 52, 53, 54, 55, 56, 57, 58, 59, 60, 61, 62, 63, 64, 65, 66, 67, 68, 69, 70, 71, 72, 73, 74, 75, 76, 77, 78, 79, 80, 81, 82, 83, 84, 85, 86, 87, 88, 89, 90, 91, 135, 136, 137, 138, 139, 140, 141, 142, 143, 144, 145, 146, 147, 148, 149, 150, 151, 152, 153, 154] (by decide +kernel) (by decide +kernel)
set_option maxRecDepth 20000 in
theorem gX7_planRoom_X1_run : GoodIn wsX7_planRoom (wsV RX7 225 RX1 yX1_run wsX1_run) := goodIn_app (goodIn_of _ (by decide +kernel)) ggX7_planRoom_X1_run
set_option maxRecDepth 20000 in
theorem ggX7_planRoom_X1_settledInAll : GoodIn wsX7_planRoom wsX1_settledInAll := goodIn_r _ [95, 96, 97, 98, 14, 99, 16, 26, 100, 101, 102, 103, 104, 105, 106, 135, 136, 137, 138, 139, 140, 141, 142, 143, 144, 145, 146] (by decide +kernel) (by decide +kernel)
set_option maxRecDepth 20000 in
theorem gX7_planRoom_X1_settledInAll : GoodIn wsX7_planRoom (wsV RX7 181 RX1 yX1_settledInAll wsX1_settledInAll) := goodIn_app (goodIn_of _ (by decide +kernel)) ggX7_planRoom_X1_settledInAll
set_option maxRecDepth 20000 in
theorem ggX7_planRoom_X1_fallsInAll : GoodIn wsX7_planRoom wsX1_fallsInAll := goodIn_r _ [110, 16, 27, 135, 136, 137, 138, 139, 140, 141, 142, 143, 144, 145, 146] (by decide +kernel) (by decide +kernel)
set_option maxRecDepth 20000 in
theorem gX7_planRoom_X1_fallsInAll : GoodIn wsX7_planRoom (wsV RX7 184 RX1 yX1_fallsInAll wsX1_fallsInAll) := goodIn_app (goodIn_of _ (by decide +kernel)) ggX7_planRoom_X1_fallsInAll
set_option maxRecDepth 20000 in
theorem ggX7_planRoom_X0_offer : GoodIn wsX7_planRoom wsX0_offer := goodIn_r _ [114, 10, 115, 116, 132, 133, 134] (by decide +kernel) (by decide +kernel)
set_option maxRecDepth 20000 in
theorem gX7_planRoom_X0_offer : GoodIn wsX7_planRoom (wsV RX7 368 RX0 yX0_offer wsX0_offer) := goodIn_app (goodIn_of _ (by decide +kernel)) ggX7_planRoom_X0_offer
theorem dX7_planRoom_0 : decode cX7_planRoom 0 = .ok (.aload_n 0, 1) := by decide +kernel
theorem dX7_planRoom_1 : decode cX7_planRoom 1 = .ok (.getfield 53, 3) := by decide +kernel
theorem dX7_planRoom_4 : decode cX7_planRoom 4 = .ok (.invokevirtual 361, 3) := by decide +kernel
theorem dX7_planRoom_7 : decode cX7_planRoom 7 = .ok (.iconst 1, 1) := by decide +kernel
theorem dX7_planRoom_8 : decode cX7_planRoom 8 = .ok (.istore_n 1, 1) := by decide +kernel
theorem dX7_planRoom_9 : decode cX7_planRoom 9 = .ok (.iload_n 1, 1) := by decide +kernel
theorem dX7_planRoom_10 : decode cX7_planRoom 10 = .ok (.bipush 8, 2) := by decide +kernel
theorem dX7_planRoom_12 : decode cX7_planRoom 12 = .ok (.if_icmp .gt 50, 3) := by decide +kernel
theorem dX7_planRoom_15 : decode cX7_planRoom 15 = .ok (.aload_n 0, 1) := by decide +kernel
theorem dX7_planRoom_16 : decode cX7_planRoom 16 = .ok (.getfield 47, 3) := by decide +kernel
theorem dX7_planRoom_19 : decode cX7_planRoom 19 = .ok (.aload_n 0, 1) := by decide +kernel
theorem dX7_planRoom_20 : decode cX7_planRoom 20 = .ok (.getfield 19, 3) := by decide +kernel
theorem dX7_planRoom_23 : decode cX7_planRoom 23 = .ok (.aload_n 0, 1) := by decide +kernel
theorem dX7_planRoom_24 : decode cX7_planRoom 24 = .ok (.getfield 29, 3) := by decide +kernel
theorem dX7_planRoom_27 : decode cX7_planRoom 27 = .ok (.sipush 255, 3) := by decide +kernel
theorem dX7_planRoom_30 : decode cX7_planRoom 30 = .ok (.iload_n 1, 1) := by decide +kernel
theorem dX7_planRoom_31 : decode cX7_planRoom 31 = .ok (.invokevirtual 225, 3) := by decide +kernel
theorem dX7_planRoom_34 : decode cX7_planRoom 34 = .ok (.aload_n 0, 1) := by decide +kernel
theorem dX7_planRoom_35 : decode cX7_planRoom 35 = .ok (.getfield 53, 3) := by decide +kernel
theorem dX7_planRoom_38 : decode cX7_planRoom 38 = .ok (.iload_n 1, 1) := by decide +kernel
theorem dX7_planRoom_39 : decode cX7_planRoom 39 = .ok (.aload_n 0, 1) := by decide +kernel
theorem dX7_planRoom_40 : decode cX7_planRoom 40 = .ok (.getfield 47, 3) := by decide +kernel
theorem dX7_planRoom_43 : decode cX7_planRoom 43 = .ok (.invokevirtual 181, 3) := by decide +kernel
theorem dX7_planRoom_46 : decode cX7_planRoom 46 = .ok (.aload_n 0, 1) := by decide +kernel
theorem dX7_planRoom_47 : decode cX7_planRoom 47 = .ok (.getfield 47, 3) := by decide +kernel
theorem dX7_planRoom_50 : decode cX7_planRoom 50 = .ok (.invokevirtual 184, 3) := by decide +kernel
theorem dX7_planRoom_53 : decode cX7_planRoom 53 = .ok (.invokevirtual 368, 3) := by decide +kernel
theorem dX7_planRoom_56 : decode cX7_planRoom 56 = .ok (.iinc 1 1, 3) := by decide +kernel
theorem dX7_planRoom_59 : decode cX7_planRoom 59 = .ok (.goto (-50), 3) := by decide +kernel
theorem dX7_planRoom_62 : decode cX7_planRoom 62 = .ok (.return_, 1) := by decide +kernel
set_option maxRecDepth 20000 in
theorem ggX7_sparedEvents_X7_settledWith : GoodIn wsX7_sparedEvents wsX7_settledWith := goodIn_r _ [7, 8, 9, 10, 11, 1, 12, 13, 14, 15, 16, 17, 18, 19, 20, 21, 22, 23, 24, 25, 26, 27, 28, 29, 30, 31, 32, 33, 34, 35, 36, 37, 38, 39, 40, 41, 42, 43, 44, 45, 46, 47, 48, 49, 50, 51, 52, 53, 54, 55, 56, 57, 58, 59, 60, 61, 62, 63, 64, 65, 66, 67, 68, 69, 70, 71, 72, 73, 74, 75, 76, 77, 78, 79, 80, 81, 82, 83, 84, 85, 86, 87, 88, 89, 90, 91, 92, 93, 94, 95, 96, 97, 98, 99, 100, 101, 102, 103, 104, 105, 106, 107, 108, 109, 110, 111, 112, 113, 118, 119, 120, 121, 122, 123, 124, 125, 126, 127, 128, 129, 130, 131, 132, 133, 114, 115, 116, 117] (by decide +kernel) (by decide +kernel)
set_option maxRecDepth 20000 in
theorem gX7_sparedEvents_X7_settledWith : GoodIn wsX7_sparedEvents (wsV RX7 244 RX7 yX7_settledWith wsX7_settledWith) := goodIn_app (goodIn_of _ (by decide +kernel)) ggX7_sparedEvents_X7_settledWith
theorem dX7_sparedEvents_0 : decode cX7_sparedEvents 0 = .ok (.iconst 1, 1) := by decide +kernel
theorem dX7_sparedEvents_1 : decode cX7_sparedEvents 1 = .ok (.aload_n 0, 1) := by decide +kernel
theorem dX7_sparedEvents_2 : decode cX7_sparedEvents 2 = .ok (.getfield 29, 3) := by decide +kernel
theorem dX7_sparedEvents_5 : decode cX7_sparedEvents 5 = .ok (.getfield 121, 3) := by decide +kernel
theorem dX7_sparedEvents_8 : decode cX7_sparedEvents 8 = .ok (.ishl, 1) := by decide +kernel
theorem dX7_sparedEvents_9 : decode cX7_sparedEvents 9 = .ok (.iconst 1, 1) := by decide +kernel
theorem dX7_sparedEvents_10 : decode cX7_sparedEvents 10 = .ok (.isub, 1) := by decide +kernel
theorem dX7_sparedEvents_11 : decode cX7_sparedEvents 11 = .ok (.istore_n 1, 1) := by decide +kernel
theorem dX7_sparedEvents_12 : decode cX7_sparedEvents 12 = .ok (.aload_n 0, 1) := by decide +kernel
theorem dX7_sparedEvents_13 : decode cX7_sparedEvents 13 = .ok (.iload_n 1, 1) := by decide +kernel
theorem dX7_sparedEvents_14 : decode cX7_sparedEvents 14 = .ok (.invokevirtual 244, 3) := by decide +kernel
theorem dX7_sparedEvents_17 : decode cX7_sparedEvents 17 = .ok (.ifCond .ne 5, 3) := by decide +kernel
theorem dX7_sparedEvents_20 : decode cX7_sparedEvents 20 = .ok (.iconst 0, 1) := by decide +kernel
theorem dX7_sparedEvents_21 : decode cX7_sparedEvents 21 = .ok (.ireturn, 1) := by decide +kernel
theorem dX7_sparedEvents_22 : decode cX7_sparedEvents 22 = .ok (.iconst 0, 1) := by decide +kernel
theorem dX7_sparedEvents_23 : decode cX7_sparedEvents 23 = .ok (.istore_n 2, 1) := by decide +kernel
theorem dX7_sparedEvents_24 : decode cX7_sparedEvents 24 = .ok (.iload_n 2, 1) := by decide +kernel
theorem dX7_sparedEvents_25 : decode cX7_sparedEvents 25 = .ok (.aload_n 0, 1) := by decide +kernel
theorem dX7_sparedEvents_26 : decode cX7_sparedEvents 26 = .ok (.getfield 29, 3) := by decide +kernel
theorem dX7_sparedEvents_29 : decode cX7_sparedEvents 29 = .ok (.getfield 121, 3) := by decide +kernel
theorem dX7_sparedEvents_32 : decode cX7_sparedEvents 32 = .ok (.if_icmp .ge 27, 3) := by decide +kernel
theorem dX7_sparedEvents_35 : decode cX7_sparedEvents 35 = .ok (.aload_n 0, 1) := by decide +kernel
theorem dX7_sparedEvents_36 : decode cX7_sparedEvents 36 = .ok (.iload_n 1, 1) := by decide +kernel
theorem dX7_sparedEvents_37 : decode cX7_sparedEvents 37 = .ok (.iconst 1, 1) := by decide +kernel
theorem dX7_sparedEvents_38 : decode cX7_sparedEvents 38 = .ok (.iload_n 2, 1) := by decide +kernel
theorem dX7_sparedEvents_39 : decode cX7_sparedEvents 39 = .ok (.ishl, 1) := by decide +kernel
theorem dX7_sparedEvents_40 : decode cX7_sparedEvents 40 = .ok (.iconst (-1), 1) := by decide +kernel
theorem dX7_sparedEvents_41 : decode cX7_sparedEvents 41 = .ok (.ixor, 1) := by decide +kernel
theorem dX7_sparedEvents_42 : decode cX7_sparedEvents 42 = .ok (.iand, 1) := by decide +kernel
theorem dX7_sparedEvents_43 : decode cX7_sparedEvents 43 = .ok (.invokevirtual 244, 3) := by decide +kernel
theorem dX7_sparedEvents_46 : decode cX7_sparedEvents 46 = .ok (.ifCond .ne 7, 3) := by decide +kernel
theorem dX7_sparedEvents_49 : decode cX7_sparedEvents 49 = .ok (.iconst 1, 1) := by decide +kernel
theorem dX7_sparedEvents_50 : decode cX7_sparedEvents 50 = .ok (.iload_n 2, 1) := by decide +kernel
theorem dX7_sparedEvents_51 : decode cX7_sparedEvents 51 = .ok (.ishl, 1) := by decide +kernel
theorem dX7_sparedEvents_52 : decode cX7_sparedEvents 52 = .ok (.ireturn, 1) := by decide +kernel
theorem dX7_sparedEvents_53 : decode cX7_sparedEvents 53 = .ok (.iinc 2 1, 3) := by decide +kernel
theorem dX7_sparedEvents_56 : decode cX7_sparedEvents 56 = .ok (.goto (-32), 3) := by decide +kernel
theorem dX7_sparedEvents_59 : decode cX7_sparedEvents 59 = .ok (.iconst 0, 1) := by decide +kernel
theorem dX7_sparedEvents_60 : decode cX7_sparedEvents 60 = .ok (.istore_n 2, 1) := by decide +kernel
theorem dX7_sparedEvents_61 : decode cX7_sparedEvents 61 = .ok (.iload_n 2, 1) := by decide +kernel
theorem dX7_sparedEvents_62 : decode cX7_sparedEvents 62 = .ok (.aload_n 0, 1) := by decide +kernel
theorem dX7_sparedEvents_63 : decode cX7_sparedEvents 63 = .ok (.getfield 29, 3) := by decide +kernel
theorem dX7_sparedEvents_66 : decode cX7_sparedEvents 66 = .ok (.getfield 121, 3) := by decide +kernel
theorem dX7_sparedEvents_69 : decode cX7_sparedEvents 69 = .ok (.if_icmp .ge 55, 3) := by decide +kernel
theorem dX7_sparedEvents_72 : decode cX7_sparedEvents 72 = .ok (.iload_n 2, 1) := by decide +kernel
theorem dX7_sparedEvents_73 : decode cX7_sparedEvents 73 = .ok (.iconst 1, 1) := by decide +kernel
theorem dX7_sparedEvents_74 : decode cX7_sparedEvents 74 = .ok (.iadd, 1) := by decide +kernel
theorem dX7_sparedEvents_75 : decode cX7_sparedEvents 75 = .ok (.istore_n 3, 1) := by decide +kernel
theorem dX7_sparedEvents_76 : decode cX7_sparedEvents 76 = .ok (.iload_n 3, 1) := by decide +kernel
theorem dX7_sparedEvents_77 : decode cX7_sparedEvents 77 = .ok (.aload_n 0, 1) := by decide +kernel
theorem dX7_sparedEvents_78 : decode cX7_sparedEvents 78 = .ok (.getfield 29, 3) := by decide +kernel
theorem dX7_sparedEvents_81 : decode cX7_sparedEvents 81 = .ok (.getfield 121, 3) := by decide +kernel
theorem dX7_sparedEvents_84 : decode cX7_sparedEvents 84 = .ok (.if_icmp .ge 34, 3) := by decide +kernel
theorem dX7_sparedEvents_87 : decode cX7_sparedEvents 87 = .ok (.iconst 1, 1) := by decide +kernel
theorem dX7_sparedEvents_88 : decode cX7_sparedEvents 88 = .ok (.iload_n 2, 1) := by decide +kernel
theorem dX7_sparedEvents_89 : decode cX7_sparedEvents 89 = .ok (.ishl, 1) := by decide +kernel
theorem dX7_sparedEvents_90 : decode cX7_sparedEvents 90 = .ok (.iconst 1, 1) := by decide +kernel
theorem dX7_sparedEvents_91 : decode cX7_sparedEvents 91 = .ok (.iload_n 3, 1) := by decide +kernel
theorem dX7_sparedEvents_92 : decode cX7_sparedEvents 92 = .ok (.ishl, 1) := by decide +kernel
theorem dX7_sparedEvents_93 : decode cX7_sparedEvents 93 = .ok (.ior, 1) := by decide +kernel
theorem dX7_sparedEvents_94 : decode cX7_sparedEvents 94 = .ok (.istore 4, 2) := by decide +kernel
theorem dX7_sparedEvents_96 : decode cX7_sparedEvents 96 = .ok (.aload_n 0, 1) := by decide +kernel
theorem dX7_sparedEvents_97 : decode cX7_sparedEvents 97 = .ok (.iload_n 1, 1) := by decide +kernel
theorem dX7_sparedEvents_98 : decode cX7_sparedEvents 98 = .ok (.iload 4, 2) := by decide +kernel
theorem dX7_sparedEvents_100 : decode cX7_sparedEvents 100 = .ok (.iconst (-1), 1) := by decide +kernel
theorem dX7_sparedEvents_101 : decode cX7_sparedEvents 101 = .ok (.ixor, 1) := by decide +kernel
theorem dX7_sparedEvents_102 : decode cX7_sparedEvents 102 = .ok (.iand, 1) := by decide +kernel
theorem dX7_sparedEvents_103 : decode cX7_sparedEvents 103 = .ok (.invokevirtual 244, 3) := by decide +kernel
theorem dX7_sparedEvents_106 : decode cX7_sparedEvents 106 = .ok (.ifCond .ne 6, 3) := by decide +kernel
theorem dX7_sparedEvents_109 : decode cX7_sparedEvents 109 = .ok (.iload 4, 2) := by decide +kernel
theorem dX7_sparedEvents_111 : decode cX7_sparedEvents 111 = .ok (.ireturn, 1) := by decide +kernel
theorem dX7_sparedEvents_112 : decode cX7_sparedEvents 112 = .ok (.iinc 3 1, 3) := by decide +kernel
theorem dX7_sparedEvents_115 : decode cX7_sparedEvents 115 = .ok (.goto (-39), 3) := by decide +kernel
theorem dX7_sparedEvents_118 : decode cX7_sparedEvents 118 = .ok (.iinc 2 1, 3) := by decide +kernel
theorem dX7_sparedEvents_121 : decode cX7_sparedEvents 121 = .ok (.goto (-60), 3) := by decide +kernel
theorem dX7_sparedEvents_124 : decode cX7_sparedEvents 124 = .ok (.iconst (-1), 1) := by decide +kernel
theorem dX7_sparedEvents_125 : decode cX7_sparedEvents 125 = .ok (.ireturn, 1) := by decide +kernel
set_option maxRecDepth 20000 in
theorem ggX7_settledWith_J7_fill_53178 : GoodIn wsX7_settledWith wsJ7_fill_53178 := goodIn_r _ [10] (by decide +kernel) (by decide +kernel)
set_option maxRecDepth 20000 in
theorem gX7_settledWith_J7_fill_53178 : GoodIn wsX7_settledWith (va_wsS RX7 371 yJ7_fill_53178 wsJ7_fill_53178) := goodIn_app (goodIn_of _ (by decide +kernel)) ggX7_settledWith_J7_fill_53178
set_option maxRecDepth 20000 in
theorem ggX7_settledWith_X1_run : GoodIn wsX7_settledWith wsX1_run := goodIn_r _ [15, 16, 17, 18, 19, 20, 21, 22, 23, 14, 24, 25, 26, 27, 28, 29, 30, 31, 32, 33, 34, 35, 36, 37, 38, 39, 40, 41, 42, 43, 44, 45, 46, 47, 48, 49, 50, 51, 52, 53, 54, 55, 56, 57, 58, 59, 60, 61, 62, 63, 64, 65, 8, 9, 10, 66, 67, 68, 69, 70, 71, 72, 73, 74, 75, 76, 77, 78, 79, 80, 81, 82, 83, 84, 85, 86, 87, 88, 108, 109, 110, 111, 112, 113, 114, 115, 116, 117, 118, 119, 120, 121, 122, 123, 124, 125, 126, 127] (by decide +kernel) (by decide +kernel)
set_option maxRecDepth 20000 in
theorem gX7_settledWith_X1_run : GoodIn wsX7_settledWith (wsV RX7 225 RX1 yX1_run wsX1_run) := goodIn_app (goodIn_of _ (by decide +kernel)) ggX7_settledWith_X1_run
set_option maxRecDepth 20000 in
theorem ggX7_settledWith_X1_settledBits : GoodIn wsX7_settledWith wsX1_settledBits := goodIn_r _ [92, 16, 26, 108, 109, 110, 111, 112, 113, 114, 115, 116, 117, 118, 119] (by decide +kernel) (by decide +kernel)
set_option maxRecDepth 20000 in
theorem gX7_settledWith_X1_settledBits : GoodIn wsX7_settledWith (wsV RX7 377 RX1 yX1_settledBits wsX1_settledBits) := goodIn_app (goodIn_of _ (by decide +kernel)) ggX7_settledWith_X1_settledBits
theorem dX7_settledWith_0 : decode cX7_settledWith 0 = .ok (.aload_n 0, 1) := by decide +kernel
theorem dX7_settledWith_1 : decode cX7_settledWith 1 = .ok (.getfield 81, 3) := by decide +kernel
theorem dX7_settledWith_4 : decode cX7_settledWith 4 = .ok (.ifCond .ne 16, 3) := by decide +kernel
theorem dX7_settledWith_7 : decode cX7_settledWith 7 = .ok (.aload_n 0, 1) := by decide +kernel
theorem dX7_settledWith_8 : decode cX7_settledWith 8 = .ok (.getfield 63, 3) := by decide +kernel
theorem dX7_settledWith_11 : decode cX7_settledWith 11 = .ok (.iconst (-1), 1) := by decide +kernel
theorem dX7_settledWith_12 : decode cX7_settledWith 12 = .ok (.invokestatic 371, 3) := by decide +kernel
theorem dX7_settledWith_15 : decode cX7_settledWith 15 = .ok (.aload_n 0, 1) := by decide +kernel
theorem dX7_settledWith_16 : decode cX7_settledWith 16 = .ok (.iconst 1, 1) := by decide +kernel
theorem dX7_settledWith_17 : decode cX7_settledWith 17 = .ok (.putfield 81, 3) := by decide +kernel
theorem dX7_settledWith_20 : decode cX7_settledWith 20 = .ok (.aload_n 0, 1) := by decide +kernel
theorem dX7_settledWith_21 : decode cX7_settledWith 21 = .ok (.getfield 63, 3) := by decide +kernel
theorem dX7_settledWith_24 : decode cX7_settledWith 24 = .ok (.iload_n 1, 1) := by decide +kernel
theorem dX7_settledWith_25 : decode cX7_settledWith 25 = .ok (.iaload, 1) := by decide +kernel
theorem dX7_settledWith_26 : decode cX7_settledWith 26 = .ok (.ifCond .ge 36, 3) := by decide +kernel
theorem dX7_settledWith_29 : decode cX7_settledWith 29 = .ok (.aload_n 0, 1) := by decide +kernel
theorem dX7_settledWith_30 : decode cX7_settledWith 30 = .ok (.getfield 47, 3) := by decide +kernel
theorem dX7_settledWith_33 : decode cX7_settledWith 33 = .ok (.aload_n 0, 1) := by decide +kernel
theorem dX7_settledWith_34 : decode cX7_settledWith 34 = .ok (.getfield 19, 3) := by decide +kernel
theorem dX7_settledWith_37 : decode cX7_settledWith 37 = .ok (.aload_n 0, 1) := by decide +kernel
theorem dX7_settledWith_38 : decode cX7_settledWith 38 = .ok (.getfield 29, 3) := by decide +kernel
theorem dX7_settledWith_41 : decode cX7_settledWith 41 = .ok (.iload_n 1, 1) := by decide +kernel
theorem dX7_settledWith_42 : decode cX7_settledWith 42 = .ok (.aload_n 0, 1) := by decide +kernel
theorem dX7_settledWith_43 : decode cX7_settledWith 43 = .ok (.getfield 70, 3) := by decide +kernel
theorem dX7_settledWith_46 : decode cX7_settledWith 46 = .ok (.invokevirtual 225, 3) := by decide +kernel
theorem dX7_settledWith_49 : decode cX7_settledWith 49 = .ok (.aload_n 0, 1) := by decide +kernel
theorem dX7_settledWith_50 : decode cX7_settledWith 50 = .ok (.getfield 63, 3) := by decide +kernel
theorem dX7_settledWith_53 : decode cX7_settledWith 53 = .ok (.iload_n 1, 1) := by decide +kernel
theorem dX7_settledWith_54 : decode cX7_settledWith 54 = .ok (.aload_n 0, 1) := by decide +kernel
theorem dX7_settledWith_55 : decode cX7_settledWith 55 = .ok (.getfield 47, 3) := by decide +kernel
theorem dX7_settledWith_58 : decode cX7_settledWith 58 = .ok (.invokevirtual 377, 3) := by decide +kernel
theorem dX7_settledWith_61 : decode cX7_settledWith 61 = .ok (.iastore, 1) := by decide +kernel
theorem dX7_settledWith_62 : decode cX7_settledWith 62 = .ok (.aload_n 0, 1) := by decide +kernel
theorem dX7_settledWith_63 : decode cX7_settledWith 63 = .ok (.getfield 63, 3) := by decide +kernel
theorem dX7_settledWith_66 : decode cX7_settledWith 66 = .ok (.iload_n 1, 1) := by decide +kernel
theorem dX7_settledWith_67 : decode cX7_settledWith 67 = .ok (.iaload, 1) := by decide +kernel
theorem dX7_settledWith_68 : decode cX7_settledWith 68 = .ok (.ireturn, 1) := by decide +kernel
theorem dX7_bitPlace_0 : decode cX7_bitPlace 0 = .ok (.iconst 0, 1) := by decide +kernel
theorem dX7_bitPlace_1 : decode cX7_bitPlace 1 = .ok (.istore_n 2, 1) := by decide +kernel
theorem dX7_bitPlace_2 : decode cX7_bitPlace 2 = .ok (.iconst 0, 1) := by decide +kernel
theorem dX7_bitPlace_3 : decode cX7_bitPlace 3 = .ok (.istore_n 3, 1) := by decide +kernel
theorem dX7_bitPlace_4 : decode cX7_bitPlace 4 = .ok (.iload_n 3, 1) := by decide +kernel
theorem dX7_bitPlace_5 : decode cX7_bitPlace 5 = .ok (.bipush 8, 2) := by decide +kernel
theorem dX7_bitPlace_7 : decode cX7_bitPlace 7 = .ok (.if_icmp .ge 27, 3) := by decide +kernel
theorem dX7_bitPlace_10 : decode cX7_bitPlace 10 = .ok (.iload_n 0, 1) := by decide +kernel
theorem dX7_bitPlace_11 : decode cX7_bitPlace 11 = .ok (.iload_n 3, 1) := by decide +kernel
theorem dX7_bitPlace_12 : decode cX7_bitPlace 12 = .ok (.ishr, 1) := by decide +kernel
theorem dX7_bitPlace_13 : decode cX7_bitPlace 13 = .ok (.iconst 1, 1) := by decide +kernel
theorem dX7_bitPlace_14 : decode cX7_bitPlace 14 = .ok (.iand, 1) := by decide +kernel
theorem dX7_bitPlace_15 : decode cX7_bitPlace 15 = .ok (.ifCond .eq 13, 3) := by decide +kernel
theorem dX7_bitPlace_18 : decode cX7_bitPlace 18 = .ok (.iload_n 2, 1) := by decide +kernel
theorem dX7_bitPlace_19 : decode cX7_bitPlace 19 = .ok (.iload_n 1, 1) := by decide +kernel
theorem dX7_bitPlace_20 : decode cX7_bitPlace 20 = .ok (.if_icmp .ne 5, 3) := by decide +kernel
theorem dX7_bitPlace_23 : decode cX7_bitPlace 23 = .ok (.iload_n 3, 1) := by decide +kernel
theorem dX7_bitPlace_24 : decode cX7_bitPlace 24 = .ok (.ireturn, 1) := by decide +kernel
theorem dX7_bitPlace_25 : decode cX7_bitPlace 25 = .ok (.iinc 2 1, 3) := by decide +kernel
theorem dX7_bitPlace_28 : decode cX7_bitPlace 28 = .ok (.iinc 3 1, 3) := by decide +kernel
theorem dX7_bitPlace_31 : decode cX7_bitPlace 31 = .ok (.goto (-27), 3) := by decide +kernel
theorem dX7_bitPlace_34 : decode cX7_bitPlace 34 = .ok (.iconst (-1), 1) := by decide +kernel
theorem dX7_bitPlace_35 : decode cX7_bitPlace 35 = .ok (.ireturn, 1) := by decide +kernel
set_option maxRecDepth 20000 in
theorem ggX7_seenWages_X5_copyOf : GoodIn wsX7_seenWages wsX5_copyOf := goodIn_r _ [13, 14, 15, 16, 17, 133, 134, 135, 136] (by decide +kernel) (by decide +kernel)
set_option maxRecDepth 20000 in
theorem gX7_seenWages_X5_copyOf : GoodIn wsX7_seenWages (wsV RX7 364 RX5 yX5_copyOf wsX5_copyOf) := goodIn_app (goodIn_of _ (by decide +kernel)) ggX7_seenWages_X5_copyOf
set_option maxRecDepth 20000 in
theorem ggX7_seenWages_X1_run : GoodIn wsX7_seenWages wsX1_run := goodIn_r _ [22, 23, 24, 25, 26, 27, 28, 29, 30, 21, 31, 32, 33, 34, 35, 36, 37, 38, 39, 40, 41, 42, 43, 44, 45, 46, 47, 48, 49, 50, 51, 52, 53, 54, 55, 56, 57, 58, 59, 60, 61, 62, 63, 64, 65, 66, 67, 68, 69, 70, 71, 72, 73, 74, 75, 76, 77, 78, 79, 80, 81, 82, 83, 84, 85, 86, 87, 88, 89, 90, 91, 92, 93, 94, 95, 96, 97, 98, 137, 138, 139, 140, 141, 142, 143, 144, 145, 146, 147, 148, 133, 134, 135, 136, 149, 150, 151, 152] (by decide +kernel) (by decide +kernel)
set_option maxRecDepth 20000 in
theorem gX7_seenWages_X1_run : GoodIn wsX7_seenWages (wsV RX7 225 RX1 yX1_run wsX1_run) := goodIn_app (goodIn_of _ (by decide +kernel)) ggX7_seenWages_X1_run
set_option maxRecDepth 20000 in
theorem ggX7_seenWages_X3_comesOut : GoodIn wsX7_seenWages wsX3_comesOut := goodIn_r _ [103, 104, 105, 106, 107, 108, 109, 110, 111, 21, 112, 97, 153, 154, 155, 156, 137, 138, 139, 140, 141, 142, 143, 144, 145, 146, 147, 148] (by decide +kernel) (by decide +kernel)
set_option maxRecDepth 20000 in
theorem gX7_seenWages_X3_comesOut : GoodIn wsX7_seenWages (wsV RX7 229 RX3 yX3_comesOut wsX3_comesOut) := goodIn_app (goodIn_of _ (by decide +kernel)) ggX7_seenWages_X3_comesOut
set_option maxRecDepth 20000 in
theorem ggX7_seenWages_X1_view : GoodIn wsX7_seenWages wsX1_view := goodIn_r _ [116, 23, 117, 110, 111, 21, 112, 97, 137, 138, 139, 140, 141, 142, 143, 144, 145, 146, 147, 148] (by decide +kernel) (by decide +kernel)
set_option maxRecDepth 20000 in
theorem gX7_seenWages_X1_view : GoodIn wsX7_seenWages (wsV RX7 380 RX1 yX1_view wsX1_view) := goodIn_app (goodIn_of _ (by decide +kernel)) ggX7_seenWages_X1_view
theorem dX7_seenWages_0 : decode cX7_seenWages 0 = .ok (.iconst 0, 1) := by decide +kernel
theorem dX7_seenWages_1 : decode cX7_seenWages 1 = .ok (.istore_n 2, 1) := by decide +kernel
theorem dX7_seenWages_2 : decode cX7_seenWages 2 = .ok (.aload_n 0, 1) := by decide +kernel
theorem dX7_seenWages_3 : decode cX7_seenWages 3 = .ok (.getfield 23, 3) := by decide +kernel
theorem dX7_seenWages_6 : decode cX7_seenWages 6 = .ok (.aload_n 0, 1) := by decide +kernel
theorem dX7_seenWages_7 : decode cX7_seenWages 7 = .ok (.getfield 19, 3) := by decide +kernel
theorem dX7_seenWages_10 : decode cX7_seenWages 10 = .ok (.invokevirtual 364, 3) := by decide +kernel
theorem dX7_seenWages_13 : decode cX7_seenWages 13 = .ok (.iconst 0, 1) := by decide +kernel
theorem dX7_seenWages_14 : decode cX7_seenWages 14 = .ok (.istore_n 3, 1) := by decide +kernel
theorem dX7_seenWages_15 : decode cX7_seenWages 15 = .ok (.iload_n 3, 1) := by decide +kernel
theorem dX7_seenWages_16 : decode cX7_seenWages 16 = .ok (.bipush 10, 2) := by decide +kernel
theorem dX7_seenWages_18 : decode cX7_seenWages 18 = .ok (.if_icmp .ge 98, 3) := by decide +kernel
theorem dX7_seenWages_21 : decode cX7_seenWages 21 = .ok (.aload_n 0, 1) := by decide +kernel
theorem dX7_seenWages_22 : decode cX7_seenWages 22 = .ok (.getfield 23, 3) := by decide +kernel
theorem dX7_seenWages_25 : decode cX7_seenWages 25 = .ok (.getfield 112, 3) := by decide +kernel
theorem dX7_seenWages_28 : decode cX7_seenWages 28 = .ok (.iload_n 1, 1) := by decide +kernel
theorem dX7_seenWages_29 : decode cX7_seenWages 29 = .ok (.iload_n 3, 1) := by decide +kernel
theorem dX7_seenWages_30 : decode cX7_seenWages 30 = .ok (.iastore, 1) := by decide +kernel
theorem dX7_seenWages_31 : decode cX7_seenWages 31 = .ok (.aload_n 0, 1) := by decide +kernel
theorem dX7_seenWages_32 : decode cX7_seenWages 32 = .ok (.getfield 47, 3) := by decide +kernel
theorem dX7_seenWages_35 : decode cX7_seenWages 35 = .ok (.aload_n 0, 1) := by decide +kernel
theorem dX7_seenWages_36 : decode cX7_seenWages 36 = .ok (.getfield 23, 3) := by decide +kernel
theorem dX7_seenWages_39 : decode cX7_seenWages 39 = .ok (.aload_n 0, 1) := by decide +kernel
theorem dX7_seenWages_40 : decode cX7_seenWages 40 = .ok (.getfield 29, 3) := by decide +kernel
theorem dX7_seenWages_43 : decode cX7_seenWages 43 = .ok (.sipush 255, 3) := by decide +kernel
theorem dX7_seenWages_46 : decode cX7_seenWages 46 = .ok (.aload_n 0, 1) := by decide +kernel
theorem dX7_seenWages_47 : decode cX7_seenWages 47 = .ok (.getfield 70, 3) := by decide +kernel
theorem dX7_seenWages_50 : decode cX7_seenWages 50 = .ok (.invokevirtual 225, 3) := by decide +kernel
theorem dX7_seenWages_53 : decode cX7_seenWages 53 = .ok (.aload_n 0, 1) := by decide +kernel
theorem dX7_seenWages_54 : decode cX7_seenWages 54 = .ok (.getfield 36, 3) := by decide +kernel
theorem dX7_seenWages_57 : decode cX7_seenWages 57 = .ok (.aload_n 0, 1) := by decide +kernel
theorem dX7_seenWages_58 : decode cX7_seenWages 58 = .ok (.getfield 47, 3) := by decide +kernel
theorem dX7_seenWages_61 : decode cX7_seenWages 61 = .ok (.invokevirtual 229, 3) := by decide +kernel
theorem dX7_seenWages_64 : decode cX7_seenWages 64 = .ok (.ifCond .eq 9, 3) := by decide +kernel
theorem dX7_seenWages_67 : decode cX7_seenWages 67 = .ok (.iload_n 2, 1) := by decide +kernel
theorem dX7_seenWages_68 : decode cX7_seenWages 68 = .ok (.iconst 1, 1) := by decide +kernel
theorem dX7_seenWages_69 : decode cX7_seenWages 69 = .ok (.iload_n 3, 1) := by decide +kernel
theorem dX7_seenWages_70 : decode cX7_seenWages 70 = .ok (.ishl, 1) := by decide +kernel
theorem dX7_seenWages_71 : decode cX7_seenWages 71 = .ok (.ior, 1) := by decide +kernel
theorem dX7_seenWages_72 : decode cX7_seenWages 72 = .ok (.istore_n 2, 1) := by decide +kernel
theorem dX7_seenWages_73 : decode cX7_seenWages 73 = .ok (.iconst 0, 1) := by decide +kernel
theorem dX7_seenWages_74 : decode cX7_seenWages 74 = .ok (.istore 4, 2) := by decide +kernel
theorem dX7_seenWages_76 : decode cX7_seenWages 76 = .ok (.iload 4, 2) := by decide +kernel
theorem dX7_seenWages_78 : decode cX7_seenWages 78 = .ok (.bipush 24, 2) := by decide +kernel
theorem dX7_seenWages_80 : decode cX7_seenWages 80 = .ok (.if_icmp .ge 30, 3) := by decide +kernel
theorem dX7_seenWages_83 : decode cX7_seenWages 83 = .ok (.aload_n 0, 1) := by decide +kernel
theorem dX7_seenWages_84 : decode cX7_seenWages 84 = .ok (.getfield 67, 3) := by decide +kernel
theorem dX7_seenWages_87 : decode cX7_seenWages 87 = .ok (.iload_n 3, 1) := by decide +kernel
theorem dX7_seenWages_88 : decode cX7_seenWages 88 = .ok (.bipush 24, 2) := by decide +kernel
theorem dX7_seenWages_90 : decode cX7_seenWages 90 = .ok (.imul, 1) := by decide +kernel
theorem dX7_seenWages_91 : decode cX7_seenWages 91 = .ok (.iload 4, 2) := by decide +kernel
theorem dX7_seenWages_93 : decode cX7_seenWages 93 = .ok (.iadd, 1) := by decide +kernel
theorem dX7_seenWages_94 : decode cX7_seenWages 94 = .ok (.aload_n 0, 1) := by decide +kernel
theorem dX7_seenWages_95 : decode cX7_seenWages 95 = .ok (.getfield 47, 3) := by decide +kernel
theorem dX7_seenWages_98 : decode cX7_seenWages 98 = .ok (.iload 4, 2) := by decide +kernel
theorem dX7_seenWages_100 : decode cX7_seenWages 100 = .ok (.invokevirtual 380, 3) := by decide +kernel
theorem dX7_seenWages_103 : decode cX7_seenWages 103 = .ok (.iastore, 1) := by decide +kernel
theorem dX7_seenWages_104 : decode cX7_seenWages 104 = .ok (.iinc 4 1, 3) := by decide +kernel
theorem dX7_seenWages_107 : decode cX7_seenWages 107 = .ok (.goto (-31), 3) := by decide +kernel
theorem dX7_seenWages_110 : decode cX7_seenWages 110 = .ok (.iinc 3 1, 3) := by decide +kernel
theorem dX7_seenWages_113 : decode cX7_seenWages 113 = .ok (.goto (-98), 3) := by decide +kernel
theorem dX7_seenWages_116 : decode cX7_seenWages 116 = .ok (.iload_n 2, 1) := by decide +kernel
theorem dX7_seenWages_117 : decode cX7_seenWages 117 = .ok (.ireturn, 1) := by decide +kernel
set_option maxRecDepth 20000 in
theorem ggX7_seenSorts_X5_copyOf : GoodIn wsX7_seenSorts wsX5_copyOf := goodIn_r _ [12, 13, 14, 15, 16, 127, 128, 129, 130] (by decide +kernel) (by decide +kernel)
set_option maxRecDepth 20000 in
theorem gX7_seenSorts_X5_copyOf : GoodIn wsX7_seenSorts (wsV RX7 364 RX5 yX5_copyOf wsX5_copyOf) := goodIn_app (goodIn_of _ (by decide +kernel)) ggX7_seenSorts_X5_copyOf
set_option maxRecDepth 20000 in
theorem ggX7_seenSorts_X1_run : GoodIn wsX7_seenSorts wsX1_run := goodIn_r _ [21, 22, 23, 24, 25, 26, 27, 28, 29, 20, 30, 31, 32, 33, 34, 35, 36, 37, 38, 39, 40, 41, 42, 43, 44, 45, 46, 47, 48, 49, 50, 51, 52, 53, 54, 55, 56, 57, 58, 59, 60, 61, 62, 63, 64, 65, 66, 67, 68, 69, 70, 71, 72, 73, 74, 75, 76, 77, 78, 79, 80, 81, 82, 83, 84, 85, 86, 87, 88, 89, 90, 91, 92, 93, 94, 95, 96, 97, 131, 132, 133, 134, 135, 136, 137, 138, 139, 140, 141, 142, 127, 128, 129, 130, 143, 144, 145, 146] (by decide +kernel) (by decide +kernel)
set_option maxRecDepth 20000 in
theorem gX7_seenSorts_X1_run : GoodIn wsX7_seenSorts (wsV RX7 225 RX1 yX1_run wsX1_run) := goodIn_app (goodIn_of _ (by decide +kernel)) ggX7_seenSorts_X1_run
set_option maxRecDepth 20000 in
theorem ggX7_seenSorts_X3_comesOut : GoodIn wsX7_seenSorts wsX3_comesOut := goodIn_r _ [102, 103, 104, 105, 106, 107, 108, 109, 110, 20, 111, 96, 147, 148, 149, 150, 131, 132, 133, 134, 135, 136, 137, 138, 139, 140, 141, 142] (by decide +kernel) (by decide +kernel)
set_option maxRecDepth 20000 in
theorem gX7_seenSorts_X3_comesOut : GoodIn wsX7_seenSorts (wsV RX7 229 RX3 yX3_comesOut wsX3_comesOut) := goodIn_app (goodIn_of _ (by decide +kernel)) ggX7_seenSorts_X3_comesOut
theorem dX7_seenSorts_0 : decode cX7_seenSorts 0 = .ok (.iconst 0, 1) := by decide +kernel
theorem dX7_seenSorts_1 : decode cX7_seenSorts 1 = .ok (.istore_n 2, 1) := by decide +kernel
theorem dX7_seenSorts_2 : decode cX7_seenSorts 2 = .ok (.aload_n 0, 1) := by decide +kernel
theorem dX7_seenSorts_3 : decode cX7_seenSorts 3 = .ok (.getfield 23, 3) := by decide +kernel
theorem dX7_seenSorts_6 : decode cX7_seenSorts 6 = .ok (.aload_n 0, 1) := by decide +kernel
theorem dX7_seenSorts_7 : decode cX7_seenSorts 7 = .ok (.getfield 19, 3) := by decide +kernel
theorem dX7_seenSorts_10 : decode cX7_seenSorts 10 = .ok (.invokevirtual 364, 3) := by decide +kernel
theorem dX7_seenSorts_13 : decode cX7_seenSorts 13 = .ok (.iconst 0, 1) := by decide +kernel
theorem dX7_seenSorts_14 : decode cX7_seenSorts 14 = .ok (.istore_n 3, 1) := by decide +kernel
theorem dX7_seenSorts_15 : decode cX7_seenSorts 15 = .ok (.iload_n 3, 1) := by decide +kernel
theorem dX7_seenSorts_16 : decode cX7_seenSorts 16 = .ok (.iconst 4, 1) := by decide +kernel
theorem dX7_seenSorts_17 : decode cX7_seenSorts 17 = .ok (.if_icmp .ge 61, 3) := by decide +kernel
theorem dX7_seenSorts_20 : decode cX7_seenSorts 20 = .ok (.aload_n 0, 1) := by decide +kernel
theorem dX7_seenSorts_21 : decode cX7_seenSorts 21 = .ok (.getfield 23, 3) := by decide +kernel
theorem dX7_seenSorts_24 : decode cX7_seenSorts 24 = .ok (.getfield 106, 3) := by decide +kernel
theorem dX7_seenSorts_27 : decode cX7_seenSorts 27 = .ok (.iload_n 1, 1) := by decide +kernel
theorem dX7_seenSorts_28 : decode cX7_seenSorts 28 = .ok (.iload_n 3, 1) := by decide +kernel
theorem dX7_seenSorts_29 : decode cX7_seenSorts 29 = .ok (.iastore, 1) := by decide +kernel
theorem dX7_seenSorts_30 : decode cX7_seenSorts 30 = .ok (.aload_n 0, 1) := by decide +kernel
theorem dX7_seenSorts_31 : decode cX7_seenSorts 31 = .ok (.getfield 47, 3) := by decide +kernel
theorem dX7_seenSorts_34 : decode cX7_seenSorts 34 = .ok (.aload_n 0, 1) := by decide +kernel
theorem dX7_seenSorts_35 : decode cX7_seenSorts 35 = .ok (.getfield 23, 3) := by decide +kernel
theorem dX7_seenSorts_38 : decode cX7_seenSorts 38 = .ok (.aload_n 0, 1) := by decide +kernel
theorem dX7_seenSorts_39 : decode cX7_seenSorts 39 = .ok (.getfield 29, 3) := by decide +kernel
theorem dX7_seenSorts_42 : decode cX7_seenSorts 42 = .ok (.sipush 255, 3) := by decide +kernel
theorem dX7_seenSorts_45 : decode cX7_seenSorts 45 = .ok (.aload_n 0, 1) := by decide +kernel
theorem dX7_seenSorts_46 : decode cX7_seenSorts 46 = .ok (.getfield 70, 3) := by decide +kernel
theorem dX7_seenSorts_49 : decode cX7_seenSorts 49 = .ok (.invokevirtual 225, 3) := by decide +kernel
theorem dX7_seenSorts_52 : decode cX7_seenSorts 52 = .ok (.aload_n 0, 1) := by decide +kernel
theorem dX7_seenSorts_53 : decode cX7_seenSorts 53 = .ok (.getfield 36, 3) := by decide +kernel
theorem dX7_seenSorts_56 : decode cX7_seenSorts 56 = .ok (.aload_n 0, 1) := by decide +kernel
theorem dX7_seenSorts_57 : decode cX7_seenSorts 57 = .ok (.getfield 47, 3) := by decide +kernel
theorem dX7_seenSorts_60 : decode cX7_seenSorts 60 = .ok (.invokevirtual 229, 3) := by decide +kernel
theorem dX7_seenSorts_63 : decode cX7_seenSorts 63 = .ok (.ifCond .eq 9, 3) := by decide +kernel
theorem dX7_seenSorts_66 : decode cX7_seenSorts 66 = .ok (.iload_n 2, 1) := by decide +kernel
theorem dX7_seenSorts_67 : decode cX7_seenSorts 67 = .ok (.iconst 1, 1) := by decide +kernel
theorem dX7_seenSorts_68 : decode cX7_seenSorts 68 = .ok (.iload_n 3, 1) := by decide +kernel
theorem dX7_seenSorts_69 : decode cX7_seenSorts 69 = .ok (.ishl, 1) := by decide +kernel
theorem dX7_seenSorts_70 : decode cX7_seenSorts 70 = .ok (.ior, 1) := by decide +kernel
theorem dX7_seenSorts_71 : decode cX7_seenSorts 71 = .ok (.istore_n 2, 1) := by decide +kernel
theorem dX7_seenSorts_72 : decode cX7_seenSorts 72 = .ok (.iinc 3 1, 3) := by decide +kernel
theorem dX7_seenSorts_75 : decode cX7_seenSorts 75 = .ok (.goto (-60), 3) := by decide +kernel
theorem dX7_seenSorts_78 : decode cX7_seenSorts 78 = .ok (.iload_n 2, 1) := by decide +kernel
theorem dX7_seenSorts_79 : decode cX7_seenSorts 79 = .ok (.ireturn, 1) := by decide +kernel
theorem dX7_greatestAlike_0 : decode cX7_greatestAlike 0 = .ok (.iconst 0, 1) := by decide +kernel
theorem dX7_greatestAlike_1 : decode cX7_greatestAlike 1 = .ok (.istore_n 3, 1) := by decide +kernel
theorem dX7_greatestAlike_2 : decode cX7_greatestAlike 2 = .ok (.iconst 0, 1) := by decide +kernel
theorem dX7_greatestAlike_3 : decode cX7_greatestAlike 3 = .ok (.istore 4, 2) := by decide +kernel
theorem dX7_greatestAlike_5 : decode cX7_greatestAlike 5 = .ok (.iload 4, 2) := by decide +kernel
theorem dX7_greatestAlike_7 : decode cX7_greatestAlike 7 = .ok (.bipush 10, 2) := by decide +kernel
theorem dX7_greatestAlike_9 : decode cX7_greatestAlike 9 = .ok (.if_icmp .ge 83, 3) := by decide +kernel
theorem dX7_greatestAlike_12 : decode cX7_greatestAlike 12 = .ok (.iconst 0, 1) := by decide +kernel
theorem dX7_greatestAlike_13 : decode cX7_greatestAlike 13 = .ok (.istore 5, 2) := by decide +kernel
theorem dX7_greatestAlike_15 : decode cX7_greatestAlike 15 = .ok (.iconst 0, 1) := by decide +kernel
theorem dX7_greatestAlike_16 : decode cX7_greatestAlike 16 = .ok (.istore 6, 2) := by decide +kernel
theorem dX7_greatestAlike_18 : decode cX7_greatestAlike 18 = .ok (.iload 6, 2) := by decide +kernel
theorem dX7_greatestAlike_20 : decode cX7_greatestAlike 20 = .ok (.bipush 10, 2) := by decide +kernel
theorem dX7_greatestAlike_22 : decode cX7_greatestAlike 22 = .ok (.if_icmp .ge 48, 3) := by decide +kernel
theorem dX7_greatestAlike_25 : decode cX7_greatestAlike 25 = .ok (.iload_n 1, 1) := by decide +kernel
theorem dX7_greatestAlike_26 : decode cX7_greatestAlike 26 = .ok (.iload 6, 2) := by decide +kernel
theorem dX7_greatestAlike_28 : decode cX7_greatestAlike 28 = .ok (.ishr, 1) := by decide +kernel
theorem dX7_greatestAlike_29 : decode cX7_greatestAlike 29 = .ok (.iconst 1, 1) := by decide +kernel
theorem dX7_greatestAlike_30 : decode cX7_greatestAlike 30 = .ok (.iand, 1) := by decide +kernel
theorem dX7_greatestAlike_31 : decode cX7_greatestAlike 31 = .ok (.ifCond .eq 33, 3) := by decide +kernel
theorem dX7_greatestAlike_34 : decode cX7_greatestAlike 34 = .ok (.aload_n 0, 1) := by decide +kernel
theorem dX7_greatestAlike_35 : decode cX7_greatestAlike 35 = .ok (.getfield 67, 3) := by decide +kernel
theorem dX7_greatestAlike_38 : decode cX7_greatestAlike 38 = .ok (.iload 6, 2) := by decide +kernel
theorem dX7_greatestAlike_40 : decode cX7_greatestAlike 40 = .ok (.bipush 24, 2) := by decide +kernel
theorem dX7_greatestAlike_42 : decode cX7_greatestAlike 42 = .ok (.imul, 1) := by decide +kernel
theorem dX7_greatestAlike_43 : decode cX7_greatestAlike 43 = .ok (.iload_n 2, 1) := by decide +kernel
theorem dX7_greatestAlike_44 : decode cX7_greatestAlike 44 = .ok (.iadd, 1) := by decide +kernel
theorem dX7_greatestAlike_45 : decode cX7_greatestAlike 45 = .ok (.iaload, 1) := by decide +kernel
theorem dX7_greatestAlike_46 : decode cX7_greatestAlike 46 = .ok (.aload_n 0, 1) := by decide +kernel
theorem dX7_greatestAlike_47 : decode cX7_greatestAlike 47 = .ok (.getfield 67, 3) := by decide +kernel
theorem dX7_greatestAlike_50 : decode cX7_greatestAlike 50 = .ok (.iload 4, 2) := by decide +kernel
theorem dX7_greatestAlike_52 : decode cX7_greatestAlike 52 = .ok (.bipush 24, 2) := by decide +kernel
theorem dX7_greatestAlike_54 : decode cX7_greatestAlike 54 = .ok (.imul, 1) := by decide +kernel
theorem dX7_greatestAlike_55 : decode cX7_greatestAlike 55 = .ok (.iload_n 2, 1) := by decide +kernel
theorem dX7_greatestAlike_56 : decode cX7_greatestAlike 56 = .ok (.iadd, 1) := by decide +kernel
theorem dX7_greatestAlike_57 : decode cX7_greatestAlike 57 = .ok (.iaload, 1) := by decide +kernel
theorem dX7_greatestAlike_58 : decode cX7_greatestAlike 58 = .ok (.if_icmp .ne 6, 3) := by decide +kernel
theorem dX7_greatestAlike_61 : decode cX7_greatestAlike 61 = .ok (.iinc 5 1, 3) := by decide +kernel
theorem dX7_greatestAlike_64 : decode cX7_greatestAlike 64 = .ok (.iinc 6 1, 3) := by decide +kernel
theorem dX7_greatestAlike_67 : decode cX7_greatestAlike 67 = .ok (.goto (-49), 3) := by decide +kernel
theorem dX7_greatestAlike_70 : decode cX7_greatestAlike 70 = .ok (.iload_n 1, 1) := by decide +kernel
theorem dX7_greatestAlike_71 : decode cX7_greatestAlike 71 = .ok (.iload 4, 2) := by decide +kernel
theorem dX7_greatestAlike_73 : decode cX7_greatestAlike 73 = .ok (.ishr, 1) := by decide +kernel
theorem dX7_greatestAlike_74 : decode cX7_greatestAlike 74 = .ok (.iconst 1, 1) := by decide +kernel
theorem dX7_greatestAlike_75 : decode cX7_greatestAlike 75 = .ok (.iand, 1) := by decide +kernel
theorem dX7_greatestAlike_76 : decode cX7_greatestAlike 76 = .ok (.ifCond .eq 10, 3) := by decide +kernel
theorem dX7_greatestAlike_79 : decode cX7_greatestAlike 79 = .ok (.iload_n 3, 1) := by decide +kernel
theorem dX7_greatestAlike_80 : decode cX7_greatestAlike 80 = .ok (.iload 5, 2) := by decide +kernel
theorem dX7_greatestAlike_82 : decode cX7_greatestAlike 82 = .ok (.invokestatic 383, 3) := by decide +kernel
theorem dX7_greatestAlike_85 : decode cX7_greatestAlike 85 = .ok (.istore_n 3, 1) := by decide +kernel
theorem dX7_greatestAlike_86 : decode cX7_greatestAlike 86 = .ok (.iinc 4 1, 3) := by decide +kernel
theorem dX7_greatestAlike_89 : decode cX7_greatestAlike 89 = .ok (.goto (-84), 3) := by decide +kernel
theorem dX7_greatestAlike_92 : decode cX7_greatestAlike 92 = .ok (.iload_n 3, 1) := by decide +kernel
theorem dX7_greatestAlike_93 : decode cX7_greatestAlike 93 = .ok (.ireturn, 1) := by decide +kernel
theorem dX7_weight_0 : decode cX7_weight 0 = .ok (.lconst 1, 1) := by decide +kernel
theorem dX7_weight_1 : decode cX7_weight 1 = .ok (.lstore_n 3, 1) := by decide +kernel
theorem dX7_weight_2 : decode cX7_weight 2 = .ok (.iconst 0, 1) := by decide +kernel
theorem dX7_weight_3 : decode cX7_weight 3 = .ok (.istore 5, 2) := by decide +kernel
theorem dX7_weight_5 : decode cX7_weight 5 = .ok (.iload 5, 2) := by decide +kernel
theorem dX7_weight_7 : decode cX7_weight 7 = .ok (.aload_n 0, 1) := by decide +kernel
theorem dX7_weight_8 : decode cX7_weight 8 = .ok (.getfield 29, 3) := by decide +kernel
theorem dX7_weight_11 : decode cX7_weight 11 = .ok (.getfield 121, 3) := by decide +kernel
theorem dX7_weight_14 : decode cX7_weight 14 = .ok (.if_icmp .ge 31, 3) := by decide +kernel
theorem dX7_weight_17 : decode cX7_weight 17 = .ok (.lload_n 3, 1) := by decide +kernel
theorem dX7_weight_18 : decode cX7_weight 18 = .ok (.iload_n 2, 1) := by decide +kernel
theorem dX7_weight_19 : decode cX7_weight 19 = .ok (.iload 5, 2) := by decide +kernel
theorem dX7_weight_21 : decode cX7_weight 21 = .ok (.ishr, 1) := by decide +kernel
theorem dX7_weight_22 : decode cX7_weight 22 = .ok (.iconst 1, 1) := by decide +kernel
theorem dX7_weight_23 : decode cX7_weight 23 = .ok (.iand, 1) := by decide +kernel
theorem dX7_weight_24 : decode cX7_weight 24 = .ok (.ifCond .eq 8, 3) := by decide +kernel
theorem dX7_weight_27 : decode cX7_weight 27 = .ok (.iload_n 1, 1) := by decide +kernel
theorem dX7_weight_28 : decode cX7_weight 28 = .ok (.i2l, 1) := by decide +kernel
theorem dX7_weight_29 : decode cX7_weight 29 = .ok (.goto 8, 3) := by decide +kernel
theorem dX7_weight_32 : decode cX7_weight 32 = .ok (.bipush 16, 2) := by decide +kernel
theorem dX7_weight_34 : decode cX7_weight 34 = .ok (.iload_n 1, 1) := by decide +kernel
theorem dX7_weight_35 : decode cX7_weight 35 = .ok (.isub, 1) := by decide +kernel
theorem dX7_weight_36 : decode cX7_weight 36 = .ok (.i2l, 1) := by decide +kernel
theorem dX7_weight_37 : decode cX7_weight 37 = .ok (.lmul, 1) := by decide +kernel
theorem dX7_weight_38 : decode cX7_weight 38 = .ok (.lstore_n 3, 1) := by decide +kernel
theorem dX7_weight_39 : decode cX7_weight 39 = .ok (.iinc 5 1, 3) := by decide +kernel
theorem dX7_weight_42 : decode cX7_weight 42 = .ok (.goto (-37), 3) := by decide +kernel
theorem dX7_weight_45 : decode cX7_weight 45 = .ok (.lload_n 3, 1) := by decide +kernel
theorem dX7_weight_46 : decode cX7_weight 46 = .ok (.lreturn, 1) := by decide +kernel
theorem dX7_commonDivisor_0 : decode cX7_commonDivisor 0 = .ok (.lload_n 0, 1) := by decide +kernel
theorem dX7_commonDivisor_1 : decode cX7_commonDivisor 1 = .ok (.lstore 4, 2) := by decide +kernel
theorem dX7_commonDivisor_3 : decode cX7_commonDivisor 3 = .ok (.lload_n 2, 1) := by decide +kernel
theorem dX7_commonDivisor_4 : decode cX7_commonDivisor 4 = .ok (.lstore 6, 2) := by decide +kernel
theorem dX7_commonDivisor_6 : decode cX7_commonDivisor 6 = .ok (.iconst 0, 1) := by decide +kernel
theorem dX7_commonDivisor_7 : decode cX7_commonDivisor 7 = .ok (.istore 8, 2) := by decide +kernel
theorem dX7_commonDivisor_9 : decode cX7_commonDivisor 9 = .ok (.iload 8, 2) := by decide +kernel
theorem dX7_commonDivisor_11 : decode cX7_commonDivisor 11 = .ok (.sipush 200, 3) := by decide +kernel
theorem dX7_commonDivisor_14 : decode cX7_commonDivisor 14 = .ok (.if_icmp .ge 31, 3) := by decide +kernel
theorem dX7_commonDivisor_17 : decode cX7_commonDivisor 17 = .ok (.lload 6, 2) := by decide +kernel
theorem dX7_commonDivisor_19 : decode cX7_commonDivisor 19 = .ok (.lconst 0, 1) := by decide +kernel
theorem dX7_commonDivisor_20 : decode cX7_commonDivisor 20 = .ok (.lcmp, 1) := by decide +kernel
theorem dX7_commonDivisor_21 : decode cX7_commonDivisor 21 = .ok (.ifCond .le 24, 3) := by decide +kernel
theorem dX7_commonDivisor_24 : decode cX7_commonDivisor 24 = .ok (.lload 4, 2) := by decide +kernel
theorem dX7_commonDivisor_26 : decode cX7_commonDivisor 26 = .ok (.lload 6, 2) := by decide +kernel
theorem dX7_commonDivisor_28 : decode cX7_commonDivisor 28 = .ok (.lrem, 1) := by decide +kernel
theorem dX7_commonDivisor_29 : decode cX7_commonDivisor 29 = .ok (.lstore 9, 2) := by decide +kernel
theorem dX7_commonDivisor_31 : decode cX7_commonDivisor 31 = .ok (.lload 6, 2) := by decide +kernel
theorem dX7_commonDivisor_33 : decode cX7_commonDivisor 33 = .ok (.lstore 4, 2) := by decide +kernel
theorem dX7_commonDivisor_35 : decode cX7_commonDivisor 35 = .ok (.lload 9, 2) := by decide +kernel
theorem dX7_commonDivisor_37 : decode cX7_commonDivisor 37 = .ok (.lstore 6, 2) := by decide +kernel
theorem dX7_commonDivisor_39 : decode cX7_commonDivisor 39 = .ok (.iinc 8 1, 3) := by decide +kernel
theorem dX7_commonDivisor_42 : decode cX7_commonDivisor 42 = .ok (.goto (-33), 3) := by decide +kernel
theorem dX7_commonDivisor_45 : decode cX7_commonDivisor 45 = .ok (.lconst 1, 1) := by decide +kernel
theorem dX7_commonDivisor_46 : decode cX7_commonDivisor 46 = .ok (.lload 4, 2) := by decide +kernel
theorem dX7_commonDivisor_48 : decode cX7_commonDivisor 48 = .ok (.invokestatic 386, 3) := by decide +kernel
theorem dX7_commonDivisor_51 : decode cX7_commonDivisor 51 = .ok (.lreturn, 1) := by decide +kernel
theorem dX8_init_0 : decode cX8_init 0 = .ok (.aload_n 0, 1) := by decide +kernel
theorem dX8_init_1 : decode cX8_init 1 = .ok (.invokespecial 1, 3) := by decide +kernel
theorem dX8_init_4 : decode cX8_init 4 = .ok (.aload_n 0, 1) := by decide +kernel
theorem dX8_init_5 : decode cX8_init 5 = .ok (.iconst 4, 1) := by decide +kernel
theorem dX8_init_6 : decode cX8_init 6 = .ok (.newarray .int, 2) := by decide +kernel
theorem dX8_init_8 : decode cX8_init 8 = .ok (.putfield 7, 3) := by decide +kernel
theorem dX8_init_11 : decode cX8_init 11 = .ok (.aload_n 0, 1) := by decide +kernel
theorem dX8_init_12 : decode cX8_init 12 = .ok (.iconst 4, 1) := by decide +kernel
theorem dX8_init_13 : decode cX8_init 13 = .ok (.newarray .int, 2) := by decide +kernel
theorem dX8_init_15 : decode cX8_init 15 = .ok (.putfield 13, 3) := by decide +kernel
theorem dX8_init_18 : decode cX8_init 18 = .ok (.aload_n 0, 1) := by decide +kernel
theorem dX8_init_19 : decode cX8_init 19 = .ok (.sipush 240, 3) := by decide +kernel
theorem dX8_init_22 : decode cX8_init 22 = .ok (.newarray .int, 2) := by decide +kernel
theorem dX8_init_24 : decode cX8_init 24 = .ok (.putfield 16, 3) := by decide +kernel
theorem dX8_init_27 : decode cX8_init 27 = .ok (.aload_n 0, 1) := by decide +kernel
theorem dX8_init_28 : decode cX8_init 28 = .ok (.bipush 60, 2) := by decide +kernel
theorem dX8_init_30 : decode cX8_init 30 = .ok (.newarray .int, 2) := by decide +kernel
theorem dX8_init_32 : decode cX8_init 32 = .ok (.putfield 19, 3) := by decide +kernel
theorem dX8_init_35 : decode cX8_init 35 = .ok (.aload_n 0, 1) := by decide +kernel
theorem dX8_init_36 : decode cX8_init 36 = .ok (.bipush 31, 2) := by decide +kernel
theorem dX8_init_38 : decode cX8_init 38 = .ok (.newarray .int, 2) := by decide +kernel
theorem dX8_init_40 : decode cX8_init 40 = .ok (.putfield 22, 3) := by decide +kernel
theorem dX8_init_43 : decode cX8_init 43 = .ok (.aload_n 0, 1) := by decide +kernel
theorem dX8_init_44 : decode cX8_init 44 = .ok (.bipush 24, 2) := by decide +kernel
theorem dX8_init_46 : decode cX8_init 46 = .ok (.newarray .int, 2) := by decide +kernel
theorem dX8_init_48 : decode cX8_init 48 = .ok (.putfield 25, 3) := by decide +kernel
theorem dX8_init_51 : decode cX8_init 51 = .ok (.aload_n 0, 1) := by decide +kernel
theorem dX8_init_52 : decode cX8_init 52 = .ok (.bipush 24, 2) := by decide +kernel
theorem dX8_init_54 : decode cX8_init 54 = .ok (.newarray .int, 2) := by decide +kernel
theorem dX8_init_56 : decode cX8_init 56 = .ok (.putfield 28, 3) := by decide +kernel
theorem dX8_init_59 : decode cX8_init 59 = .ok (.aload_n 0, 1) := by decide +kernel
theorem dX8_init_60 : decode cX8_init 60 = .ok (.bipush 8, 2) := by decide +kernel
theorem dX8_init_62 : decode cX8_init 62 = .ok (.newarray .int, 2) := by decide +kernel
theorem dX8_init_64 : decode cX8_init 64 = .ok (.putfield 31, 3) := by decide +kernel
theorem dX8_init_67 : decode cX8_init 67 = .ok (.aload_n 0, 1) := by decide +kernel
theorem dX8_init_68 : decode cX8_init 68 = .ok (.bipush 8, 2) := by decide +kernel
theorem dX8_init_70 : decode cX8_init 70 = .ok (.newarray .int, 2) := by decide +kernel
theorem dX8_init_72 : decode cX8_init 72 = .ok (.putfield 34, 3) := by decide +kernel
theorem dX8_init_75 : decode cX8_init 75 = .ok (.aload_n 0, 1) := by decide +kernel
theorem dX8_init_76 : decode cX8_init 76 = .ok (.bipush 8, 2) := by decide +kernel
theorem dX8_init_78 : decode cX8_init 78 = .ok (.newarray .int, 2) := by decide +kernel
theorem dX8_init_80 : decode cX8_init 80 = .ok (.putfield 37, 3) := by decide +kernel
theorem dX8_init_83 : decode cX8_init 83 = .ok (.aload_n 0, 1) := by decide +kernel
theorem dX8_init_84 : decode cX8_init 84 = .ok (.bipush 8, 2) := by decide +kernel
theorem dX8_init_86 : decode cX8_init 86 = .ok (.newarray .int, 2) := by decide +kernel
theorem dX8_init_88 : decode cX8_init 88 = .ok (.putfield 40, 3) := by decide +kernel
theorem dX8_init_91 : decode cX8_init 91 = .ok (.aload_n 0, 1) := by decide +kernel
theorem dX8_init_92 : decode cX8_init 92 = .ok (.bipush 8, 2) := by decide +kernel
theorem dX8_init_94 : decode cX8_init 94 = .ok (.newarray .int, 2) := by decide +kernel
theorem dX8_init_96 : decode cX8_init 96 = .ok (.putfield 43, 3) := by decide +kernel
theorem dX8_init_99 : decode cX8_init 99 = .ok (.aload_n 0, 1) := by decide +kernel
theorem dX8_init_100 : decode cX8_init 100 = .ok (.bipush 8, 2) := by decide +kernel
theorem dX8_init_102 : decode cX8_init 102 = .ok (.newarray .int, 2) := by decide +kernel
theorem dX8_init_104 : decode cX8_init 104 = .ok (.putfield 46, 3) := by decide +kernel
theorem dX8_init_107 : decode cX8_init 107 = .ok (.aload_n 0, 1) := by decide +kernel
theorem dX8_init_108 : decode cX8_init 108 = .ok (.bipush 8, 2) := by decide +kernel
theorem dX8_init_110 : decode cX8_init 110 = .ok (.newarray .int, 2) := by decide +kernel
theorem dX8_init_112 : decode cX8_init 112 = .ok (.putfield 49, 3) := by decide +kernel
theorem dX8_init_115 : decode cX8_init 115 = .ok (.aload_n 0, 1) := by decide +kernel
theorem dX8_init_116 : decode cX8_init 116 = .ok (.bipush 13, 2) := by decide +kernel
theorem dX8_init_118 : decode cX8_init 118 = .ok (.newarray .int, 2) := by decide +kernel
theorem dX8_init_120 : decode cX8_init 120 = .ok (.putfield 52, 3) := by decide +kernel
theorem dX8_init_123 : decode cX8_init 123 = .ok (.aload_n 0, 1) := by decide +kernel
theorem dX8_init_124 : decode cX8_init 124 = .ok (.sipush 192, 3) := by decide +kernel
theorem dX8_init_127 : decode cX8_init 127 = .ok (.newarray .int, 2) := by decide +kernel
theorem dX8_init_129 : decode cX8_init 129 = .ok (.putfield 55, 3) := by decide +kernel
theorem dX8_init_132 : decode cX8_init 132 = .ok (.aload_n 0, 1) := by decide +kernel
theorem dX8_init_133 : decode cX8_init 133 = .ok (.sipush 192, 3) := by decide +kernel
theorem dX8_init_136 : decode cX8_init 136 = .ok (.newarray .int, 2) := by decide +kernel
theorem dX8_init_138 : decode cX8_init 138 = .ok (.putfield 58, 3) := by decide +kernel
theorem dX8_init_141 : decode cX8_init 141 = .ok (.aload_n 0, 1) := by decide +kernel
theorem dX8_init_142 : decode cX8_init 142 = .ok (.sipush 192, 3) := by decide +kernel
theorem dX8_init_145 : decode cX8_init 145 = .ok (.newarray .int, 2) := by decide +kernel
theorem dX8_init_147 : decode cX8_init 147 = .ok (.putfield 61, 3) := by decide +kernel
theorem dX8_init_150 : decode cX8_init 150 = .ok (.aload_n 0, 1) := by decide +kernel
theorem dX8_init_151 : decode cX8_init 151 = .ok (.bipush 24, 2) := by decide +kernel
theorem dX8_init_153 : decode cX8_init 153 = .ok (.newarray .int, 2) := by decide +kernel
theorem dX8_init_155 : decode cX8_init 155 = .ok (.putfield 64, 3) := by decide +kernel
theorem dX8_init_158 : decode cX8_init 158 = .ok (.aload_n 0, 1) := by decide +kernel
theorem dX8_init_159 : decode cX8_init 159 = .ok (.sipush 240, 3) := by decide +kernel
theorem dX8_init_162 : decode cX8_init 162 = .ok (.newarray .long, 2) := by decide +kernel
theorem dX8_init_164 : decode cX8_init 164 = .ok (.putfield 67, 3) := by decide +kernel
theorem dX8_init_167 : decode cX8_init 167 = .ok (.iconst 0, 1) := by decide +kernel
theorem dX8_init_168 : decode cX8_init 168 = .ok (.istore_n 1, 1) := by decide +kernel
theorem dX8_init_169 : decode cX8_init 169 = .ok (.iload_n 1, 1) := by decide +kernel
theorem dX8_init_170 : decode cX8_init 170 = .ok (.iconst 4, 1) := by decide +kernel
theorem dX8_init_171 : decode cX8_init 171 = .ok (.if_icmp .ge 16, 3) := by decide +kernel
theorem dX8_init_174 : decode cX8_init 174 = .ok (.aload_n 0, 1) := by decide +kernel
theorem dX8_init_175 : decode cX8_init 175 = .ok (.getfield 7, 3) := by decide +kernel
theorem dX8_init_178 : decode cX8_init 178 = .ok (.iload_n 1, 1) := by decide +kernel
theorem dX8_init_179 : decode cX8_init 179 = .ok (.iconst (-1), 1) := by decide +kernel
theorem dX8_init_180 : decode cX8_init 180 = .ok (.iastore, 1) := by decide +kernel
theorem dX8_init_181 : decode cX8_init 181 = .ok (.iinc 1 1, 3) := by decide +kernel
theorem dX8_init_184 : decode cX8_init 184 = .ok (.goto (-15), 3) := by decide +kernel
theorem dX8_init_187 : decode cX8_init 187 = .ok (.aload_n 0, 1) := by decide +kernel
theorem dX8_init_188 : decode cX8_init 188 = .ok (.iconst 2, 1) := by decide +kernel
theorem dX8_init_189 : decode cX8_init 189 = .ok (.putfield 71, 3) := by decide +kernel
theorem dX8_init_192 : decode cX8_init 192 = .ok (.return_, 1) := by decide +kernel
theorem dX8_in_0 : decode cX8_in 0 = .ok (.lload_n 0, 1) := by decide +kernel
theorem dX8_in_1 : decode cX8_in 1 = .ok (.lload_n 2, 1) := by decide +kernel
theorem dX8_in_2 : decode cX8_in 2 = .ok (.lcmp, 1) := by decide +kernel
theorem dX8_in_3 : decode cX8_in 3 = .ok (.ifCond .lt 14, 3) := by decide +kernel
theorem dX8_in_6 : decode cX8_in 6 = .ok (.lload_n 0, 1) := by decide +kernel
theorem dX8_in_7 : decode cX8_in 7 = .ok (.lload 4, 2) := by decide +kernel
theorem dX8_in_9 : decode cX8_in 9 = .ok (.lcmp, 1) := by decide +kernel
theorem dX8_in_10 : decode cX8_in 10 = .ok (.ifCond .gt 7, 3) := by decide +kernel
theorem dX8_in_13 : decode cX8_in 13 = .ok (.iconst 1, 1) := by decide +kernel
theorem dX8_in_14 : decode cX8_in 14 = .ok (.goto 4, 3) := by decide +kernel
theorem dX8_in_17 : decode cX8_in 17 = .ok (.iconst 0, 1) := by decide +kernel
theorem dX8_in_18 : decode cX8_in 18 = .ok (.ireturn, 1) := by decide +kernel
theorem dX8_no_0 : decode cX8_no 0 = .ok (.ldc2_w 75, 3) := by decide +kernel
theorem dX8_no_3 : decode cX8_no 3 = .ok (.iload_n 0, 1) := by decide +kernel
theorem dX8_no_4 : decode cX8_no 4 = .ok (.i2l, 1) := by decide +kernel
theorem dX8_no_5 : decode cX8_no 5 = .ok (.lsub, 1) := by decide +kernel
theorem dX8_no_6 : decode cX8_no 6 = .ok (.lreturn, 1) := by decide +kernel
set_option maxRecDepth 20000 in
theorem ggX8_isTwo_X8_in : GoodIn wsX8_isTwo wsX8_in := goodIn_r _ [4] (by decide +kernel) (by decide +kernel)
set_option maxRecDepth 20000 in
theorem gX8_isTwo_X8_in : GoodIn wsX8_isTwo (va_wsS RX8 77 yX8_in wsX8_in) := goodIn_app (goodIn_of _ (by decide +kernel)) ggX8_isTwo_X8_in
theorem dX8_isTwo_0 : decode cX8_isTwo 0 = .ok (.iload_n 0, 1) := by decide +kernel
theorem dX8_isTwo_1 : decode cX8_isTwo 1 = .ok (.i2l, 1) := by decide +kernel
theorem dX8_isTwo_2 : decode cX8_isTwo 2 = .ok (.lconst 0, 1) := by decide +kernel
theorem dX8_isTwo_3 : decode cX8_isTwo 3 = .ok (.lconst 1, 1) := by decide +kernel
theorem dX8_isTwo_4 : decode cX8_isTwo 4 = .ok (.invokestatic 77, 3) := by decide +kernel
theorem dX8_isTwo_7 : decode cX8_isTwo 7 = .ok (.ireturn, 1) := by decide +kernel
theorem dX8_isIn_0 : decode cX8_isIn 0 = .ok (.iload_n 0, 1) := by decide +kernel
theorem dX8_isIn_1 : decode cX8_isIn 1 = .ok (.iload_n 1, 1) := by decide +kernel
theorem dX8_isIn_2 : decode cX8_isIn 2 = .ok (.ishr, 1) := by decide +kernel
theorem dX8_isIn_3 : decode cX8_isIn 3 = .ok (.iconst 1, 1) := by decide +kernel
theorem dX8_isIn_4 : decode cX8_isIn 4 = .ok (.iand, 1) := by decide +kernel
theorem dX8_isIn_5 : decode cX8_isIn 5 = .ok (.iconst 1, 1) := by decide +kernel
theorem dX8_isIn_6 : decode cX8_isIn 6 = .ok (.if_icmp .ne 7, 3) := by decide +kernel
theorem dX8_isIn_9 : decode cX8_isIn 9 = .ok (.iconst 1, 1) := by decide +kernel
theorem dX8_isIn_10 : decode cX8_isIn 10 = .ok (.goto 4, 3) := by decide +kernel
theorem dX8_isIn_13 : decode cX8_isIn 13 = .ok (.iconst 0, 1) := by decide +kernel
theorem dX8_isIn_14 : decode cX8_isIn 14 = .ok (.ireturn, 1) := by decide +kernel
theorem dX8_lesser_0 : decode cX8_lesser 0 = .ok (.iload_n 0, 1) := by decide +kernel
theorem dX8_lesser_1 : decode cX8_lesser 1 = .ok (.iload_n 1, 1) := by decide +kernel
theorem dX8_lesser_2 : decode cX8_lesser 2 = .ok (.if_icmp .ge 7, 3) := by decide +kernel
theorem dX8_lesser_5 : decode cX8_lesser 5 = .ok (.iload_n 0, 1) := by decide +kernel
theorem dX8_lesser_6 : decode cX8_lesser 6 = .ok (.goto 4, 3) := by decide +kernel
theorem dX8_lesser_9 : decode cX8_lesser 9 = .ok (.iload_n 1, 1) := by decide +kernel
theorem dX8_lesser_10 : decode cX8_lesser 10 = .ok (.ireturn, 1) := by decide +kernel
theorem dX8_greater_0 : decode cX8_greater 0 = .ok (.iload_n 0, 1) := by decide +kernel
theorem dX8_greater_1 : decode cX8_greater 1 = .ok (.iload_n 1, 1) := by decide +kernel
theorem dX8_greater_2 : decode cX8_greater 2 = .ok (.if_icmp .le 7, 3) := by decide +kernel
theorem dX8_greater_5 : decode cX8_greater 5 = .ok (.iload_n 0, 1) := by decide +kernel
theorem dX8_greater_6 : decode cX8_greater 6 = .ok (.goto 4, 3) := by decide +kernel
theorem dX8_greater_9 : decode cX8_greater 9 = .ok (.iload_n 1, 1) := by decide +kernel
theorem dX8_greater_10 : decode cX8_greater 10 = .ok (.ireturn, 1) := by decide +kernel
theorem dX8_part_0 : decode cX8_part 0 = .ok (.lload_n 0, 1) := by decide +kernel
theorem dX8_part_1 : decode cX8_part 1 = .ok (.lstore 5, 2) := by decide +kernel
theorem dX8_part_3 : decode cX8_part 3 = .ok (.lload_n 2, 1) := by decide +kernel
theorem dX8_part_4 : decode cX8_part 4 = .ok (.lstore 7, 2) := by decide +kernel
theorem dX8_part_6 : decode cX8_part 6 = .ok (.lload 7, 2) := by decide +kernel
theorem dX8_part_8 : decode cX8_part 8 = .ok (.lconst 0, 1) := by decide +kernel
theorem dX8_part_9 : decode cX8_part 9 = .ok (.lcmp, 1) := by decide +kernel
theorem dX8_part_10 : decode cX8_part 10 = .ok (.ifCond .eq 21, 3) := by decide +kernel
theorem dX8_part_13 : decode cX8_part 13 = .ok (.lload 5, 2) := by decide +kernel
theorem dX8_part_15 : decode cX8_part 15 = .ok (.lload 7, 2) := by decide +kernel
theorem dX8_part_17 : decode cX8_part 17 = .ok (.lrem, 1) := by decide +kernel
theorem dX8_part_18 : decode cX8_part 18 = .ok (.lstore 9, 2) := by decide +kernel
theorem dX8_part_20 : decode cX8_part 20 = .ok (.lload 7, 2) := by decide +kernel
theorem dX8_part_22 : decode cX8_part 22 = .ok (.lstore 5, 2) := by decide +kernel
theorem dX8_part_24 : decode cX8_part 24 = .ok (.lload 9, 2) := by decide +kernel
theorem dX8_part_26 : decode cX8_part 26 = .ok (.lstore 7, 2) := by decide +kernel
theorem dX8_part_28 : decode cX8_part 28 = .ok (.goto (-22), 3) := by decide +kernel
theorem dX8_part_31 : decode cX8_part 31 = .ok (.iload 4, 2) := by decide +kernel
theorem dX8_part_33 : decode cX8_part 33 = .ok (.ifCond .ne 7, 3) := by decide +kernel
theorem dX8_part_36 : decode cX8_part 36 = .ok (.lload_n 0, 1) := by decide +kernel
theorem dX8_part_37 : decode cX8_part 37 = .ok (.goto 4, 3) := by decide +kernel
theorem dX8_part_40 : decode cX8_part 40 = .ok (.lload_n 2, 1) := by decide +kernel
theorem dX8_part_41 : decode cX8_part 41 = .ok (.lload 5, 2) := by decide +kernel
theorem dX8_part_43 : decode cX8_part 43 = .ok (.ldiv, 1) := by decide +kernel
theorem dX8_part_44 : decode cX8_part 44 = .ok (.lreturn, 1) := by decide +kernel
theorem dX8_finds_0 : decode cX8_finds 0 = .ok (.aload_n 0, 1) := by decide +kernel
theorem dX8_finds_1 : decode cX8_finds 1 = .ok (.iload_n 1, 1) := by decide +kernel
theorem dX8_finds_2 : decode cX8_finds 2 = .ok (.putfield 81, 3) := by decide +kernel
theorem dX8_finds_5 : decode cX8_finds 5 = .ok (.bipush (-10), 2) := by decide +kernel
theorem dX8_finds_7 : decode cX8_finds 7 = .ok (.iload_n 1, 1) := by decide +kernel
theorem dX8_finds_8 : decode cX8_finds 8 = .ok (.isub, 1) := by decide +kernel
theorem dX8_finds_9 : decode cX8_finds 9 = .ok (.ireturn, 1) := by decide +kernel
set_option maxRecDepth 20000 in
theorem ggX8_isSheet_X8_in : GoodIn wsX8_isSheet wsX8_in := goodIn_r _ [5] (by decide +kernel) (by decide +kernel)
set_option maxRecDepth 20000 in
theorem gX8_isSheet_X8_in : GoodIn wsX8_isSheet (va_wsS RX8 77 yX8_in wsX8_in) := goodIn_app (goodIn_of _ (by decide +kernel)) ggX8_isSheet_X8_in
theorem dX8_isSheet_0 : decode cX8_isSheet 0 = .ok (.iload_n 0, 1) := by decide +kernel
theorem dX8_isSheet_1 : decode cX8_isSheet 1 = .ok (.i2l, 1) := by decide +kernel
theorem dX8_isSheet_2 : decode cX8_isSheet 2 = .ok (.lconst 0, 1) := by decide +kernel
theorem dX8_isSheet_3 : decode cX8_isSheet 3 = .ok (.ldc2_w 84, 3) := by decide +kernel
theorem dX8_isSheet_6 : decode cX8_isSheet 6 = .ok (.invokestatic 77, 3) := by decide +kernel
theorem dX8_isSheet_9 : decode cX8_isSheet 9 = .ok (.ireturn, 1) := by decide +kernel
set_option maxRecDepth 20000 in
theorem ggX8_sheet_X8_isSheet : GoodIn wsX8_sheet wsX8_isSheet := goodIn_r _ [8, 9, 10, 11, 7, 12] (by decide +kernel) (by decide +kernel)
set_option maxRecDepth 20000 in
theorem gX8_sheet_X8_isSheet : GoodIn wsX8_sheet (va_wsS RX8 86 yX8_isSheet wsX8_isSheet) := goodIn_app (goodIn_of _ (by decide +kernel)) ggX8_sheet_X8_isSheet
set_option maxRecDepth 20000 in
theorem ggX8_sheet_X8_in : GoodIn wsX8_sheet wsX8_in := goodIn_r _ [12] (by decide +kernel) (by decide +kernel)
set_option maxRecDepth 20000 in
theorem gX8_sheet_X8_in : GoodIn wsX8_sheet (va_wsS RX8 77 yX8_in wsX8_in) := goodIn_app (goodIn_of _ (by decide +kernel)) ggX8_sheet_X8_in
set_option maxRecDepth 20000 in
theorem ggX8_sheet_X8_finds : GoodIn wsX8_sheet wsX8_finds := goodIn_r _ [16, 17, 18, 19, 20, 21, 22, 23, 24, 25, 26, 27, 28, 29, 30, 31, 32, 33, 34, 35, 36, 37, 38, 39, 40, 41, 42, 43, 44, 45, 46] (by decide +kernel) (by decide +kernel)
set_option maxRecDepth 20000 in
theorem gX8_sheet_X8_finds : GoodIn wsX8_sheet (wsV RX8 92 RX8 yX8_finds wsX8_finds) := goodIn_app (goodIn_of _ (by decide +kernel)) ggX8_sheet_X8_finds
theorem dX8_sheet_0 : decode cX8_sheet 0 = .ok (.iload_n 1, 1) := by decide +kernel
theorem dX8_sheet_1 : decode cX8_sheet 1 = .ok (.invokestatic 86, 3) := by decide +kernel
theorem dX8_sheet_4 : decode cX8_sheet 4 = .ok (.ifCond .eq 21, 3) := by decide +kernel
theorem dX8_sheet_7 : decode cX8_sheet 7 = .ok (.iload_n 2, 1) := by decide +kernel
theorem dX8_sheet_8 : decode cX8_sheet 8 = .ok (.i2l, 1) := by decide +kernel
theorem dX8_sheet_9 : decode cX8_sheet 9 = .ok (.lconst 0, 1) := by decide +kernel
theorem dX8_sheet_10 : decode cX8_sheet 10 = .ok (.ldc2_w 90, 3) := by decide +kernel
theorem dX8_sheet_13 : decode cX8_sheet 13 = .ok (.invokestatic 77, 3) := by decide +kernel
theorem dX8_sheet_16 : decode cX8_sheet 16 = .ok (.ifCond .eq 9, 3) := by decide +kernel
theorem dX8_sheet_19 : decode cX8_sheet 19 = .ok (.iload_n 3, 1) := by decide +kernel
theorem dX8_sheet_20 : decode cX8_sheet 20 = .ok (.bipush 60, 2) := by decide +kernel
theorem dX8_sheet_22 : decode cX8_sheet 22 = .ok (.if_icmp .le 6, 3) := by decide +kernel
theorem dX8_sheet_25 : decode cX8_sheet 25 = .ok (.bipush (-2), 2) := by decide +kernel
theorem dX8_sheet_27 : decode cX8_sheet 27 = .ok (.ireturn, 1) := by decide +kernel
theorem dX8_sheet_28 : decode cX8_sheet 28 = .ok (.iload_n 3, 1) := by decide +kernel
theorem dX8_sheet_29 : decode cX8_sheet 29 = .ok (.ifCond .ge 9, 3) := by decide +kernel
theorem dX8_sheet_32 : decode cX8_sheet 32 = .ok (.aload_n 0, 1) := by decide +kernel
theorem dX8_sheet_33 : decode cX8_sheet 33 = .ok (.iconst 5, 1) := by decide +kernel
theorem dX8_sheet_34 : decode cX8_sheet 34 = .ok (.invokevirtual 92, 3) := by decide +kernel
theorem dX8_sheet_37 : decode cX8_sheet 37 = .ok (.ireturn, 1) := by decide +kernel
theorem dX8_sheet_38 : decode cX8_sheet 38 = .ok (.aload_n 0, 1) := by decide +kernel
theorem dX8_sheet_39 : decode cX8_sheet 39 = .ok (.getfield 7, 3) := by decide +kernel
theorem dX8_sheet_42 : decode cX8_sheet 42 = .ok (.iload_n 1, 1) := by decide +kernel
theorem dX8_sheet_43 : decode cX8_sheet 43 = .ok (.iload_n 2, 1) := by decide +kernel
theorem dX8_sheet_44 : decode cX8_sheet 44 = .ok (.iastore, 1) := by decide +kernel
theorem dX8_sheet_45 : decode cX8_sheet 45 = .ok (.aload_n 0, 1) := by decide +kernel
theorem dX8_sheet_46 : decode cX8_sheet 46 = .ok (.getfield 13, 3) := by decide +kernel
theorem dX8_sheet_49 : decode cX8_sheet 49 = .ok (.iload_n 1, 1) := by decide +kernel
theorem dX8_sheet_50 : decode cX8_sheet 50 = .ok (.iload_n 3, 1) := by decide +kernel
theorem dX8_sheet_51 : decode cX8_sheet 51 = .ok (.iastore, 1) := by decide +kernel
theorem dX8_sheet_52 : decode cX8_sheet 52 = .ok (.iconst 0, 1) := by decide +kernel
theorem dX8_sheet_53 : decode cX8_sheet 53 = .ok (.istore 4, 2) := by decide +kernel
theorem dX8_sheet_55 : decode cX8_sheet 55 = .ok (.iload 4, 2) := by decide +kernel
theorem dX8_sheet_57 : decode cX8_sheet 57 = .ok (.iload_n 3, 1) := by decide +kernel
theorem dX8_sheet_58 : decode cX8_sheet 58 = .ok (.if_icmp .ge 22, 3) := by decide +kernel
theorem dX8_sheet_61 : decode cX8_sheet 61 = .ok (.aload_n 0, 1) := by decide +kernel
theorem dX8_sheet_62 : decode cX8_sheet 62 = .ok (.getfield 16, 3) := by decide +kernel
theorem dX8_sheet_65 : decode cX8_sheet 65 = .ok (.bipush 60, 2) := by decide +kernel
theorem dX8_sheet_67 : decode cX8_sheet 67 = .ok (.iload_n 1, 1) := by decide +kernel
