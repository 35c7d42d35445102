theorem dX8_housesOf_57 : decode cX8_housesOf 57 = .ok (.imul, 1) := by decide +kernel
theorem dX8_housesOf_58 : decode cX8_housesOf 58 = .ok (.iconst 2, 1) := by decide +kernel
theorem dX8_housesOf_59 : decode cX8_housesOf 59 = .ok (.iadd, 1) := by decide +kernel
theorem dX8_housesOf_60 : decode cX8_housesOf 60 = .ok (.aload_n 0, 1) := by decide +kernel
theorem dX8_housesOf_61 : decode cX8_housesOf 61 = .ok (.bipush 10, 2) := by decide +kernel
theorem dX8_housesOf_63 : decode cX8_housesOf 63 = .ok (.invokevirtual 294, 3) := by decide +kernel
theorem dX8_housesOf_66 : decode cX8_housesOf 66 = .ok (.iastore, 1) := by decide +kernel
theorem dX8_housesOf_67 : decode cX8_housesOf 67 = .ok (.iinc 4 1, 3) := by decide +kernel
theorem dX8_housesOf_70 : decode cX8_housesOf 70 = .ok (.goto (-57), 3) := by decide +kernel
theorem dX8_housesOf_73 : decode cX8_housesOf 73 = .ok (.aload_n 0, 1) := by decide +kernel
theorem dX8_housesOf_74 : decode cX8_housesOf 74 = .ok (.invokevirtual 178, 3) := by decide +kernel
theorem dX8_housesOf_77 : decode cX8_housesOf 77 = .ok (.iload_n 3, 1) := by decide +kernel
theorem dX8_housesOf_78 : decode cX8_housesOf 78 = .ok (.ifCond .ne 10, 3) := by decide +kernel
theorem dX8_housesOf_81 : decode cX8_housesOf 81 = .ok (.aload_n 0, 1) := by decide +kernel
theorem dX8_housesOf_82 : decode cX8_housesOf 82 = .ok (.invokevirtual 204, 3) := by decide +kernel
theorem dX8_housesOf_85 : decode cX8_housesOf 85 = .ok (.goto 7, 3) := by decide +kernel
theorem dX8_housesOf_88 : decode cX8_housesOf 88 = .ok (.aload_n 0, 1) := by decide +kernel
theorem dX8_housesOf_89 : decode cX8_housesOf 89 = .ok (.invokevirtual 207, 3) := by decide +kernel
theorem dX8_housesOf_92 : decode cX8_housesOf 92 = .ok (.istore 4, 2) := by decide +kernel
theorem dX8_housesOf_94 : decode cX8_housesOf 94 = .ok (.aload_n 0, 1) := by decide +kernel
theorem dX8_housesOf_95 : decode cX8_housesOf 95 = .ok (.invokevirtual 120, 3) := by decide +kernel
theorem dX8_housesOf_98 : decode cX8_housesOf 98 = .ok (.pop, 1) := by decide +kernel
theorem dX8_housesOf_99 : decode cX8_housesOf 99 = .ok (.iload 4, 2) := by decide +kernel
theorem dX8_housesOf_101 : decode cX8_housesOf 101 = .ok (.ireturn, 1) := by decide +kernel
set_option maxRecDepth 20000 in
theorem ggX8_houses_X8_find : GoodIn wsX8_houses wsX8_find := goodIn_r _ [6, 7, 8, 9, 5, 10, 11, 12, 13, 14, 15, 16, 17, 18, 19, 20, 21, 22, 23, 24, 25, 26, 27, 28, 29, 30, 31, 32, 33, 34, 35, 36, 37, 38, 39, 40, 41, 42, 43, 44, 45, 46, 47, 48, 49, 50, 51, 52, 53, 54, 55, 56, 57, 58, 59, 60, 61, 62, 63, 64, 65, 66, 67, 68, 69, 70, 71, 72, 73, 74, 75, 76, 77, 78, 79, 101, 102, 103, 104, 105, 106, 107, 108, 109, 110, 111, 112, 113, 114, 115, 116, 117, 118, 119, 120, 121, 122, 123, 124, 125, 126, 127, 128, 129] (by decide +kernel) (by decide +kernel)
set_option maxRecDepth 20000 in
theorem gX8_houses_X8_find : GoodIn wsX8_houses (wsV RX8 187 RX8 yX8_find wsX8_find) := goodIn_app (goodIn_of _ (by decide +kernel)) ggX8_houses_X8_find
set_option maxRecDepth 20000 in
theorem ggX8_houses_X8_in : GoodIn wsX8_houses wsX8_in := goodIn_r _ [22] (by decide +kernel) (by decide +kernel)
set_option maxRecDepth 20000 in
theorem gX8_houses_X8_in : GoodIn wsX8_houses (va_wsS RX8 77 yX8_in wsX8_in) := goodIn_app (goodIn_of _ (by decide +kernel)) ggX8_houses_X8_in
set_option maxRecDepth 20000 in
theorem ggX8_houses_X8_isTwo : GoodIn wsX8_houses wsX8_isTwo := goodIn_r _ [82, 20, 21, 5, 22] (by decide +kernel) (by decide +kernel)
set_option maxRecDepth 20000 in
theorem gX8_houses_X8_isTwo : GoodIn wsX8_houses (va_wsS RX8 265 yX8_isTwo wsX8_isTwo) := goodIn_app (goodIn_of _ (by decide +kernel)) ggX8_houses_X8_isTwo
set_option maxRecDepth 20000 in
theorem ggX8_houses_X8_housesOf : GoodIn wsX8_houses wsX8_housesOf := goodIn_r _ [86, 87, 11, 14, 88, 89, 90, 5, 91, 92, 23, 24, 25, 26, 27, 28, 29, 30, 31, 32, 33, 34, 35, 36, 37, 38, 39, 40, 41, 42, 43, 44, 45, 46, 47, 48, 49, 50, 51, 52, 53, 54, 55, 20, 21, 22, 56, 57, 58, 59, 60, 61, 62, 63, 64, 65, 66, 67, 68, 69, 70, 71, 72, 73, 74, 75, 76, 77, 78, 79, 93, 94, 95, 96, 97, 98, 99, 100, 7, 8, 9, 10, 12, 13, 15, 16, 17, 18, 19, 101, 102, 103, 104, 105, 106, 107, 108, 109, 110, 111, 112, 113, 114, 115, 116, 117, 118, 119, 120, 121, 122, 123, 124, 125, 126, 127, 128, 129] (by decide +kernel) (by decide +kernel)
set_option maxRecDepth 20000 in
theorem gX8_houses_X8_housesOf : GoodIn wsX8_houses (wsV RX8 297 RX8 yX8_housesOf wsX8_housesOf) := goodIn_app (goodIn_of _ (by decide +kernel)) ggX8_houses_X8_housesOf
theorem dX8_houses_0 : decode cX8_houses 0 = .ok (.aload_n 0, 1) := by decide +kernel
theorem dX8_houses_1 : decode cX8_houses 1 = .ok (.invokevirtual 187, 3) := by decide +kernel
theorem dX8_houses_4 : decode cX8_houses 4 = .ok (.iload_n 2, 1) := by decide +kernel
theorem dX8_houses_5 : decode cX8_houses 5 = .ok (.i2l, 1) := by decide +kernel
theorem dX8_houses_6 : decode cX8_houses 6 = .ok (.lconst 0, 1) := by decide +kernel
theorem dX8_houses_7 : decode cX8_houses 7 = .ok (.ldc2_w 129, 3) := by decide +kernel
theorem dX8_houses_10 : decode cX8_houses 10 = .ok (.invokestatic 77, 3) := by decide +kernel
theorem dX8_houses_13 : decode cX8_houses 13 = .ok (.ifCond .eq 20, 3) := by decide +kernel
theorem dX8_houses_16 : decode cX8_houses 16 = .ok (.iload_n 3, 1) := by decide +kernel
theorem dX8_houses_17 : decode cX8_houses 17 = .ok (.invokestatic 265, 3) := by decide +kernel
theorem dX8_houses_20 : decode cX8_houses 20 = .ok (.ifCond .eq 13, 3) := by decide +kernel
theorem dX8_houses_23 : decode cX8_houses 23 = .ok (.aload_n 0, 1) := by decide +kernel
theorem dX8_houses_24 : decode cX8_houses 24 = .ok (.iload_n 1, 1) := by decide +kernel
theorem dX8_houses_25 : decode cX8_houses 25 = .ok (.iload_n 2, 1) := by decide +kernel
theorem dX8_houses_26 : decode cX8_houses 26 = .ok (.iload_n 3, 1) := by decide +kernel
theorem dX8_houses_27 : decode cX8_houses 27 = .ok (.invokevirtual 297, 3) := by decide +kernel
theorem dX8_houses_30 : decode cX8_houses 30 = .ok (.goto 5, 3) := by decide +kernel
theorem dX8_houses_33 : decode cX8_houses 33 = .ok (.bipush (-2), 2) := by decide +kernel
theorem dX8_houses_35 : decode cX8_houses 35 = .ok (.ireturn, 1) := by decide +kernel
set_option maxRecDepth 20000 in
theorem ggX8_write_X8_find : GoodIn wsX8_write wsX8_find := goodIn_r _ [9, 10, 11, 12, 8, 13, 14, 15, 16, 17, 18, 19, 20, 21, 22, 23, 24, 25, 26, 27, 28, 29, 30, 31, 32, 33, 34, 35, 36, 37, 38, 39, 40, 4, 41, 42, 43, 44, 45, 46, 47, 48, 49, 50, 51, 52, 53, 54, 55, 56, 57, 58, 59, 60, 61, 62, 63, 64, 65, 66, 67, 68, 69, 70, 71, 72, 73, 74, 75, 76, 77, 78, 79, 80, 81, 94, 95, 96, 97, 98, 99, 100, 101, 102, 103, 104, 105, 106, 107, 108, 109, 110, 111, 112, 113, 114, 115, 116, 117, 118, 119, 120, 121, 122] (by decide +kernel) (by decide +kernel)
set_option maxRecDepth 20000 in
theorem gX8_write_X8_find : GoodIn wsX8_write (wsV RX8 187 RX8 yX8_find wsX8_find) := goodIn_app (goodIn_of _ (by decide +kernel)) ggX8_write_X8_find
set_option maxRecDepth 20000 in
theorem ggX8_write_X8_isTenant : GoodIn wsX8_write wsX8_isTenant := goodIn_r _ [57, 14, 23, 24, 8, 25, 94, 95, 96, 97, 98, 99, 100, 101, 102, 103, 104, 105, 106, 107, 108, 109, 110, 111, 112, 113, 114, 115, 116, 117, 118, 119, 120, 121, 122] (by decide +kernel) (by decide +kernel)
set_option maxRecDepth 20000 in
theorem gX8_write_X8_isTenant : GoodIn wsX8_write (wsV RX8 126 RX8 yX8_isTenant wsX8_isTenant) := goodIn_app (goodIn_of _ (by decide +kernel)) ggX8_write_X8_isTenant
set_option maxRecDepth 20000 in
theorem ggX8_write_X8_isSheet : GoodIn wsX8_write wsX8_isSheet := goodIn_r _ [84, 85, 23, 24, 8, 25] (by decide +kernel) (by decide +kernel)
set_option maxRecDepth 20000 in
theorem gX8_write_X8_isSheet : GoodIn wsX8_write (va_wsS RX8 86 yX8_isSheet wsX8_isSheet) := goodIn_app (goodIn_of _ (by decide +kernel)) ggX8_write_X8_isSheet
set_option maxRecDepth 20000 in
theorem ggX8_write_X8_finds : GoodIn wsX8_write wsX8_finds := goodIn_r _ [89, 90, 94, 95, 96, 97, 98, 99, 100, 101, 102, 103, 104, 105, 106, 107, 108, 109, 110, 111, 112, 113, 114, 115, 116, 117, 118, 119, 120, 121, 122] (by decide +kernel) (by decide +kernel)
set_option maxRecDepth 20000 in
theorem gX8_write_X8_finds : GoodIn wsX8_write (wsV RX8 92 RX8 yX8_finds wsX8_finds) := goodIn_app (goodIn_of _ (by decide +kernel)) ggX8_write_X8_finds
set_option maxRecDepth 20000 in
theorem ggX8_write_X8_lesser : GoodIn wsX8_write wsX8_lesser := goodIn_r _ [64] (by decide +kernel) (by decide +kernel)
set_option maxRecDepth 20000 in
theorem gX8_write_X8_lesser : GoodIn wsX8_write (va_wsS RX8 152 yX8_lesser wsX8_lesser) := goodIn_app (goodIn_of _ (by decide +kernel)) ggX8_write_X8_lesser
set_option maxRecDepth 20000 in
theorem ggX8_write_X8_cut : GoodIn wsX8_write wsX8_cut := goodIn_r _ [93] (by decide +kernel) (by decide +kernel)
set_option maxRecDepth 20000 in
theorem gX8_write_X8_cut : GoodIn wsX8_write (va_wsS RX8 100 yX8_cut wsX8_cut) := goodIn_app (goodIn_of _ (by decide +kernel)) ggX8_write_X8_cut
theorem dX8_write_0 : decode cX8_write 0 = .ok (.aload_n 0, 1) := by decide +kernel
theorem dX8_write_1 : decode cX8_write 1 = .ok (.invokevirtual 187, 3) := by decide +kernel
theorem dX8_write_4 : decode cX8_write 4 = .ok (.aload_n 0, 1) := by decide +kernel
theorem dX8_write_5 : decode cX8_write 5 = .ok (.iload_n 1, 1) := by decide +kernel
theorem dX8_write_6 : decode cX8_write 6 = .ok (.invokevirtual 126, 3) := by decide +kernel
theorem dX8_write_9 : decode cX8_write 9 = .ok (.ifCond .eq 10, 3) := by decide +kernel
theorem dX8_write_12 : decode cX8_write 12 = .ok (.iload_n 2, 1) := by decide +kernel
theorem dX8_write_13 : decode cX8_write 13 = .ok (.invokestatic 86, 3) := by decide +kernel
theorem dX8_write_16 : decode cX8_write 16 = .ok (.ifCond .ne 6, 3) := by decide +kernel
theorem dX8_write_19 : decode cX8_write 19 = .ok (.bipush (-2), 2) := by decide +kernel
theorem dX8_write_21 : decode cX8_write 21 = .ok (.ireturn, 1) := by decide +kernel
theorem dX8_write_22 : decode cX8_write 22 = .ok (.aload_n 0, 1) := by decide +kernel
theorem dX8_write_23 : decode cX8_write 23 = .ok (.getfield 7, 3) := by decide +kernel
theorem dX8_write_26 : decode cX8_write 26 = .ok (.iload_n 2, 1) := by decide +kernel
theorem dX8_write_27 : decode cX8_write 27 = .ok (.iaload, 1) := by decide +kernel
theorem dX8_write_28 : decode cX8_write 28 = .ok (.ifCond .ge 9, 3) := by decide +kernel
theorem dX8_write_31 : decode cX8_write 31 = .ok (.aload_n 0, 1) := by decide +kernel
theorem dX8_write_32 : decode cX8_write 32 = .ok (.iconst 1, 1) := by decide +kernel
theorem dX8_write_33 : decode cX8_write 33 = .ok (.invokevirtual 92, 3) := by decide +kernel
theorem dX8_write_36 : decode cX8_write 36 = .ok (.ireturn, 1) := by decide +kernel
theorem dX8_write_37 : decode cX8_write 37 = .ok (.aload_n 0, 1) := by decide +kernel
theorem dX8_write_38 : decode cX8_write 38 = .ok (.getfield 13, 3) := by decide +kernel
theorem dX8_write_41 : decode cX8_write 41 = .ok (.iload_n 2, 1) := by decide +kernel
theorem dX8_write_42 : decode cX8_write 42 = .ok (.iaload, 1) := by decide +kernel
theorem dX8_write_43 : decode cX8_write 43 = .ok (.bipush 24, 2) := by decide +kernel
theorem dX8_write_45 : decode cX8_write 45 = .ok (.invokestatic 152, 3) := by decide +kernel
theorem dX8_write_48 : decode cX8_write 48 = .ok (.istore_n 3, 1) := by decide +kernel
theorem dX8_write_49 : decode cX8_write 49 = .ok (.iconst 0, 1) := by decide +kernel
theorem dX8_write_50 : decode cX8_write 50 = .ok (.istore 4, 2) := by decide +kernel
theorem dX8_write_52 : decode cX8_write 52 = .ok (.iload 4, 2) := by decide +kernel
theorem dX8_write_54 : decode cX8_write 54 = .ok (.iload_n 3, 1) := by decide +kernel
theorem dX8_write_55 : decode cX8_write 55 = .ok (.if_icmp .ge 42, 3) := by decide +kernel
theorem dX8_write_58 : decode cX8_write 58 = .ok (.aload_n 0, 1) := by decide +kernel
theorem dX8_write_59 : decode cX8_write 59 = .ok (.getfield 16, 3) := by decide +kernel
theorem dX8_write_62 : decode cX8_write 62 = .ok (.bipush 60, 2) := by decide +kernel
theorem dX8_write_64 : decode cX8_write 64 = .ok (.iload_n 2, 1) := by decide +kernel
theorem dX8_write_65 : decode cX8_write 65 = .ok (.imul, 1) := by decide +kernel
theorem dX8_write_66 : decode cX8_write 66 = .ok (.iload 4, 2) := by decide +kernel
theorem dX8_write_68 : decode cX8_write 68 = .ok (.iadd, 1) := by decide +kernel
theorem dX8_write_69 : decode cX8_write 69 = .ok (.aload_n 0, 1) := by decide +kernel
theorem dX8_write_70 : decode cX8_write 70 = .ok (.getfield 7, 3) := by decide +kernel
theorem dX8_write_73 : decode cX8_write 73 = .ok (.iload_n 2, 1) := by decide +kernel
theorem dX8_write_74 : decode cX8_write 74 = .ok (.iaload, 1) := by decide +kernel
theorem dX8_write_75 : decode cX8_write 75 = .ok (.aload_n 0, 1) := by decide +kernel
theorem dX8_write_76 : decode cX8_write 76 = .ok (.getfield 55, 3) := by decide +kernel
theorem dX8_write_79 : decode cX8_write 79 = .ok (.bipush 8, 2) := by decide +kernel
theorem dX8_write_81 : decode cX8_write 81 = .ok (.iload 4, 2) := by decide +kernel
theorem dX8_write_83 : decode cX8_write 83 = .ok (.imul, 1) := by decide +kernel
theorem dX8_write_84 : decode cX8_write 84 = .ok (.iload_n 1, 1) := by decide +kernel
theorem dX8_write_85 : decode cX8_write 85 = .ok (.iadd, 1) := by decide +kernel
theorem dX8_write_86 : decode cX8_write 86 = .ok (.iaload, 1) := by decide +kernel
theorem dX8_write_87 : decode cX8_write 87 = .ok (.invokestatic 100, 3) := by decide +kernel
theorem dX8_write_90 : decode cX8_write 90 = .ok (.iastore, 1) := by decide +kernel
theorem dX8_write_91 : decode cX8_write 91 = .ok (.iinc 4 1, 3) := by decide +kernel
theorem dX8_write_94 : decode cX8_write 94 = .ok (.goto (-42), 3) := by decide +kernel
theorem dX8_write_97 : decode cX8_write 97 = .ok (.iload_n 3, 1) := by decide +kernel
theorem dX8_write_98 : decode cX8_write 98 = .ok (.ireturn, 1) := by decide +kernel
theorem dX8_manyHoused_0 : decode cX8_manyHoused 0 = .ok (.iconst 0, 1) := by decide +kernel
theorem dX8_manyHoused_1 : decode cX8_manyHoused 1 = .ok (.istore_n 1, 1) := by decide +kernel
theorem dX8_manyHoused_2 : decode cX8_manyHoused 2 = .ok (.iconst 0, 1) := by decide +kernel
theorem dX8_manyHoused_3 : decode cX8_manyHoused 3 = .ok (.istore_n 2, 1) := by decide +kernel
theorem dX8_manyHoused_4 : decode cX8_manyHoused 4 = .ok (.iload_n 2, 1) := by decide +kernel
theorem dX8_manyHoused_5 : decode cX8_manyHoused 5 = .ok (.aload_n 0, 1) := by decide +kernel
theorem dX8_manyHoused_6 : decode cX8_manyHoused 6 = .ok (.getfield 114, 3) := by decide +kernel
theorem dX8_manyHoused_9 : decode cX8_manyHoused 9 = .ok (.if_icmp .ge 26, 3) := by decide +kernel
theorem dX8_manyHoused_12 : decode cX8_manyHoused 12 = .ok (.iload_n 1, 1) := by decide +kernel
theorem dX8_manyHoused_13 : decode cX8_manyHoused 13 = .ok (.aload_n 0, 1) := by decide +kernel
theorem dX8_manyHoused_14 : decode cX8_manyHoused 14 = .ok (.getfield 31, 3) := by decide +kernel
theorem dX8_manyHoused_17 : decode cX8_manyHoused 17 = .ok (.iload_n 2, 1) := by decide +kernel
theorem dX8_manyHoused_18 : decode cX8_manyHoused 18 = .ok (.iaload, 1) := by decide +kernel
theorem dX8_manyHoused_19 : decode cX8_manyHoused 19 = .ok (.ifCond .le 7, 3) := by decide +kernel
theorem dX8_manyHoused_22 : decode cX8_manyHoused 22 = .ok (.iconst 1, 1) := by decide +kernel
theorem dX8_manyHoused_23 : decode cX8_manyHoused 23 = .ok (.goto 4, 3) := by decide +kernel
theorem dX8_manyHoused_26 : decode cX8_manyHoused 26 = .ok (.iconst 0, 1) := by decide +kernel
theorem dX8_manyHoused_27 : decode cX8_manyHoused 27 = .ok (.iadd, 1) := by decide +kernel
theorem dX8_manyHoused_28 : decode cX8_manyHoused 28 = .ok (.istore_n 1, 1) := by decide +kernel
theorem dX8_manyHoused_29 : decode cX8_manyHoused 29 = .ok (.iinc 2 1, 3) := by decide +kernel
theorem dX8_manyHoused_32 : decode cX8_manyHoused 32 = .ok (.goto (-28), 3) := by decide +kernel
theorem dX8_manyHoused_35 : decode cX8_manyHoused 35 = .ok (.iload_n 1, 1) := by decide +kernel
theorem dX8_manyHoused_36 : decode cX8_manyHoused 36 = .ok (.ireturn, 1) := by decide +kernel
set_option maxRecDepth 20000 in
theorem ggX8_count_X8_find : GoodIn wsX8_count wsX8_find := goodIn_r _ [11, 12, 13, 14, 10, 15, 1, 2, 16, 17, 18, 19, 20, 21, 22, 23, 24, 25, 26, 27, 28, 29, 30, 31, 32, 33, 34, 35, 36, 37, 38, 39, 40, 41, 42, 43, 44, 45, 46, 47, 48, 3, 49, 50, 51, 52, 53, 54, 55, 56, 57, 58, 59, 60, 61, 62, 63, 64, 65, 66, 67, 68, 69, 4, 70, 71, 72, 73, 74, 75, 76, 77, 78, 79, 80, 93, 94, 95, 96, 97, 98, 99, 100, 101, 102, 103, 104, 105, 106, 107, 108, 109, 110, 111, 112, 113, 114, 115, 116, 117, 118, 119, 120, 121] (by decide +kernel) (by decide +kernel)
set_option maxRecDepth 20000 in
theorem gX8_count_X8_find : GoodIn wsX8_count (wsV RX8 187 RX8 yX8_find wsX8_find) := goodIn_app (goodIn_of _ (by decide +kernel)) ggX8_count_X8_find
set_option maxRecDepth 20000 in
theorem ggX8_count_X8_manySettled : GoodIn wsX8_count wsX8_manySettled := goodIn_r _ [84, 1, 32, 93, 94, 95, 96, 97, 98, 99, 100, 101, 102, 103, 104, 105, 106, 107, 108, 109, 110, 111, 112, 113, 114, 115, 116, 117, 118, 119, 120, 121] (by decide +kernel) (by decide +kernel)
set_option maxRecDepth 20000 in
theorem gX8_count_X8_manySettled : GoodIn wsX8_count (wsV RX8 204 RX8 yX8_manySettled wsX8_manySettled) := goodIn_app (goodIn_of _ (by decide +kernel)) ggX8_count_X8_manySettled
set_option maxRecDepth 20000 in
theorem ggX8_count_X8_allFell : GoodIn wsX8_count wsX8_allFell := goodIn_r _ [88, 1, 33, 93, 94, 95, 96, 97, 98, 99, 100, 101, 102, 103, 104, 105, 106, 107, 108, 109, 110, 111, 112, 113, 114, 115, 116, 117, 118, 119, 120, 121] (by decide +kernel) (by decide +kernel)
set_option maxRecDepth 20000 in
theorem gX8_count_X8_allFell : GoodIn wsX8_count (wsV RX8 207 RX8 yX8_allFell wsX8_allFell) := goodIn_app (goodIn_of _ (by decide +kernel)) ggX8_count_X8_allFell
set_option maxRecDepth 20000 in
theorem ggX8_count_X8_manyHoused : GoodIn wsX8_count wsX8_manyHoused := goodIn_r _ [92, 1, 30, 93, 94, 95, 96, 97, 98, 99, 100, 101, 102, 103, 104, 105, 106, 107, 108, 109, 110, 111, 112, 113, 114, 115, 116, 117, 118, 119, 120, 121] (by decide +kernel) (by decide +kernel)
set_option maxRecDepth 20000 in
theorem gX8_count_X8_manyHoused : GoodIn wsX8_count (wsV RX8 300 RX8 yX8_manyHoused wsX8_manyHoused) := goodIn_app (goodIn_of _ (by decide +kernel)) ggX8_count_X8_manyHoused
theorem dX8_count_0 : decode cX8_count 0 = .ok (.aload_n 0, 1) := by decide +kernel
theorem dX8_count_1 : decode cX8_count 1 = .ok (.invokevirtual 187, 3) := by decide +kernel
theorem dX8_count_4 : decode cX8_count 4 = .ok (.iload_n 1, 1) := by decide +kernel
theorem dX8_count_5 : decode cX8_count 5 = .ok (.tableswitch 96 0 8 #[51, 56, 61, 66, 71, 76, 81, 86, 91], 51) := by decide +kernel
theorem dX8_count_56 : decode cX8_count 56 = .ok (.aload_n 0, 1) := by decide +kernel
theorem dX8_count_57 : decode cX8_count 57 = .ok (.getfield 114, 3) := by decide +kernel
theorem dX8_count_60 : decode cX8_count 60 = .ok (.ireturn, 1) := by decide +kernel
theorem dX8_count_61 : decode cX8_count 61 = .ok (.aload_n 0, 1) := by decide +kernel
theorem dX8_count_62 : decode cX8_count 62 = .ok (.getfield 107, 3) := by decide +kernel
theorem dX8_count_65 : decode cX8_count 65 = .ok (.ireturn, 1) := by decide +kernel
theorem dX8_count_66 : decode cX8_count 66 = .ok (.aload_n 0, 1) := by decide +kernel
theorem dX8_count_67 : decode cX8_count 67 = .ok (.getfield 136, 3) := by decide +kernel
theorem dX8_count_70 : decode cX8_count 70 = .ok (.ireturn, 1) := by decide +kernel
theorem dX8_count_71 : decode cX8_count 71 = .ok (.aload_n 0, 1) := by decide +kernel
theorem dX8_count_72 : decode cX8_count 72 = .ok (.invokevirtual 204, 3) := by decide +kernel
theorem dX8_count_75 : decode cX8_count 75 = .ok (.ireturn, 1) := by decide +kernel
theorem dX8_count_76 : decode cX8_count 76 = .ok (.aload_n 0, 1) := by decide +kernel
theorem dX8_count_77 : decode cX8_count 77 = .ok (.invokevirtual 207, 3) := by decide +kernel
theorem dX8_count_80 : decode cX8_count 80 = .ok (.ireturn, 1) := by decide +kernel
theorem dX8_count_81 : decode cX8_count 81 = .ok (.aload_n 0, 1) := by decide +kernel
theorem dX8_count_82 : decode cX8_count 82 = .ok (.getfield 71, 3) := by decide +kernel
theorem dX8_count_85 : decode cX8_count 85 = .ok (.ireturn, 1) := by decide +kernel
theorem dX8_count_86 : decode cX8_count 86 = .ok (.aload_n 0, 1) := by decide +kernel
theorem dX8_count_87 : decode cX8_count 87 = .ok (.invokevirtual 300, 3) := by decide +kernel
theorem dX8_count_90 : decode cX8_count 90 = .ok (.ireturn, 1) := by decide +kernel
theorem dX8_count_91 : decode cX8_count 91 = .ok (.aload_n 0, 1) := by decide +kernel
theorem dX8_count_92 : decode cX8_count 92 = .ok (.getfield 243, 3) := by decide +kernel
theorem dX8_count_95 : decode cX8_count 95 = .ok (.ireturn, 1) := by decide +kernel
theorem dX8_count_96 : decode cX8_count 96 = .ok (.aload_n 0, 1) := by decide +kernel
theorem dX8_count_97 : decode cX8_count 97 = .ok (.getfield 81, 3) := by decide +kernel
theorem dX8_count_100 : decode cX8_count 100 = .ok (.ireturn, 1) := by decide +kernel
theorem dX8_count_101 : decode cX8_count 101 = .ok (.bipush (-2), 2) := by decide +kernel
theorem dX8_count_103 : decode cX8_count 103 = .ok (.ireturn, 1) := by decide +kernel
set_option maxRecDepth 20000 in
theorem ggX8_tellsMonth_X8_atBy : GoodIn wsX8_tellsMonth wsX8_atBy := goodIn_r _ [6, 7, 8, 9, 10, 11, 12, 5, 13, 14, 15, 16, 17, 18, 19, 20, 21, 22, 23, 24, 25, 26, 27, 28, 29, 30, 31, 32, 33, 34, 35, 36, 37, 38, 39, 40, 41, 42, 43, 44, 45] (by decide +kernel) (by decide +kernel)
set_option maxRecDepth 20000 in
theorem gX8_tellsMonth_X8_atBy : GoodIn wsX8_tellsMonth (wsV RX8 190 RX8 yX8_atBy wsX8_atBy) := goodIn_app (goodIn_of _ (by decide +kernel)) ggX8_tellsMonth_X8_atBy
theorem dX8_tellsMonth_0 : decode cX8_tellsMonth 0 = .ok (.lload_n 1, 1) := by decide +kernel
theorem dX8_tellsMonth_1 : decode cX8_tellsMonth 1 = .ok (.lstore 5, 2) := by decide +kernel
theorem dX8_tellsMonth_3 : decode cX8_tellsMonth 3 = .ok (.iconst 0, 1) := by decide +kernel
theorem dX8_tellsMonth_4 : decode cX8_tellsMonth 4 = .ok (.istore 7, 2) := by decide +kernel
theorem dX8_tellsMonth_6 : decode cX8_tellsMonth 6 = .ok (.iload 7, 2) := by decide +kernel
theorem dX8_tellsMonth_8 : decode cX8_tellsMonth 8 = .ok (.iconst 4, 1) := by decide +kernel
theorem dX8_tellsMonth_9 : decode cX8_tellsMonth 9 = .ok (.if_icmp .ge 28, 3) := by decide +kernel
theorem dX8_tellsMonth_12 : decode cX8_tellsMonth 12 = .ok (.ldc2_w 303, 3) := by decide +kernel
theorem dX8_tellsMonth_15 : decode cX8_tellsMonth 15 = .ok (.lload 5, 2) := by decide +kernel
theorem dX8_tellsMonth_17 : decode cX8_tellsMonth 17 = .ok (.lmul, 1) := by decide +kernel
theorem dX8_tellsMonth_18 : decode cX8_tellsMonth 18 = .ok (.aload_n 0, 1) := by decide +kernel
theorem dX8_tellsMonth_19 : decode cX8_tellsMonth 19 = .ok (.iload_n 3, 1) := by decide +kernel
theorem dX8_tellsMonth_20 : decode cX8_tellsMonth 20 = .ok (.iload 4, 2) := by decide +kernel
theorem dX8_tellsMonth_22 : decode cX8_tellsMonth 22 = .ok (.iload 7, 2) := by decide +kernel
theorem dX8_tellsMonth_24 : decode cX8_tellsMonth 24 = .ok (.invokevirtual 190, 3) := by decide +kernel
theorem dX8_tellsMonth_27 : decode cX8_tellsMonth 27 = .ok (.i2l, 1) := by decide +kernel
theorem dX8_tellsMonth_28 : decode cX8_tellsMonth 28 = .ok (.ladd, 1) := by decide +kernel
theorem dX8_tellsMonth_29 : decode cX8_tellsMonth 29 = .ok (.lstore 5, 2) := by decide +kernel
theorem dX8_tellsMonth_31 : decode cX8_tellsMonth 31 = .ok (.iinc 7 1, 3) := by decide +kernel
theorem dX8_tellsMonth_34 : decode cX8_tellsMonth 34 = .ok (.goto (-28), 3) := by decide +kernel
theorem dX8_tellsMonth_37 : decode cX8_tellsMonth 37 = .ok (.lload 5, 2) := by decide +kernel
theorem dX8_tellsMonth_39 : decode cX8_tellsMonth 39 = .ok (.lreturn, 1) := by decide +kernel
set_option maxRecDepth 20000 in
theorem ggX8_tellsTenant_X8_lives : GoodIn wsX8_tellsTenant wsX8_lives := goodIn_r _ [7, 8, 9, 10, 2, 11, 12, 13, 14, 15, 16, 17, 6, 18, 19, 20, 21, 22, 23, 24, 25, 26, 27, 28, 29, 30, 31, 32, 33, 34, 35, 36, 37, 38, 39, 40, 41, 42, 43, 44, 45, 46, 47, 48, 49, 50, 51, 52, 53, 54, 55, 56, 57, 58, 59, 60, 61, 62, 63, 64, 136, 137, 138, 139, 140, 141, 142, 143, 144, 145, 146, 147, 148, 149, 150, 151, 152, 153, 154, 155, 156, 157, 158, 159, 160, 161, 162, 163, 164] (by decide +kernel) (by decide +kernel)
set_option maxRecDepth 20000 in
theorem gX8_tellsTenant_X8_lives : GoodIn wsX8_tellsTenant (wsV RX8 178 RX8 yX8_lives wsX8_lives) := goodIn_app (goodIn_of _ (by decide +kernel)) ggX8_tellsTenant_X8_lives
set_option maxRecDepth 20000 in
theorem ggX8_tellsTenant_X8_tellsMonth : GoodIn wsX8_tellsTenant wsX8_tellsMonth := goodIn_r _ [68, 1, 69, 70, 71, 6, 72, 20, 21, 22, 73, 74, 75, 76, 77, 78, 79, 136, 137, 138, 139, 140, 141, 142, 143, 144, 145, 146, 147, 148, 149, 150, 151, 152, 153, 154, 155, 156, 157, 158, 159, 160, 161, 162, 163, 164] (by decide +kernel) (by decide +kernel)
set_option maxRecDepth 20000 in
theorem gX8_tellsTenant_X8_tellsMonth : GoodIn wsX8_tellsTenant (wsV RX8 305 RX8 yX8_tellsMonth wsX8_tellsMonth) := goodIn_app (goodIn_of _ (by decide +kernel)) ggX8_tellsTenant_X8_tellsMonth
set_option maxRecDepth 20000 in
theorem ggX8_tellsTenant_X8_endsBy : GoodIn wsX8_tellsTenant wsX8_endsBy := goodIn_r _ [83, 11, 12, 13, 14, 136, 137, 138, 139, 140, 141, 142, 143, 144, 145, 146, 147, 148, 149, 150, 151, 152, 153, 154, 155, 156, 157, 158, 159, 160, 161, 162, 163, 164] (by decide +kernel) (by decide +kernel)
set_option maxRecDepth 20000 in
theorem gX8_tellsTenant_X8_endsBy : GoodIn wsX8_tellsTenant (wsV RX8 201 RX8 yX8_endsBy wsX8_endsBy) := goodIn_app (goodIn_of _ (by decide +kernel)) ggX8_tellsTenant_X8_endsBy
set_option maxRecDepth 20000 in
theorem ggX8_tellsTenant_X8_tenantBetter : GoodIn wsX8_tellsTenant wsX8_tenantBetter := goodIn_r _ [87, 2, 88, 89, 90, 91, 6, 92, 3, 4, 5, 7, 8, 9, 10, 11, 12, 13, 14, 15, 16, 17, 18, 19, 20, 21, 22, 23, 24, 25, 26, 27, 28, 29, 30, 31, 32, 33, 34, 35, 36, 37, 38, 39, 40, 41, 42, 43, 44, 45, 46, 47, 48, 49, 50, 51, 52, 53, 54, 55, 56, 57, 58, 59, 60, 61, 62, 63, 64, 93, 94, 95, 96, 97, 98, 99, 100, 136, 137, 138, 139, 140, 141, 142, 143, 144, 145, 146, 147, 148, 149, 150, 151, 152, 153, 154, 155, 156, 157, 158, 159, 160, 161, 162, 163, 164] (by decide +kernel) (by decide +kernel)
set_option maxRecDepth 20000 in
theorem gX8_tellsTenant_X8_tenantBetter : GoodIn wsX8_tellsTenant (wsV RX8 229 RX8 yX8_tenantBetter wsX8_tenantBetter) := goodIn_app (goodIn_of _ (by decide +kernel)) ggX8_tellsTenant_X8_tenantBetter
set_option maxRecDepth 20000 in
theorem ggX8_tellsTenant_X8_wagesOf : GoodIn wsX8_tellsTenant wsX8_wagesOf := goodIn_r _ [104, 2, 105, 106, 107, 108, 6, 109, 110, 111, 20, 3, 4, 5, 7, 8, 9, 10, 11, 12, 13, 14, 15, 16, 17, 18, 19, 21, 22, 23, 24, 25, 26, 27, 28, 29, 30, 31, 32, 33, 34, 35, 36, 37, 38, 39, 40, 41, 42, 43, 44, 45, 46, 47, 48, 49, 50, 51, 52, 53, 54, 55, 56, 57, 58, 59, 60, 61, 62, 63, 64, 112, 113, 114, 115, 116, 136, 137, 138, 139, 140, 141, 142, 143, 144, 145, 146, 147, 148, 149, 150, 151, 152, 153, 154, 155, 156, 157, 158, 159, 160, 161, 162, 163, 164] (by decide +kernel) (by decide +kernel)
set_option maxRecDepth 20000 in
theorem gX8_tellsTenant_X8_wagesOf : GoodIn wsX8_tellsTenant (wsV RX8 259 RX8 yX8_wagesOf wsX8_wagesOf) := goodIn_app (goodIn_of _ (by decide +kernel)) ggX8_tellsTenant_X8_wagesOf
set_option maxRecDepth 20000 in
theorem ggX8_tellsTenant_X8_sortOf : GoodIn wsX8_tellsTenant wsX8_sortOf := goodIn_r _ [120, 2, 106, 107, 108, 6, 109, 110, 111, 20, 3, 4, 5, 7, 8, 9, 10, 11, 12, 13, 14, 15, 16, 17, 18, 19, 21, 22, 23, 24, 25, 26, 27, 28, 29, 30, 31, 32, 33, 34, 35, 36, 37, 38, 39, 40, 41, 42, 43, 44, 45, 46, 47, 48, 49, 50, 51, 52, 53, 54, 55, 56, 57, 58, 59, 60, 61, 62, 63, 64, 136, 137, 138, 139, 140, 141, 142, 143, 144, 145, 146, 147, 148, 149, 150, 151, 152, 153, 154, 155, 156, 157, 158, 159, 160, 161, 162, 163, 164] (by decide +kernel) (by decide +kernel)
set_option maxRecDepth 20000 in
theorem gX8_tellsTenant_X8_sortOf : GoodIn wsX8_tellsTenant (wsV RX8 262 RX8 yX8_sortOf wsX8_sortOf) := goodIn_app (goodIn_of _ (by decide +kernel)) ggX8_tellsTenant_X8_sortOf
set_option maxRecDepth 20000 in
theorem ggX8_tellsTenant_X8_askOf : GoodIn wsX8_tellsTenant wsX8_askOf := goodIn_r _ [124, 101, 102, 103, 6, 104, 2, 105, 106, 107, 108, 109, 110, 111, 20, 3, 4, 5, 7, 8, 9, 10, 11, 12, 13, 14, 15, 16, 17, 18, 19, 21, 22, 23, 24, 25, 26, 27, 28, 29, 30, 31, 32, 33, 34, 35, 36, 37, 38, 39, 40, 41, 42, 43, 44, 45, 46, 47, 48, 49, 50, 51, 52, 53, 54, 55, 56, 57, 58, 59, 60, 61, 62, 63, 64, 112, 113, 114, 115, 116, 125, 126, 127, 128, 136, 137, 138, 139, 140, 141, 142, 143, 144, 145, 146, 147, 148, 149, 150, 151, 152, 153, 154, 155, 156, 157, 158, 159, 160, 161, 162, 163, 164] (by decide +kernel) (by decide +kernel)
set_option maxRecDepth 20000 in
theorem gX8_tellsTenant_X8_askOf : GoodIn wsX8_tellsTenant (wsV RX8 274 RX8 yX8_askOf wsX8_askOf) := goodIn_app (goodIn_of _ (by decide +kernel)) ggX8_tellsTenant_X8_askOf
set_option maxRecDepth 20000 in
theorem ggX8_tellsTenant_X8_chanceOf : GoodIn wsX8_tellsTenant wsX8_chanceOf := goodIn_r _ [132, 28, 30, 11, 3, 4, 5, 6, 7, 8, 9, 10, 2, 12, 13, 14, 15, 16, 17, 18, 19, 20, 21, 22, 23, 24, 25, 26, 27, 29, 31, 32, 33, 34, 35, 36, 37, 38, 39, 40, 41, 42, 43, 44, 45, 46, 47, 48, 49, 50, 51, 52, 53, 54, 55, 56, 57, 58, 59, 60, 61, 62, 63, 64, 133, 134, 135, 136, 137, 138, 139, 140, 141, 142, 143, 144, 145, 146, 147, 148, 149, 150, 151, 152, 153, 154, 155, 156, 157, 158, 159, 160, 161, 162, 163, 164] (by decide +kernel) (by decide +kernel)
set_option maxRecDepth 20000 in
theorem gX8_tellsTenant_X8_chanceOf : GoodIn wsX8_tellsTenant (wsV RX8 283 RX8 yX8_chanceOf wsX8_chanceOf) := goodIn_app (goodIn_of _ (by decide +kernel)) ggX8_tellsTenant_X8_chanceOf
theorem dX8_tellsTenant_0 : decode cX8_tellsTenant 0 = .ok (.aload_n 0, 1) := by decide +kernel
theorem dX8_tellsTenant_1 : decode cX8_tellsTenant 1 = .ok (.invokevirtual 178, 3) := by decide +kernel
theorem dX8_tellsTenant_4 : decode cX8_tellsTenant 4 = .ok (.lload_n 1, 1) := by decide +kernel
theorem dX8_tellsTenant_5 : decode cX8_tellsTenant 5 = .ok (.lstore 4, 2) := by decide +kernel
theorem dX8_tellsTenant_7 : decode cX8_tellsTenant 7 = .ok (.iconst 0, 1) := by decide +kernel
theorem dX8_tellsTenant_8 : decode cX8_tellsTenant 8 = .ok (.istore 6, 2) := by decide +kernel
theorem dX8_tellsTenant_10 : decode cX8_tellsTenant 10 = .ok (.iload 6, 2) := by decide +kernel
theorem dX8_tellsTenant_12 : decode cX8_tellsTenant 12 = .ok (.iconst 3, 1) := by decide +kernel
theorem dX8_tellsTenant_13 : decode cX8_tellsTenant 13 = .ok (.if_icmp .ge 30, 3) := by decide +kernel
theorem dX8_tellsTenant_16 : decode cX8_tellsTenant 16 = .ok (.ldc2_w 303, 3) := by decide +kernel
theorem dX8_tellsTenant_19 : decode cX8_tellsTenant 19 = .ok (.lload 4, 2) := by decide +kernel
theorem dX8_tellsTenant_21 : decode cX8_tellsTenant 21 = .ok (.lmul, 1) := by decide +kernel
theorem dX8_tellsTenant_22 : decode cX8_tellsTenant 22 = .ok (.aload_n 0, 1) := by decide +kernel
theorem dX8_tellsTenant_23 : decode cX8_tellsTenant 23 = .ok (.getfield 25, 3) := by decide +kernel
theorem dX8_tellsTenant_26 : decode cX8_tellsTenant 26 = .ok (.iconst 3, 1) := by decide +kernel
theorem dX8_tellsTenant_27 : decode cX8_tellsTenant 27 = .ok (.iload_n 3, 1) := by decide +kernel
theorem dX8_tellsTenant_28 : decode cX8_tellsTenant 28 = .ok (.imul, 1) := by decide +kernel
theorem dX8_tellsTenant_29 : decode cX8_tellsTenant 29 = .ok (.iload 6, 2) := by decide +kernel
theorem dX8_tellsTenant_31 : decode cX8_tellsTenant 31 = .ok (.iadd, 1) := by decide +kernel
theorem dX8_tellsTenant_32 : decode cX8_tellsTenant 32 = .ok (.iaload, 1) := by decide +kernel
theorem dX8_tellsTenant_33 : decode cX8_tellsTenant 33 = .ok (.i2l, 1) := by decide +kernel
theorem dX8_tellsTenant_34 : decode cX8_tellsTenant 34 = .ok (.ladd, 1) := by decide +kernel
theorem dX8_tellsTenant_35 : decode cX8_tellsTenant 35 = .ok (.lstore 4, 2) := by decide +kernel
theorem dX8_tellsTenant_37 : decode cX8_tellsTenant 37 = .ok (.iinc 6 1, 3) := by decide +kernel
theorem dX8_tellsTenant_40 : decode cX8_tellsTenant 40 = .ok (.goto (-30), 3) := by decide +kernel
theorem dX8_tellsTenant_43 : decode cX8_tellsTenant 43 = .ok (.aload_n 0, 1) := by decide +kernel
theorem dX8_tellsTenant_44 : decode cX8_tellsTenant 44 = .ok (.aload_n 0, 1) := by decide +kernel
theorem dX8_tellsTenant_45 : decode cX8_tellsTenant 45 = .ok (.aload_n 0, 1) := by decide +kernel
theorem dX8_tellsTenant_46 : decode cX8_tellsTenant 46 = .ok (.aload_n 0, 1) := by decide +kernel
theorem dX8_tellsTenant_47 : decode cX8_tellsTenant 47 = .ok (.lload 4, 2) := by decide +kernel
theorem dX8_tellsTenant_49 : decode cX8_tellsTenant 49 = .ok (.iconst 0, 1) := by decide +kernel
theorem dX8_tellsTenant_50 : decode cX8_tellsTenant 50 = .ok (.iload_n 3, 1) := by decide +kernel
theorem dX8_tellsTenant_51 : decode cX8_tellsTenant 51 = .ok (.invokevirtual 305, 3) := by decide +kernel
theorem dX8_tellsTenant_54 : decode cX8_tellsTenant 54 = .ok (.bipush 6, 2) := by decide +kernel
theorem dX8_tellsTenant_56 : decode cX8_tellsTenant 56 = .ok (.iload_n 3, 1) := by decide +kernel
theorem dX8_tellsTenant_57 : decode cX8_tellsTenant 57 = .ok (.invokevirtual 305, 3) := by decide +kernel
theorem dX8_tellsTenant_60 : decode cX8_tellsTenant 60 = .ok (.bipush 13, 2) := by decide +kernel
theorem dX8_tellsTenant_62 : decode cX8_tellsTenant 62 = .ok (.iload_n 3, 1) := by decide +kernel
theorem dX8_tellsTenant_63 : decode cX8_tellsTenant 63 = .ok (.invokevirtual 305, 3) := by decide +kernel
theorem dX8_tellsTenant_66 : decode cX8_tellsTenant 66 = .ok (.bipush 23, 2) := by decide +kernel
theorem dX8_tellsTenant_68 : decode cX8_tellsTenant 68 = .ok (.iload_n 3, 1) := by decide +kernel
theorem dX8_tellsTenant_69 : decode cX8_tellsTenant 69 = .ok (.invokevirtual 305, 3) := by decide +kernel
theorem dX8_tellsTenant_72 : decode cX8_tellsTenant 72 = .ok (.lstore 4, 2) := by decide +kernel
theorem dX8_tellsTenant_74 : decode cX8_tellsTenant 74 = .ok (.iconst 0, 1) := by decide +kernel
theorem dX8_tellsTenant_75 : decode cX8_tellsTenant 75 = .ok (.istore 6, 2) := by decide +kernel
theorem dX8_tellsTenant_77 : decode cX8_tellsTenant 77 = .ok (.iload 6, 2) := by decide +kernel
theorem dX8_tellsTenant_79 : decode cX8_tellsTenant 79 = .ok (.iconst 4, 1) := by decide +kernel
theorem dX8_tellsTenant_80 : decode cX8_tellsTenant 80 = .ok (.if_icmp .ge 26, 3) := by decide +kernel
theorem dX8_tellsTenant_83 : decode cX8_tellsTenant 83 = .ok (.ldc2_w 303, 3) := by decide +kernel
theorem dX8_tellsTenant_86 : decode cX8_tellsTenant 86 = .ok (.lload 4, 2) := by decide +kernel
theorem dX8_tellsTenant_88 : decode cX8_tellsTenant 88 = .ok (.lmul, 1) := by decide +kernel
theorem dX8_tellsTenant_89 : decode cX8_tellsTenant 89 = .ok (.aload_n 0, 1) := by decide +kernel
theorem dX8_tellsTenant_90 : decode cX8_tellsTenant 90 = .ok (.iload_n 3, 1) := by decide +kernel
theorem dX8_tellsTenant_91 : decode cX8_tellsTenant 91 = .ok (.iload 6, 2) := by decide +kernel
theorem dX8_tellsTenant_93 : decode cX8_tellsTenant 93 = .ok (.invokevirtual 201, 3) := by decide +kernel
theorem dX8_tellsTenant_96 : decode cX8_tellsTenant 96 = .ok (.i2l, 1) := by decide +kernel
theorem dX8_tellsTenant_97 : decode cX8_tellsTenant 97 = .ok (.ladd, 1) := by decide +kernel
theorem dX8_tellsTenant_98 : decode cX8_tellsTenant 98 = .ok (.lstore 4, 2) := by decide +kernel
theorem dX8_tellsTenant_100 : decode cX8_tellsTenant 100 = .ok (.iinc 6 1, 3) := by decide +kernel
theorem dX8_tellsTenant_103 : decode cX8_tellsTenant 103 = .ok (.goto (-26), 3) := by decide +kernel
theorem dX8_tellsTenant_106 : decode cX8_tellsTenant 106 = .ok (.iconst 0, 1) := by decide +kernel
theorem dX8_tellsTenant_107 : decode cX8_tellsTenant 107 = .ok (.istore 6, 2) := by decide +kernel
theorem dX8_tellsTenant_109 : decode cX8_tellsTenant 109 = .ok (.iload 6, 2) := by decide +kernel
theorem dX8_tellsTenant_111 : decode cX8_tellsTenant 111 = .ok (.iconst 3, 1) := by decide +kernel
theorem dX8_tellsTenant_112 : decode cX8_tellsTenant 112 = .ok (.if_icmp .ge 32, 3) := by decide +kernel
theorem dX8_tellsTenant_115 : decode cX8_tellsTenant 115 = .ok (.ldc2_w 303, 3) := by decide +kernel
theorem dX8_tellsTenant_118 : decode cX8_tellsTenant 118 = .ok (.lload 4, 2) := by decide +kernel
theorem dX8_tellsTenant_120 : decode cX8_tellsTenant 120 = .ok (.lmul, 1) := by decide +kernel
theorem dX8_tellsTenant_121 : decode cX8_tellsTenant 121 = .ok (.aload_n 0, 1) := by decide +kernel
theorem dX8_tellsTenant_122 : decode cX8_tellsTenant 122 = .ok (.iconst 3, 1) := by decide +kernel
theorem dX8_tellsTenant_123 : decode cX8_tellsTenant 123 = .ok (.iload_n 3, 1) := by decide +kernel
theorem dX8_tellsTenant_124 : decode cX8_tellsTenant 124 = .ok (.imul, 1) := by decide +kernel
theorem dX8_tellsTenant_125 : decode cX8_tellsTenant 125 = .ok (.iconst 2, 1) := by decide +kernel
theorem dX8_tellsTenant_126 : decode cX8_tellsTenant 126 = .ok (.iadd, 1) := by decide +kernel
theorem dX8_tellsTenant_127 : decode cX8_tellsTenant 127 = .ok (.bipush 10, 2) := by decide +kernel
theorem dX8_tellsTenant_129 : decode cX8_tellsTenant 129 = .ok (.iload 6, 2) := by decide +kernel
theorem dX8_tellsTenant_131 : decode cX8_tellsTenant 131 = .ok (.invokevirtual 229, 3) := by decide +kernel
theorem dX8_tellsTenant_134 : decode cX8_tellsTenant 134 = .ok (.i2l, 1) := by decide +kernel
theorem dX8_tellsTenant_135 : decode cX8_tellsTenant 135 = .ok (.ladd, 1) := by decide +kernel
theorem dX8_tellsTenant_136 : decode cX8_tellsTenant 136 = .ok (.lstore 4, 2) := by decide +kernel
theorem dX8_tellsTenant_138 : decode cX8_tellsTenant 138 = .ok (.iinc 6 1, 3) := by decide +kernel
theorem dX8_tellsTenant_141 : decode cX8_tellsTenant 141 = .ok (.goto (-32), 3) := by decide +kernel
theorem dX8_tellsTenant_144 : decode cX8_tellsTenant 144 = .ok (.iconst 0, 1) := by decide +kernel
theorem dX8_tellsTenant_145 : decode cX8_tellsTenant 145 = .ok (.istore 6, 2) := by decide +kernel
theorem dX8_tellsTenant_147 : decode cX8_tellsTenant 147 = .ok (.iload 6, 2) := by decide +kernel
theorem dX8_tellsTenant_149 : decode cX8_tellsTenant 149 = .ok (.iconst 3, 1) := by decide +kernel
theorem dX8_tellsTenant_150 : decode cX8_tellsTenant 150 = .ok (.if_icmp .ge 29, 3) := by decide +kernel
theorem dX8_tellsTenant_153 : decode cX8_tellsTenant 153 = .ok (.ldc2_w 303, 3) := by decide +kernel
theorem dX8_tellsTenant_156 : decode cX8_tellsTenant 156 = .ok (.lload 4, 2) := by decide +kernel
theorem dX8_tellsTenant_158 : decode cX8_tellsTenant 158 = .ok (.lmul, 1) := by decide +kernel
theorem dX8_tellsTenant_159 : decode cX8_tellsTenant 159 = .ok (.aload_n 0, 1) := by decide +kernel
theorem dX8_tellsTenant_160 : decode cX8_tellsTenant 160 = .ok (.iconst 3, 1) := by decide +kernel
theorem dX8_tellsTenant_161 : decode cX8_tellsTenant 161 = .ok (.iload_n 3, 1) := by decide +kernel
theorem dX8_tellsTenant_162 : decode cX8_tellsTenant 162 = .ok (.imul, 1) := by decide +kernel
theorem dX8_tellsTenant_163 : decode cX8_tellsTenant 163 = .ok (.iconst 4, 1) := by decide +kernel
theorem dX8_tellsTenant_164 : decode cX8_tellsTenant 164 = .ok (.iload 6, 2) := by decide +kernel
theorem dX8_tellsTenant_166 : decode cX8_tellsTenant 166 = .ok (.invokevirtual 229, 3) := by decide +kernel
theorem dX8_tellsTenant_169 : decode cX8_tellsTenant 169 = .ok (.i2l, 1) := by decide +kernel
theorem dX8_tellsTenant_170 : decode cX8_tellsTenant 170 = .ok (.ladd, 1) := by decide +kernel
theorem dX8_tellsTenant_171 : decode cX8_tellsTenant 171 = .ok (.lstore 4, 2) := by decide +kernel
theorem dX8_tellsTenant_173 : decode cX8_tellsTenant 173 = .ok (.iinc 6 1, 3) := by decide +kernel
theorem dX8_tellsTenant_176 : decode cX8_tellsTenant 176 = .ok (.goto (-29), 3) := by decide +kernel
theorem dX8_tellsTenant_179 : decode cX8_tellsTenant 179 = .ok (.ldc2_w 303, 3) := by decide +kernel
theorem dX8_tellsTenant_182 : decode cX8_tellsTenant 182 = .ok (.lload 4, 2) := by decide +kernel
theorem dX8_tellsTenant_184 : decode cX8_tellsTenant 184 = .ok (.lmul, 1) := by decide +kernel
theorem dX8_tellsTenant_185 : decode cX8_tellsTenant 185 = .ok (.aload_n 0, 1) := by decide +kernel
theorem dX8_tellsTenant_186 : decode cX8_tellsTenant 186 = .ok (.iload_n 3, 1) := by decide +kernel
theorem dX8_tellsTenant_187 : decode cX8_tellsTenant 187 = .ok (.invokevirtual 259, 3) := by decide +kernel
theorem dX8_tellsTenant_190 : decode cX8_tellsTenant 190 = .ok (.i2l, 1) := by decide +kernel
theorem dX8_tellsTenant_191 : decode cX8_tellsTenant 191 = .ok (.ladd, 1) := by decide +kernel
theorem dX8_tellsTenant_192 : decode cX8_tellsTenant 192 = .ok (.lstore 4, 2) := by decide +kernel
theorem dX8_tellsTenant_194 : decode cX8_tellsTenant 194 = .ok (.ldc2_w 303, 3) := by decide +kernel
theorem dX8_tellsTenant_197 : decode cX8_tellsTenant 197 = .ok (.lload 4, 2) := by decide +kernel
theorem dX8_tellsTenant_199 : decode cX8_tellsTenant 199 = .ok (.lmul, 1) := by decide +kernel
theorem dX8_tellsTenant_200 : decode cX8_tellsTenant 200 = .ok (.aload_n 0, 1) := by decide +kernel
theorem dX8_tellsTenant_201 : decode cX8_tellsTenant 201 = .ok (.iload_n 3, 1) := by decide +kernel
theorem dX8_tellsTenant_202 : decode cX8_tellsTenant 202 = .ok (.invokevirtual 262, 3) := by decide +kernel
theorem dX8_tellsTenant_205 : decode cX8_tellsTenant 205 = .ok (.i2l, 1) := by decide +kernel
theorem dX8_tellsTenant_206 : decode cX8_tellsTenant 206 = .ok (.ladd, 1) := by decide +kernel
theorem dX8_tellsTenant_207 : decode cX8_tellsTenant 207 = .ok (.lstore 4, 2) := by decide +kernel
theorem dX8_tellsTenant_209 : decode cX8_tellsTenant 209 = .ok (.ldc2_w 303, 3) := by decide +kernel
theorem dX8_tellsTenant_212 : decode cX8_tellsTenant 212 = .ok (.lload 4, 2) := by decide +kernel
theorem dX8_tellsTenant_214 : decode cX8_tellsTenant 214 = .ok (.lmul, 1) := by decide +kernel
theorem dX8_tellsTenant_215 : decode cX8_tellsTenant 215 = .ok (.aload_n 0, 1) := by decide +kernel
theorem dX8_tellsTenant_216 : decode cX8_tellsTenant 216 = .ok (.iload_n 3, 1) := by decide +kernel
theorem dX8_tellsTenant_217 : decode cX8_tellsTenant 217 = .ok (.invokevirtual 274, 3) := by decide +kernel
theorem dX8_tellsTenant_220 : decode cX8_tellsTenant 220 = .ok (.i2l, 1) := by decide +kernel
theorem dX8_tellsTenant_221 : decode cX8_tellsTenant 221 = .ok (.ladd, 1) := by decide +kernel
theorem dX8_tellsTenant_222 : decode cX8_tellsTenant 222 = .ok (.lstore 4, 2) := by decide +kernel
theorem dX8_tellsTenant_224 : decode cX8_tellsTenant 224 = .ok (.ldc2_w 303, 3) := by decide +kernel
theorem dX8_tellsTenant_227 : decode cX8_tellsTenant 227 = .ok (.lload 4, 2) := by decide +kernel
theorem dX8_tellsTenant_229 : decode cX8_tellsTenant 229 = .ok (.lmul, 1) := by decide +kernel
theorem dX8_tellsTenant_230 : decode cX8_tellsTenant 230 = .ok (.aload_n 0, 1) := by decide +kernel
theorem dX8_tellsTenant_231 : decode cX8_tellsTenant 231 = .ok (.iconst 5, 1) := by decide +kernel
theorem dX8_tellsTenant_232 : decode cX8_tellsTenant 232 = .ok (.iload_n 3, 1) := by decide +kernel
theorem dX8_tellsTenant_233 : decode cX8_tellsTenant 233 = .ok (.iconst 0, 1) := by decide +kernel
theorem dX8_tellsTenant_234 : decode cX8_tellsTenant 234 = .ok (.invokevirtual 283, 3) := by decide +kernel
theorem dX8_tellsTenant_237 : decode cX8_tellsTenant 237 = .ok (.ladd, 1) := by decide +kernel
theorem dX8_tellsTenant_238 : decode cX8_tellsTenant 238 = .ok (.lstore 4, 2) := by decide +kernel
theorem dX8_tellsTenant_240 : decode cX8_tellsTenant 240 = .ok (.ldc2_w 303, 3) := by decide +kernel
theorem dX8_tellsTenant_243 : decode cX8_tellsTenant 243 = .ok (.lload 4, 2) := by decide +kernel
theorem dX8_tellsTenant_245 : decode cX8_tellsTenant 245 = .ok (.lmul, 1) := by decide +kernel
theorem dX8_tellsTenant_246 : decode cX8_tellsTenant 246 = .ok (.aload_n 0, 1) := by decide +kernel
theorem dX8_tellsTenant_247 : decode cX8_tellsTenant 247 = .ok (.iconst 5, 1) := by decide +kernel
theorem dX8_tellsTenant_248 : decode cX8_tellsTenant 248 = .ok (.iload_n 3, 1) := by decide +kernel
theorem dX8_tellsTenant_249 : decode cX8_tellsTenant 249 = .ok (.iconst 1, 1) := by decide +kernel
theorem dX8_tellsTenant_250 : decode cX8_tellsTenant 250 = .ok (.invokevirtual 283, 3) := by decide +kernel
theorem dX8_tellsTenant_253 : decode cX8_tellsTenant 253 = .ok (.ladd, 1) := by decide +kernel
theorem dX8_tellsTenant_254 : decode cX8_tellsTenant 254 = .ok (.lreturn, 1) := by decide +kernel
set_option maxRecDepth 20000 in
theorem ggX8_digest_X8_count : GoodIn wsX8_digest wsX8_count := goodIn_r _ [8, 3, 9, 10, 11, 12, 13, 14, 15, 16, 7, 17, 18, 19, 20, 21, 22, 23, 24, 25, 26, 27, 28, 29, 30, 31, 32, 33, 34, 35, 36, 37, 38, 39, 40, 41, 42, 43, 44, 45, 46, 47, 48, 49, 50, 51, 52, 53, 54, 55, 56, 57, 58, 59, 60, 61, 62, 63, 64, 65, 66, 67, 68, 69, 70, 71, 72, 73, 74, 75, 76, 77, 78, 79, 80, 81, 82, 83, 84, 85, 86, 87, 88, 89, 90, 91, 92, 93, 94, 95, 96, 97, 98, 219, 220, 221, 222, 223, 224, 225, 226, 227, 228, 229, 230, 231, 232, 233, 234, 235, 236, 237, 238, 239, 240, 241, 242, 243, 244, 245, 246, 247] (by decide +kernel) (by decide +kernel)
set_option maxRecDepth 20000 in
theorem gX8_digest_X8_count : GoodIn wsX8_digest (wsV RX8 311 RX8 yX8_count wsX8_count) := goodIn_app (goodIn_of _ (by decide +kernel)) ggX8_digest_X8_count
set_option maxRecDepth 20000 in
theorem ggX8_digest_X8_reads : GoodIn wsX8_digest wsX8_reads := goodIn_r _ [21, 3, 9, 22, 23, 24, 25, 7, 26, 27, 28, 29, 30, 31, 219, 220, 221, 222, 223, 224, 225, 226, 227, 228, 229, 230, 231, 232, 233, 234, 235, 236, 237, 238, 239, 240, 241, 242, 243, 244, 245, 246, 247] (by decide +kernel) (by decide +kernel)
set_option maxRecDepth 20000 in
theorem gX8_digest_X8_reads : GoodIn wsX8_digest (wsV RX8 120 RX8 yX8_reads wsX8_reads) := goodIn_app (goodIn_of _ (by decide +kernel)) ggX8_digest_X8_reads
set_option maxRecDepth 20000 in
theorem ggX8_digest_X8_lives : GoodIn wsX8_digest wsX8_lives := goodIn_r _ [35, 3, 36, 37, 23, 38, 39, 40, 41, 42, 43, 44, 7, 45, 46, 47, 48, 49, 50, 51, 52, 53, 54, 10, 55, 56, 57, 58, 59, 60, 61, 62, 63, 29, 30, 31, 64, 65, 66, 67, 68, 69, 70, 71, 72, 73, 74, 75, 11, 76, 77, 78, 79, 80, 81, 82, 83, 84, 85, 86, 219, 220, 221, 222, 223, 224, 225, 226, 227, 228, 229, 230, 231, 232, 233, 234, 235, 236, 237, 238, 239, 240, 241, 242, 243, 244, 245, 246, 247] (by decide +kernel) (by decide +kernel)
set_option maxRecDepth 20000 in
theorem gX8_digest_X8_lives : GoodIn wsX8_digest (wsV RX8 178 RX8 yX8_lives wsX8_lives) := goodIn_app (goodIn_of _ (by decide +kernel)) ggX8_digest_X8_lives
set_option maxRecDepth 20000 in
theorem ggX8_digest_X8_liftBy : GoodIn wsX8_digest wsX8_liftBy := goodIn_r _ [102, 3, 47, 103, 104, 105, 7, 106, 48, 107, 108, 109, 219, 220, 221, 222, 223, 224, 225, 226, 227, 228, 229, 230, 231, 232, 233, 234, 235, 236, 237, 238, 239, 240, 241, 242, 243, 244, 245, 246, 247] (by decide +kernel) (by decide +kernel)
set_option maxRecDepth 20000 in
theorem gX8_digest_X8_liftBy : GoodIn wsX8_digest (wsV RX8 198 RX8 yX8_liftBy wsX8_liftBy) := goodIn_app (goodIn_of _ (by decide +kernel)) ggX8_digest_X8_liftBy
set_option maxRecDepth 20000 in
theorem ggX8_digest_X8_liveBy : GoodIn wsX8_digest wsX8_liveBy := goodIn_r _ [113, 3, 47, 219, 220, 221, 222, 223, 224, 225, 226, 227, 228, 229, 230, 231, 232, 233, 234, 235, 236, 237, 238, 239, 240, 241, 242, 243, 244, 245, 246, 247] (by decide +kernel) (by decide +kernel)
set_option maxRecDepth 20000 in
theorem gX8_digest_X8_liveBy : GoodIn wsX8_digest (wsV RX8 195 RX8 yX8_liveBy wsX8_liveBy) := goodIn_app (goodIn_of _ (by decide +kernel)) ggX8_digest_X8_liveBy
set_option maxRecDepth 20000 in
theorem ggX8_digest_X8_tellsTenant : GoodIn wsX8_digest wsX8_tellsTenant := goodIn_r _ [117, 2, 23, 32, 33, 34, 7, 35, 3, 36, 37, 38, 39, 40, 41, 42, 43, 44, 45, 46, 47, 48, 49, 50, 51, 52, 53, 54, 10, 55, 56, 57, 58, 59, 60, 61, 62, 63, 29, 30, 31, 64, 65, 66, 67, 68, 69, 70, 71, 72, 73, 74, 75, 11, 76, 77, 78, 79, 80, 81, 82, 83, 84, 85, 86, 118, 119, 120, 121, 122, 123, 124, 125, 103, 104, 105, 106, 107, 108, 109, 126, 127, 128, 129, 130, 131, 132, 133, 134, 135, 136, 137, 138, 87, 88, 89, 90, 91, 92, 93, 94, 139, 140, 141, 142, 143, 144, 145, 146, 147, 12, 148, 149, 150, 151, 152, 153, 154, 155, 156, 157, 158, 159, 160, 161, 162, 163, 164, 165, 166, 167, 168, 169, 170, 171, 172, 219, 220, 221, 222, 223, 224, 225, 226, 227, 228, 229, 230, 231, 232, 233, 234, 235, 236, 237, 238, 239, 240, 241, 242, 243, 244, 245, 246, 247] (by decide +kernel) (by decide +kernel)
set_option maxRecDepth 20000 in
theorem gX8_digest_X8_tellsTenant : GoodIn wsX8_digest (wsV RX8 314 RX8 yX8_tellsTenant wsX8_tellsTenant) := goodIn_app (goodIn_of _ (by decide +kernel)) ggX8_digest_X8_tellsTenant
set_option maxRecDepth 20000 in
theorem ggX8_digest_X8_sumBy : GoodIn wsX8_digest wsX8_sumBy := goodIn_r _ [176, 87, 88, 89, 7, 90, 3, 38, 91, 92, 93, 94, 39, 177, 178, 179, 180, 40, 181, 182, 183, 184, 103, 104, 105, 106, 47, 48, 107, 108, 109, 219, 220, 221, 222, 223, 224, 225, 226, 227, 228, 229, 230, 231, 232, 233, 234, 235, 236, 237, 238, 239, 240, 241, 242, 243, 244, 245, 246, 247] (by decide +kernel) (by decide +kernel)
set_option maxRecDepth 20000 in
theorem gX8_digest_X8_sumBy : GoodIn wsX8_digest (wsV RX8 216 RX8 yX8_sumBy wsX8_sumBy) := goodIn_app (goodIn_of _ (by decide +kernel)) ggX8_digest_X8_sumBy
set_option maxRecDepth 20000 in
theorem ggX8_digest_X8_topNow : GoodIn wsX8_digest wsX8_topNow := goodIn_r _ [188, 3, 36, 84, 85, 7, 86, 219, 220, 221, 222, 223, 224, 225, 226, 227, 228, 229, 230, 231, 232, 233, 234, 235, 236, 237, 238, 239, 240, 241, 242, 243, 244, 245, 246, 247] (by decide +kernel) (by decide +kernel)
set_option maxRecDepth 20000 in
theorem gX8_digest_X8_topNow : GoodIn wsX8_digest (wsV RX8 219 RX8 yX8_topNow wsX8_topNow) := goodIn_app (goodIn_of _ (by decide +kernel)) ggX8_digest_X8_topNow
set_option maxRecDepth 20000 in
theorem ggX8_digest_X8_heardNow : GoodIn wsX8_digest wsX8_heardNow := goodIn_r _ [192, 3, 47, 57, 58, 7, 59, 219, 220, 221, 222, 223, 224, 225, 226, 227, 228, 229, 230, 231, 232, 233, 234, 235, 236, 237, 238, 239, 240, 241, 242, 243, 244, 245, 246, 247] (by decide +kernel) (by decide +kernel)
set_option maxRecDepth 20000 in
theorem gX8_digest_X8_heardNow : GoodIn wsX8_digest (wsV RX8 222 RX8 yX8_heardNow wsX8_heardNow) := goodIn_app (goodIn_of _ (by decide +kernel)) ggX8_digest_X8_heardNow
set_option maxRecDepth 20000 in
theorem ggX8_digest_X8_widenBy : GoodIn wsX8_digest wsX8_widenBy := goodIn_r _ [196, 11, 134, 135, 136, 137, 7, 138, 32, 33, 34, 35, 3, 36, 37, 23, 38, 39, 40, 41, 42, 43, 44, 45, 46, 47, 48, 49, 50, 51, 52, 53, 54, 10, 55, 56, 57, 58, 59, 60, 61, 62, 63, 29, 30, 31, 64, 65, 66, 67, 68, 69, 70, 71, 72, 73, 74, 75, 76, 77, 78, 79, 80, 81, 82, 83, 84, 85, 86, 87, 88, 89, 90, 91, 92, 93, 94, 219, 220, 221, 222, 223, 224, 225, 226, 227, 228, 229, 230, 231, 232, 233, 234, 235, 236, 237, 238, 239, 240, 241, 242, 243, 244, 245, 246, 247] (by decide +kernel) (by decide +kernel)
set_option maxRecDepth 20000 in
theorem gX8_digest_X8_widenBy : GoodIn wsX8_digest (wsV RX8 232 RX8 yX8_widenBy wsX8_widenBy) := goodIn_app (goodIn_of _ (by decide +kernel)) ggX8_digest_X8_widenBy
set_option maxRecDepth 20000 in
theorem ggX8_digest_X8_spareBy : GoodIn wsX8_digest wsX8_spareBy := goodIn_r _ [200, 10, 201, 202, 203, 7, 204, 56, 32, 33, 34, 35, 3, 36, 37, 23, 38, 39, 40, 41, 42, 43, 44, 45, 46, 47, 48, 49, 50, 51, 52, 53, 54, 55, 57, 58, 59, 60, 61, 62, 63, 29, 30, 31, 64, 65, 66, 67, 68, 69, 70, 71, 72, 73, 74, 75, 11, 76, 77, 78, 79, 80, 81, 82, 83, 84, 85, 86, 87, 88, 89, 90, 219, 220, 221, 222, 223, 224, 225, 226, 227, 228, 229, 230, 231, 232, 233, 234, 235, 236, 237, 238, 239, 240, 241, 242, 243, 244, 245, 246, 247] (by decide +kernel) (by decide +kernel)
set_option maxRecDepth 20000 in
theorem gX8_digest_X8_spareBy : GoodIn wsX8_digest (wsV RX8 240 RX8 yX8_spareBy wsX8_spareBy) := goodIn_app (goodIn_of _ (by decide +kernel)) ggX8_digest_X8_spareBy
set_option maxRecDepth 20000 in
theorem ggX8_digest_X8_neverNow : GoodIn wsX8_digest wsX8_neverNow := goodIn_r _ [208, 10, 56, 144, 145, 146, 7, 147, 12, 148, 47, 32, 33, 34, 35, 3, 36, 37, 23, 38, 39, 40, 41, 42, 43, 44, 45, 46, 48, 49, 50, 51, 52, 53, 54, 55, 57, 58, 59, 60, 61, 62, 63, 29, 30, 31, 64, 65, 66, 67, 68, 69, 70, 71, 72, 73, 74, 75, 11, 76, 77, 78, 79, 80, 81, 82, 83, 84, 85, 86, 219, 220, 221, 222, 223, 224, 225, 226, 227, 228, 229, 230, 231, 232, 233, 234, 235, 236, 237, 238, 239, 240, 241, 242, 243, 244, 245, 246, 247] (by decide +kernel) (by decide +kernel)
set_option maxRecDepth 20000 in
theorem gX8_digest_X8_neverNow : GoodIn wsX8_digest (wsV RX8 250 RX8 yX8_neverNow wsX8_neverNow) := goodIn_app (goodIn_of _ (by decide +kernel)) ggX8_digest_X8_neverNow
set_option maxRecDepth 20000 in
theorem ggX8_digest_X8_housesOf : GoodIn wsX8_digest wsX8_housesOf := goodIn_r _ [212, 213, 3, 23, 214, 215, 216, 7, 217, 218, 32, 33, 34, 35, 36, 37, 38, 39, 40, 41, 42, 43, 44, 45, 46, 47, 48, 49, 50, 51, 52, 53, 54, 10, 55, 56, 57, 58, 59, 60, 61, 62, 63, 29, 30, 31, 64, 65, 66, 67, 68, 69, 70, 71, 72, 73, 74, 75, 11, 76, 77, 78, 79, 80, 81, 82, 83, 84, 85, 86, 87, 88, 89, 90, 91, 92, 93, 94, 18, 19, 20, 21, 9, 22, 24, 25, 26, 27, 28, 219, 220, 221, 222, 223, 224, 225, 226, 227, 228, 229, 230, 231, 232, 233, 234, 235, 236, 237, 238, 239, 240, 241, 242, 243, 244, 245, 246, 247] (by decide +kernel) (by decide +kernel)
set_option maxRecDepth 20000 in
theorem gX8_digest_X8_housesOf : GoodIn wsX8_digest (wsV RX8 297 RX8 yX8_housesOf wsX8_housesOf) := goodIn_app (goodIn_of _ (by decide +kernel)) ggX8_digest_X8_housesOf
theorem dX8_digest_0 : decode cX8_digest 0 = .ok (.ldc2_w 309, 3) := by decide +kernel
theorem dX8_digest_3 : decode cX8_digest 3 = .ok (.lstore_n 1, 1) := by decide +kernel
theorem dX8_digest_4 : decode cX8_digest 4 = .ok (.iconst 0, 1) := by decide +kernel
theorem dX8_digest_5 : decode cX8_digest 5 = .ok (.istore_n 3, 1) := by decide +kernel
theorem dX8_digest_6 : decode cX8_digest 6 = .ok (.iload_n 3, 1) := by decide +kernel
theorem dX8_digest_7 : decode cX8_digest 7 = .ok (.bipush 8, 2) := by decide +kernel
theorem dX8_digest_9 : decode cX8_digest 9 = .ok (.if_icmp .ge 22, 3) := by decide +kernel
theorem dX8_digest_12 : decode cX8_digest 12 = .ok (.ldc2_w 303, 3) := by decide +kernel
theorem dX8_digest_15 : decode cX8_digest 15 = .ok (.lload_n 1, 1) := by decide +kernel
theorem dX8_digest_16 : decode cX8_digest 16 = .ok (.lmul, 1) := by decide +kernel
theorem dX8_digest_17 : decode cX8_digest 17 = .ok (.aload_n 0, 1) := by decide +kernel
theorem dX8_digest_18 : decode cX8_digest 18 = .ok (.iload_n 3, 1) := by decide +kernel
theorem dX8_digest_19 : decode cX8_digest 19 = .ok (.invokevirtual 311, 3) := by decide +kernel
theorem dX8_digest_22 : decode cX8_digest 22 = .ok (.i2l, 1) := by decide +kernel
theorem dX8_digest_23 : decode cX8_digest 23 = .ok (.ladd, 1) := by decide +kernel
theorem dX8_digest_24 : decode cX8_digest 24 = .ok (.lstore_n 1, 1) := by decide +kernel
theorem dX8_digest_25 : decode cX8_digest 25 = .ok (.iinc 3 1, 3) := by decide +kernel
theorem dX8_digest_28 : decode cX8_digest 28 = .ok (.goto (-22), 3) := by decide +kernel
theorem dX8_digest_31 : decode cX8_digest 31 = .ok (.ldc2_w 303, 3) := by decide +kernel
theorem dX8_digest_34 : decode cX8_digest 34 = .ok (.lload_n 1, 1) := by decide +kernel
theorem dX8_digest_35 : decode cX8_digest 35 = .ok (.lmul, 1) := by decide +kernel
theorem dX8_digest_36 : decode cX8_digest 36 = .ok (.aload_n 0, 1) := by decide +kernel
theorem dX8_digest_37 : decode cX8_digest 37 = .ok (.invokevirtual 120, 3) := by decide +kernel
theorem dX8_digest_40 : decode cX8_digest 40 = .ok (.i2l, 1) := by decide +kernel
theorem dX8_digest_41 : decode cX8_digest 41 = .ok (.ladd, 1) := by decide +kernel
theorem dX8_digest_42 : decode cX8_digest 42 = .ok (.lstore_n 1, 1) := by decide +kernel
theorem dX8_digest_43 : decode cX8_digest 43 = .ok (.aload_n 0, 1) := by decide +kernel
theorem dX8_digest_44 : decode cX8_digest 44 = .ok (.invokevirtual 178, 3) := by decide +kernel
theorem dX8_digest_47 : decode cX8_digest 47 = .ok (.iconst 0, 1) := by decide +kernel
theorem dX8_digest_48 : decode cX8_digest 48 = .ok (.istore_n 3, 1) := by decide +kernel
theorem dX8_digest_49 : decode cX8_digest 49 = .ok (.iload_n 3, 1) := by decide +kernel
theorem dX8_digest_50 : decode cX8_digest 50 = .ok (.bipush 24, 2) := by decide +kernel
theorem dX8_digest_52 : decode cX8_digest 52 = .ok (.if_icmp .ge 22, 3) := by decide +kernel
theorem dX8_digest_55 : decode cX8_digest 55 = .ok (.ldc2_w 303, 3) := by decide +kernel
theorem dX8_digest_58 : decode cX8_digest 58 = .ok (.lload_n 1, 1) := by decide +kernel
theorem dX8_digest_59 : decode cX8_digest 59 = .ok (.lmul, 1) := by decide +kernel
theorem dX8_digest_60 : decode cX8_digest 60 = .ok (.aload_n 0, 1) := by decide +kernel
theorem dX8_digest_61 : decode cX8_digest 61 = .ok (.iload_n 3, 1) := by decide +kernel
theorem dX8_digest_62 : decode cX8_digest 62 = .ok (.invokevirtual 198, 3) := by decide +kernel
theorem dX8_digest_65 : decode cX8_digest 65 = .ok (.i2l, 1) := by decide +kernel
theorem dX8_digest_66 : decode cX8_digest 66 = .ok (.ladd, 1) := by decide +kernel
theorem dX8_digest_67 : decode cX8_digest 67 = .ok (.lstore_n 1, 1) := by decide +kernel
theorem dX8_digest_68 : decode cX8_digest 68 = .ok (.iinc 3 1, 3) := by decide +kernel
theorem dX8_digest_71 : decode cX8_digest 71 = .ok (.goto (-22), 3) := by decide +kernel
theorem dX8_digest_74 : decode cX8_digest 74 = .ok (.iconst 0, 1) := by decide +kernel
theorem dX8_digest_75 : decode cX8_digest 75 = .ok (.istore_n 3, 1) := by decide +kernel
theorem dX8_digest_76 : decode cX8_digest 76 = .ok (.iload_n 3, 1) := by decide +kernel
theorem dX8_digest_77 : decode cX8_digest 77 = .ok (.bipush 13, 2) := by decide +kernel
theorem dX8_digest_79 : decode cX8_digest 79 = .ok (.if_icmp .ge 53, 3) := by decide +kernel
theorem dX8_digest_82 : decode cX8_digest 82 = .ok (.ldc2_w 303, 3) := by decide +kernel
theorem dX8_digest_85 : decode cX8_digest 85 = .ok (.lload_n 1, 1) := by decide +kernel
theorem dX8_digest_86 : decode cX8_digest 86 = .ok (.lmul, 1) := by decide +kernel
theorem dX8_digest_87 : decode cX8_digest 87 = .ok (.aload_n 0, 1) := by decide +kernel
theorem dX8_digest_88 : decode cX8_digest 88 = .ok (.iconst 3, 1) := by decide +kernel
theorem dX8_digest_89 : decode cX8_digest 89 = .ok (.iload_n 3, 1) := by decide +kernel
theorem dX8_digest_90 : decode cX8_digest 90 = .ok (.invokevirtual 195, 3) := by decide +kernel
theorem dX8_digest_93 : decode cX8_digest 93 = .ok (.i2l, 1) := by decide +kernel
theorem dX8_digest_94 : decode cX8_digest 94 = .ok (.ladd, 1) := by decide +kernel
theorem dX8_digest_95 : decode cX8_digest 95 = .ok (.lstore_n 1, 1) := by decide +kernel
theorem dX8_digest_96 : decode cX8_digest 96 = .ok (.ldc2_w 303, 3) := by decide +kernel
theorem dX8_digest_99 : decode cX8_digest 99 = .ok (.lload_n 1, 1) := by decide +kernel
theorem dX8_digest_100 : decode cX8_digest 100 = .ok (.lmul, 1) := by decide +kernel
theorem dX8_digest_101 : decode cX8_digest 101 = .ok (.aload_n 0, 1) := by decide +kernel
theorem dX8_digest_102 : decode cX8_digest 102 = .ok (.bipush 9, 2) := by decide +kernel
theorem dX8_digest_104 : decode cX8_digest 104 = .ok (.iload_n 3, 1) := by decide +kernel
theorem dX8_digest_105 : decode cX8_digest 105 = .ok (.invokevirtual 195, 3) := by decide +kernel
theorem dX8_digest_108 : decode cX8_digest 108 = .ok (.i2l, 1) := by decide +kernel
theorem dX8_digest_109 : decode cX8_digest 109 = .ok (.ladd, 1) := by decide +kernel
theorem dX8_digest_110 : decode cX8_digest 110 = .ok (.lstore_n 1, 1) := by decide +kernel
theorem dX8_digest_111 : decode cX8_digest 111 = .ok (.ldc2_w 303, 3) := by decide +kernel
theorem dX8_digest_114 : decode cX8_digest 114 = .ok (.lload_n 1, 1) := by decide +kernel
theorem dX8_digest_115 : decode cX8_digest 115 = .ok (.lmul, 1) := by decide +kernel
theorem dX8_digest_116 : decode cX8_digest 116 = .ok (.aload_n 0, 1) := by decide +kernel
theorem dX8_digest_117 : decode cX8_digest 117 = .ok (.bipush 23, 2) := by decide +kernel
theorem dX8_digest_119 : decode cX8_digest 119 = .ok (.iload_n 3, 1) := by decide +kernel
theorem dX8_digest_120 : decode cX8_digest 120 = .ok (.invokevirtual 195, 3) := by decide +kernel
theorem dX8_digest_123 : decode cX8_digest 123 = .ok (.i2l, 1) := by decide +kernel
theorem dX8_digest_124 : decode cX8_digest 124 = .ok (.ladd, 1) := by decide +kernel
theorem dX8_digest_125 : decode cX8_digest 125 = .ok (.lstore_n 1, 1) := by decide +kernel
theorem dX8_digest_126 : decode cX8_digest 126 = .ok (.iinc 3 1, 3) := by decide +kernel
theorem dX8_digest_129 : decode cX8_digest 129 = .ok (.goto (-53), 3) := by decide +kernel
theorem dX8_digest_132 : decode cX8_digest 132 = .ok (.iconst 0, 1) := by decide +kernel
theorem dX8_digest_133 : decode cX8_digest 133 = .ok (.istore_n 3, 1) := by decide +kernel
theorem dX8_digest_134 : decode cX8_digest 134 = .ok (.iload_n 3, 1) := by decide +kernel
theorem dX8_digest_135 : decode cX8_digest 135 = .ok (.aload_n 0, 1) := by decide +kernel
theorem dX8_digest_136 : decode cX8_digest 136 = .ok (.getfield 114, 3) := by decide +kernel
theorem dX8_digest_139 : decode cX8_digest 139 = .ok (.if_icmp .ge 16, 3) := by decide +kernel
theorem dX8_digest_142 : decode cX8_digest 142 = .ok (.aload_n 0, 1) := by decide +kernel
theorem dX8_digest_143 : decode cX8_digest 143 = .ok (.lload_n 1, 1) := by decide +kernel
theorem dX8_digest_144 : decode cX8_digest 144 = .ok (.iload_n 3, 1) := by decide +kernel
theorem dX8_digest_145 : decode cX8_digest 145 = .ok (.invokevirtual 314, 3) := by decide +kernel
theorem dX8_digest_148 : decode cX8_digest 148 = .ok (.lstore_n 1, 1) := by decide +kernel
theorem dX8_digest_149 : decode cX8_digest 149 = .ok (.iinc 3 1, 3) := by decide +kernel
theorem dX8_digest_152 : decode cX8_digest 152 = .ok (.goto (-18), 3) := by decide +kernel
theorem dX8_digest_155 : decode cX8_digest 155 = .ok (.aload_n 0, 1) := by decide +kernel
theorem dX8_digest_156 : decode cX8_digest 156 = .ok (.invokevirtual 178, 3) := by decide +kernel
theorem dX8_digest_159 : decode cX8_digest 159 = .ok (.iconst 0, 1) := by decide +kernel
theorem dX8_digest_160 : decode cX8_digest 160 = .ok (.istore_n 3, 1) := by decide +kernel
theorem dX8_digest_161 : decode cX8_digest 161 = .ok (.iload_n 3, 1) := by decide +kernel
theorem dX8_digest_162 : decode cX8_digest 162 = .ok (.iconst 4, 1) := by decide +kernel
theorem dX8_digest_163 : decode cX8_digest 163 = .ok (.if_icmp .ge 22, 3) := by decide +kernel
theorem dX8_digest_166 : decode cX8_digest 166 = .ok (.ldc2_w 303, 3) := by decide +kernel
theorem dX8_digest_169 : decode cX8_digest 169 = .ok (.lload_n 1, 1) := by decide +kernel
theorem dX8_digest_170 : decode cX8_digest 170 = .ok (.lmul, 1) := by decide +kernel
theorem dX8_digest_171 : decode cX8_digest 171 = .ok (.aload_n 0, 1) := by decide +kernel
theorem dX8_digest_172 : decode cX8_digest 172 = .ok (.iload_n 3, 1) := by decide +kernel
theorem dX8_digest_173 : decode cX8_digest 173 = .ok (.invokevirtual 216, 3) := by decide +kernel
theorem dX8_digest_176 : decode cX8_digest 176 = .ok (.i2l, 1) := by decide +kernel
theorem dX8_digest_177 : decode cX8_digest 177 = .ok (.ladd, 1) := by decide +kernel
theorem dX8_digest_178 : decode cX8_digest 178 = .ok (.lstore_n 1, 1) := by decide +kernel
theorem dX8_digest_179 : decode cX8_digest 179 = .ok (.iinc 3 1, 3) := by decide +kernel
theorem dX8_digest_182 : decode cX8_digest 182 = .ok (.goto (-21), 3) := by decide +kernel
theorem dX8_digest_185 : decode cX8_digest 185 = .ok (.ldc2_w 303, 3) := by decide +kernel
theorem dX8_digest_188 : decode cX8_digest 188 = .ok (.lload_n 1, 1) := by decide +kernel
theorem dX8_digest_189 : decode cX8_digest 189 = .ok (.lmul, 1) := by decide +kernel
theorem dX8_digest_190 : decode cX8_digest 190 = .ok (.aload_n 0, 1) := by decide +kernel
theorem dX8_digest_191 : decode cX8_digest 191 = .ok (.invokevirtual 219, 3) := by decide +kernel
theorem dX8_digest_194 : decode cX8_digest 194 = .ok (.i2l, 1) := by decide +kernel
theorem dX8_digest_195 : decode cX8_digest 195 = .ok (.ladd, 1) := by decide +kernel
theorem dX8_digest_196 : decode cX8_digest 196 = .ok (.lstore_n 1, 1) := by decide +kernel
theorem dX8_digest_197 : decode cX8_digest 197 = .ok (.ldc2_w 303, 3) := by decide +kernel
theorem dX8_digest_200 : decode cX8_digest 200 = .ok (.lload_n 1, 1) := by decide +kernel
theorem dX8_digest_201 : decode cX8_digest 201 = .ok (.lmul, 1) := by decide +kernel
theorem dX8_digest_202 : decode cX8_digest 202 = .ok (.aload_n 0, 1) := by decide +kernel
theorem dX8_digest_203 : decode cX8_digest 203 = .ok (.invokevirtual 222, 3) := by decide +kernel
theorem dX8_digest_206 : decode cX8_digest 206 = .ok (.i2l, 1) := by decide +kernel
theorem dX8_digest_207 : decode cX8_digest 207 = .ok (.ladd, 1) := by decide +kernel
theorem dX8_digest_208 : decode cX8_digest 208 = .ok (.lstore_n 1, 1) := by decide +kernel
theorem dX8_digest_209 : decode cX8_digest 209 = .ok (.iconst 0, 1) := by decide +kernel
theorem dX8_digest_210 : decode cX8_digest 210 = .ok (.istore_n 3, 1) := by decide +kernel
theorem dX8_digest_211 : decode cX8_digest 211 = .ok (.iload_n 3, 1) := by decide +kernel
theorem dX8_digest_212 : decode cX8_digest 212 = .ok (.iconst 3, 1) := by decide +kernel
theorem dX8_digest_213 : decode cX8_digest 213 = .ok (.if_icmp .ge 22, 3) := by decide +kernel
theorem dX8_digest_216 : decode cX8_digest 216 = .ok (.ldc2_w 303, 3) := by decide +kernel
theorem dX8_digest_219 : decode cX8_digest 219 = .ok (.lload_n 1, 1) := by decide +kernel
theorem dX8_digest_220 : decode cX8_digest 220 = .ok (.lmul, 1) := by decide +kernel
theorem dX8_digest_221 : decode cX8_digest 221 = .ok (.aload_n 0, 1) := by decide +kernel
theorem dX8_digest_222 : decode cX8_digest 222 = .ok (.iload_n 3, 1) := by decide +kernel
theorem dX8_digest_223 : decode cX8_digest 223 = .ok (.invokevirtual 232, 3) := by decide +kernel
theorem dX8_digest_226 : decode cX8_digest 226 = .ok (.i2l, 1) := by decide +kernel
theorem dX8_digest_227 : decode cX8_digest 227 = .ok (.ladd, 1) := by decide +kernel
theorem dX8_digest_228 : decode cX8_digest 228 = .ok (.lstore_n 1, 1) := by decide +kernel
theorem dX8_digest_229 : decode cX8_digest 229 = .ok (.iinc 3 1, 3) := by decide +kernel
theorem dX8_digest_232 : decode cX8_digest 232 = .ok (.goto (-21), 3) := by decide +kernel
theorem dX8_digest_235 : decode cX8_digest 235 = .ok (.ldc2_w 303, 3) := by decide +kernel
theorem dX8_digest_238 : decode cX8_digest 238 = .ok (.lload_n 1, 1) := by decide +kernel
theorem dX8_digest_239 : decode cX8_digest 239 = .ok (.lmul, 1) := by decide +kernel
theorem dX8_digest_240 : decode cX8_digest 240 = .ok (.aload_n 0, 1) := by decide +kernel
theorem dX8_digest_241 : decode cX8_digest 241 = .ok (.iconst (-1), 1) := by decide +kernel
theorem dX8_digest_242 : decode cX8_digest 242 = .ok (.invokevirtual 240, 3) := by decide +kernel
theorem dX8_digest_245 : decode cX8_digest 245 = .ok (.i2l, 1) := by decide +kernel
theorem dX8_digest_246 : decode cX8_digest 246 = .ok (.ladd, 1) := by decide +kernel
theorem dX8_digest_247 : decode cX8_digest 247 = .ok (.lstore_n 1, 1) := by decide +kernel
theorem dX8_digest_248 : decode cX8_digest 248 = .ok (.ldc2_w 303, 3) := by decide +kernel
theorem dX8_digest_251 : decode cX8_digest 251 = .ok (.lload_n 1, 1) := by decide +kernel
theorem dX8_digest_252 : decode cX8_digest 252 = .ok (.lmul, 1) := by decide +kernel
theorem dX8_digest_253 : decode cX8_digest 253 = .ok (.aload_n 0, 1) := by decide +kernel
theorem dX8_digest_254 : decode cX8_digest 254 = .ok (.iconst 0, 1) := by decide +kernel
theorem dX8_digest_255 : decode cX8_digest 255 = .ok (.invokevirtual 240, 3) := by decide +kernel
theorem dX8_digest_258 : decode cX8_digest 258 = .ok (.i2l, 1) := by decide +kernel
theorem dX8_digest_259 : decode cX8_digest 259 = .ok (.ladd, 1) := by decide +kernel
theorem dX8_digest_260 : decode cX8_digest 260 = .ok (.lstore_n 1, 1) := by decide +kernel
theorem dX8_digest_261 : decode cX8_digest 261 = .ok (.ldc2_w 303, 3) := by decide +kernel
theorem dX8_digest_264 : decode cX8_digest 264 = .ok (.lload_n 1, 1) := by decide +kernel
theorem dX8_digest_265 : decode cX8_digest 265 = .ok (.lmul, 1) := by decide +kernel
theorem dX8_digest_266 : decode cX8_digest 266 = .ok (.aload_n 0, 1) := by decide +kernel
theorem dX8_digest_267 : decode cX8_digest 267 = .ok (.invokevirtual 250, 3) := by decide +kernel
theorem dX8_digest_270 : decode cX8_digest 270 = .ok (.i2l, 1) := by decide +kernel
theorem dX8_digest_271 : decode cX8_digest 271 = .ok (.ladd, 1) := by decide +kernel
theorem dX8_digest_272 : decode cX8_digest 272 = .ok (.lstore_n 1, 1) := by decide +kernel
theorem dX8_digest_273 : decode cX8_digest 273 = .ok (.ldc2_w 303, 3) := by decide +kernel
theorem dX8_digest_276 : decode cX8_digest 276 = .ok (.lload_n 1, 1) := by decide +kernel
theorem dX8_digest_277 : decode cX8_digest 277 = .ok (.lmul, 1) := by decide +kernel
theorem dX8_digest_278 : decode cX8_digest 278 = .ok (.aload_n 0, 1) := by decide +kernel
theorem dX8_digest_279 : decode cX8_digest 279 = .ok (.bipush 7, 2) := by decide +kernel
theorem dX8_digest_281 : decode cX8_digest 281 = .ok (.bipush 6, 2) := by decide +kernel
theorem dX8_digest_283 : decode cX8_digest 283 = .ok (.iconst 0, 1) := by decide +kernel
theorem dX8_digest_284 : decode cX8_digest 284 = .ok (.invokevirtual 297, 3) := by decide +kernel
theorem dX8_digest_287 : decode cX8_digest 287 = .ok (.i2l, 1) := by decide +kernel
theorem dX8_digest_288 : decode cX8_digest 288 = .ok (.ladd, 1) := by decide +kernel
theorem dX8_digest_289 : decode cX8_digest 289 = .ok (.lstore_n 1, 1) := by decide +kernel
theorem dX8_digest_290 : decode cX8_digest 290 = .ok (.ldc2_w 303, 3) := by decide +kernel
theorem dX8_digest_293 : decode cX8_digest 293 = .ok (.lload_n 1, 1) := by decide +kernel
theorem dX8_digest_294 : decode cX8_digest 294 = .ok (.lmul, 1) := by decide +kernel
theorem dX8_digest_295 : decode cX8_digest 295 = .ok (.aload_n 0, 1) := by decide +kernel
theorem dX8_digest_296 : decode cX8_digest 296 = .ok (.bipush 7, 2) := by decide +kernel
theorem dX8_digest_298 : decode cX8_digest 298 = .ok (.bipush 6, 2) := by decide +kernel
theorem dX8_digest_300 : decode cX8_digest 300 = .ok (.iconst 1, 1) := by decide +kernel
theorem dX8_digest_301 : decode cX8_digest 301 = .ok (.invokevirtual 297, 3) := by decide +kernel
theorem dX8_digest_304 : decode cX8_digest 304 = .ok (.i2l, 1) := by decide +kernel
theorem dX8_digest_305 : decode cX8_digest 305 = .ok (.ladd, 1) := by decide +kernel
theorem dX8_digest_306 : decode cX8_digest 306 = .ok (.lreturn, 1) := by decide +kernel
theorem dJ6_bitCount_0f7a4_0 : decode cJ6_bitCount_0f7a4 0 = .ok (.iload_n 0, 1) := by decide +kernel
theorem dJ6_bitCount_0f7a4_1 : decode cJ6_bitCount_0f7a4 1 = .ok (.iload_n 0, 1) := by decide +kernel
theorem dJ6_bitCount_0f7a4_2 : decode cJ6_bitCount_0f7a4 2 = .ok (.iconst 1, 1) := by decide +kernel
theorem dJ6_bitCount_0f7a4_3 : decode cJ6_bitCount_0f7a4 3 = .ok (.iushr, 1) := by decide +kernel
theorem dJ6_bitCount_0f7a4_4 : decode cJ6_bitCount_0f7a4 4 = .ok (.ldc_w 265, 3) := by decide +kernel
theorem dJ6_bitCount_0f7a4_7 : decode cJ6_bitCount_0f7a4 7 = .ok (.iand, 1) := by decide +kernel
theorem dJ6_bitCount_0f7a4_8 : decode cJ6_bitCount_0f7a4 8 = .ok (.isub, 1) := by decide +kernel
theorem dJ6_bitCount_0f7a4_9 : decode cJ6_bitCount_0f7a4 9 = .ok (.istore_n 0, 1) := by decide +kernel
theorem dJ6_bitCount_0f7a4_10 : decode cJ6_bitCount_0f7a4 10 = .ok (.iload_n 0, 1) := by decide +kernel
theorem dJ6_bitCount_0f7a4_11 : decode cJ6_bitCount_0f7a4 11 = .ok (.ldc_w 266, 3) := by decide +kernel
theorem dJ6_bitCount_0f7a4_14 : decode cJ6_bitCount_0f7a4 14 = .ok (.iand, 1) := by decide +kernel
theorem dJ6_bitCount_0f7a4_15 : decode cJ6_bitCount_0f7a4 15 = .ok (.iload_n 0, 1) := by decide +kernel
theorem dJ6_bitCount_0f7a4_16 : decode cJ6_bitCount_0f7a4 16 = .ok (.iconst 2, 1) := by decide +kernel
theorem dJ6_bitCount_0f7a4_17 : decode cJ6_bitCount_0f7a4 17 = .ok (.iushr, 1) := by decide +kernel
theorem dJ6_bitCount_0f7a4_18 : decode cJ6_bitCount_0f7a4 18 = .ok (.ldc_w 266, 3) := by decide +kernel
theorem dJ6_bitCount_0f7a4_21 : decode cJ6_bitCount_0f7a4 21 = .ok (.iand, 1) := by decide +kernel
theorem dJ6_bitCount_0f7a4_22 : decode cJ6_bitCount_0f7a4 22 = .ok (.iadd, 1) := by decide +kernel
theorem dJ6_bitCount_0f7a4_23 : decode cJ6_bitCount_0f7a4 23 = .ok (.istore_n 0, 1) := by decide +kernel
theorem dJ6_bitCount_0f7a4_24 : decode cJ6_bitCount_0f7a4 24 = .ok (.iload_n 0, 1) := by decide +kernel
theorem dJ6_bitCount_0f7a4_25 : decode cJ6_bitCount_0f7a4 25 = .ok (.iload_n 0, 1) := by decide +kernel
theorem dJ6_bitCount_0f7a4_26 : decode cJ6_bitCount_0f7a4 26 = .ok (.iconst 4, 1) := by decide +kernel
theorem dJ6_bitCount_0f7a4_27 : decode cJ6_bitCount_0f7a4 27 = .ok (.iushr, 1) := by decide +kernel
theorem dJ6_bitCount_0f7a4_28 : decode cJ6_bitCount_0f7a4 28 = .ok (.iadd, 1) := by decide +kernel
theorem dJ6_bitCount_0f7a4_29 : decode cJ6_bitCount_0f7a4 29 = .ok (.ldc_w 267, 3) := by decide +kernel
theorem dJ6_bitCount_0f7a4_32 : decode cJ6_bitCount_0f7a4 32 = .ok (.iand, 1) := by decide +kernel
theorem dJ6_bitCount_0f7a4_33 : decode cJ6_bitCount_0f7a4 33 = .ok (.istore_n 0, 1) := by decide +kernel
theorem dJ6_bitCount_0f7a4_34 : decode cJ6_bitCount_0f7a4 34 = .ok (.iload_n 0, 1) := by decide +kernel
theorem dJ6_bitCount_0f7a4_35 : decode cJ6_bitCount_0f7a4 35 = .ok (.iload_n 0, 1) := by decide +kernel
theorem dJ6_bitCount_0f7a4_36 : decode cJ6_bitCount_0f7a4 36 = .ok (.bipush 8, 2) := by decide +kernel
theorem dJ6_bitCount_0f7a4_38 : decode cJ6_bitCount_0f7a4 38 = .ok (.iushr, 1) := by decide +kernel
theorem dJ6_bitCount_0f7a4_39 : decode cJ6_bitCount_0f7a4 39 = .ok (.iadd, 1) := by decide +kernel
theorem dJ6_bitCount_0f7a4_40 : decode cJ6_bitCount_0f7a4 40 = .ok (.istore_n 0, 1) := by decide +kernel
theorem dJ6_bitCount_0f7a4_41 : decode cJ6_bitCount_0f7a4 41 = .ok (.iload_n 0, 1) := by decide +kernel
theorem dJ6_bitCount_0f7a4_42 : decode cJ6_bitCount_0f7a4 42 = .ok (.iload_n 0, 1) := by decide +kernel
theorem dJ6_bitCount_0f7a4_43 : decode cJ6_bitCount_0f7a4 43 = .ok (.bipush 16, 2) := by decide +kernel
theorem dJ6_bitCount_0f7a4_45 : decode cJ6_bitCount_0f7a4 45 = .ok (.iushr, 1) := by decide +kernel
theorem dJ6_bitCount_0f7a4_46 : decode cJ6_bitCount_0f7a4 46 = .ok (.iadd, 1) := by decide +kernel
theorem dJ6_bitCount_0f7a4_47 : decode cJ6_bitCount_0f7a4 47 = .ok (.istore_n 0, 1) := by decide +kernel
theorem dJ6_bitCount_0f7a4_48 : decode cJ6_bitCount_0f7a4 48 = .ok (.iload_n 0, 1) := by decide +kernel
theorem dJ6_bitCount_0f7a4_49 : decode cJ6_bitCount_0f7a4 49 = .ok (.bipush 63, 2) := by decide +kernel
theorem dJ6_bitCount_0f7a4_51 : decode cJ6_bitCount_0f7a4 51 = .ok (.iand, 1) := by decide +kernel
theorem dJ6_bitCount_0f7a4_52 : decode cJ6_bitCount_0f7a4 52 = .ok (.ireturn, 1) := by decide +kernel
theorem dJ9_max_7cf53_0 : decode cJ9_max_7cf53 0 = .ok (.iload_n 0, 1) := by decide +kernel
theorem dJ9_max_7cf53_1 : decode cJ9_max_7cf53 1 = .ok (.iload_n 1, 1) := by decide +kernel
theorem dJ9_max_7cf53_2 : decode cJ9_max_7cf53 2 = .ok (.if_icmp .lt 7, 3) := by decide +kernel
theorem dJ9_max_7cf53_5 : decode cJ9_max_7cf53 5 = .ok (.iload_n 0, 1) := by decide +kernel
theorem dJ9_max_7cf53_6 : decode cJ9_max_7cf53 6 = .ok (.goto 4, 3) := by decide +kernel
theorem dJ9_max_7cf53_9 : decode cJ9_max_7cf53 9 = .ok (.iload_n 1, 1) := by decide +kernel
theorem dJ9_max_7cf53_10 : decode cJ9_max_7cf53 10 = .ok (.ireturn, 1) := by decide +kernel
theorem dJ9_max_f86c9_0 : decode cJ9_max_f86c9 0 = .ok (.lload_n 0, 1) := by decide +kernel
theorem dJ9_max_f86c9_1 : decode cJ9_max_f86c9 1 = .ok (.lload_n 2, 1) := by decide +kernel
theorem dJ9_max_f86c9_2 : decode cJ9_max_f86c9 2 = .ok (.lcmp, 1) := by decide +kernel
theorem dJ9_max_f86c9_3 : decode cJ9_max_f86c9 3 = .ok (.ifCond .lt 7, 3) := by decide +kernel
theorem dJ9_max_f86c9_6 : decode cJ9_max_f86c9 6 = .ok (.lload_n 0, 1) := by decide +kernel
theorem dJ9_max_f86c9_7 : decode cJ9_max_f86c9 7 = .ok (.goto 4, 3) := by decide +kernel
theorem dJ9_max_f86c9_10 : decode cJ9_max_f86c9 10 = .ok (.lload_n 2, 1) := by decide +kernel
theorem dJ9_max_f86c9_11 : decode cJ9_max_f86c9 11 = .ok (.lreturn, 1) := by decide +kernel
theorem dJ9_min_7cf53_0 : decode cJ9_min_7cf53 0 = .ok (.iload_n 0, 1) := by decide +kernel
theorem dJ9_min_7cf53_1 : decode cJ9_min_7cf53 1 = .ok (.iload_n 1, 1) := by decide +kernel
theorem dJ9_min_7cf53_2 : decode cJ9_min_7cf53 2 = .ok (.if_icmp .gt 7, 3) := by decide +kernel
theorem dJ9_min_7cf53_5 : decode cJ9_min_7cf53 5 = .ok (.iload_n 0, 1) := by decide +kernel
theorem dJ9_min_7cf53_6 : decode cJ9_min_7cf53 6 = .ok (.goto 4, 3) := by decide +kernel
theorem dJ9_min_7cf53_9 : decode cJ9_min_7cf53 9 = .ok (.iload_n 1, 1) := by decide +kernel
theorem dJ9_min_7cf53_10 : decode cJ9_min_7cf53 10 = .ok (.ireturn, 1) := by decide +kernel
theorem dJ7_fill_53178_0 : decode cJ7_fill_53178 0 = .ok (.iconst 0, 1) := by decide +kernel
theorem dJ7_fill_53178_1 : decode cJ7_fill_53178 1 = .ok (.istore_n 2, 1) := by decide +kernel
theorem dJ7_fill_53178_2 : decode cJ7_fill_53178 2 = .ok (.aload_n 0, 1) := by decide +kernel
theorem dJ7_fill_53178_3 : decode cJ7_fill_53178 3 = .ok (.arraylength, 1) := by decide +kernel
theorem dJ7_fill_53178_4 : decode cJ7_fill_53178 4 = .ok (.istore_n 3, 1) := by decide +kernel
theorem dJ7_fill_53178_5 : decode cJ7_fill_53178 5 = .ok (.iload_n 2, 1) := by decide +kernel
theorem dJ7_fill_53178_6 : decode cJ7_fill_53178 6 = .ok (.iload_n 3, 1) := by decide +kernel
theorem dJ7_fill_53178_7 : decode cJ7_fill_53178 7 = .ok (.if_icmp .ge 13, 3) := by decide +kernel
theorem dJ7_fill_53178_10 : decode cJ7_fill_53178 10 = .ok (.aload_n 0, 1) := by decide +kernel
theorem dJ7_fill_53178_11 : decode cJ7_fill_53178 11 = .ok (.iload_n 2, 1) := by decide +kernel
theorem dJ7_fill_53178_12 : decode cJ7_fill_53178 12 = .ok (.iload_n 1, 1) := by decide +kernel
theorem dJ7_fill_53178_13 : decode cJ7_fill_53178 13 = .ok (.iastore, 1) := by decide +kernel
theorem dJ7_fill_53178_14 : decode cJ7_fill_53178 14 = .ok (.iinc 2 1, 3) := by decide +kernel
theorem dJ7_fill_53178_17 : decode cJ7_fill_53178 17 = .ok (.goto (-12), 3) := by decide +kernel
theorem dJ7_fill_53178_20 : decode cJ7_fill_53178 20 = .ok (.return_, 1) := by decide +kernel
set_option maxRecDepth 20000 in
theorem ggL_law_X7_init : GoodIn wsL_law wsX7_init := goodIn_r _ [8, 9, 10, 11, 12, 13, 14, 15, 16, 17, 18, 19, 20, 21, 22, 23, 24, 25, 26, 27, 28, 29, 30, 31, 32, 33, 34, 35, 36, 37, 38, 39, 40, 41, 42, 43, 44, 45, 46, 47, 48, 49, 50, 51, 52, 53, 54, 55, 56, 57, 58, 59, 60, 61, 62, 63, 64, 65, 66, 67, 68, 69, 70, 71, 72, 73, 74, 75, 76, 77, 78, 79, 80, 81, 82, 83, 84, 85, 86, 87, 88, 89, 90, 91, 92, 93, 94, 95, 96, 97, 98, 99, 1045, 1046, 1001, 1002, 1003, 1004, 1005, 1006, 1007, 1008, 1009, 1010, 1011, 1012, 1013, 1014, 1015, 1047, 1048, 1049, 1050, 1051, 1052, 1053, 1054, 1055, 1056, 1057, 1058, 1059, 1060, 1061, 1062, 1063, 1064, 1065, 1066, 1067, 1068, 1069, 1070, 1071, 1072, 1073, 1074, 1075, 1076, 1077] (by decide +kernel) (by decide +kernel)
set_option maxRecDepth 20000 in
theorem gL_law_X7_init : GoodIn wsL_law (wsX7_init) := ggL_law_X7_init
set_option maxRecDepth 20000 in
theorem ggL_law_X8_init : GoodIn wsL_law wsX8_init := goodIn_r _ [102, 103, 10, 11, 40, 104, 105, 106, 107, 108, 109, 110, 111, 112, 113, 114, 115, 116, 117, 118, 119, 120, 121, 122, 123, 124, 125, 1016, 1017, 1018, 1019, 1020, 1021, 1022, 1023, 1024, 1025, 1026, 1027, 1028, 1029, 1030, 1031, 1032, 1033, 1034, 1035, 1036, 1037, 1038, 1039, 1040, 1041, 1042, 1043, 1044] (by decide +kernel) (by decide +kernel)
set_option maxRecDepth 20000 in
theorem gL_law_X8_init : GoodIn wsL_law (wsX8_init) := ggL_law_X8_init
set_option maxRecDepth 20000 in
theorem ggL_law_X7_type : GoodIn wsL_law wsX7_type := goodIn_r _ [129, 15, 130, 131, 132, 133, 2, 134, 135, 136, 137, 138, 19, 139, 140, 141, 18, 142, 60, 143, 57, 144, 58, 59, 145, 146, 147, 14, 148, 53, 52, 149, 150, 151, 152, 153, 154, 155, 156, 157, 158, 159, 45, 46, 1001, 1002, 1003, 1004, 1005, 1006, 1007, 1008, 1009, 1010, 1011, 1012, 1013, 1014, 1015, 1045, 1046, 1047, 1048, 1049, 1050] (by decide +kernel) (by decide +kernel)
set_option maxRecDepth 20000 in
theorem gL_law_X7_type : GoodIn wsL_law (wsV RL 13 RX7 yX7_type wsX7_type) := goodIn_app (goodIn_of _ (by decide +kernel)) ggL_law_X7_type
set_option maxRecDepth 20000 in
theorem ggL_law_X8_type : GoodIn wsL_law wsX8_type := goodIn_r _ [163, 164, 165, 108, 166, 167, 5, 168, 1016, 1017, 1018, 1019, 1020, 1021, 1022, 1023, 1024, 1025, 1026, 1027, 1028, 1029, 1030, 1031, 1032, 1033, 1034, 1035, 1036, 1037, 1038, 1039, 1040, 1041, 1042, 1043, 1044] (by decide +kernel) (by decide +kernel)
set_option maxRecDepth 20000 in
theorem gL_law_X8_type : GoodIn wsL_law (wsV RL 17 RX8 yX8_type wsX8_type) := goodIn_app (goodIn_of _ (by decide +kernel)) ggL_law_X8_type
set_option maxRecDepth 20000 in
theorem ggL_law_X7_wipe : GoodIn wsL_law wsX7_wipe := goodIn_r _ [172, 15, 130, 135, 136, 137, 2, 138, 19, 139, 140, 141, 18, 142, 60, 143, 57, 144, 58, 59, 145, 146, 147, 14, 148, 53, 52, 149, 150, 151, 152, 153, 154, 155, 156, 157, 158, 159, 45, 46, 1001, 1002, 1003, 1004, 1005, 1006, 1007, 1008, 1009, 1010, 1011, 1012, 1013, 1014, 1015, 1045, 1046, 1047, 1048, 1049, 1050] (by decide +kernel) (by decide +kernel)
set_option maxRecDepth 20000 in
theorem gL_law_X7_wipe : GoodIn wsL_law (wsV RL 18 RX7 yX7_wipe wsX7_wipe) := goodIn_app (goodIn_of _ (by decide +kernel)) ggL_law_X7_wipe
set_option maxRecDepth 20000 in
theorem ggL_law_X8_wipe : GoodIn wsL_law wsX8_wipe := goodIn_r _ [176, 165, 1016, 1017, 1018, 1019, 1020, 1021, 1022, 1023, 1024, 1025, 1026, 1027, 1028, 1029, 1030, 1031, 1032, 1033, 1034, 1035, 1036, 1037, 1038, 1039, 1040, 1041, 1042, 1043, 1044] (by decide +kernel) (by decide +kernel)
set_option maxRecDepth 20000 in
theorem gL_law_X8_wipe : GoodIn wsL_law (wsV RL 22 RX8 yX8_wipe wsX8_wipe) := goodIn_app (goodIn_of _ (by decide +kernel)) ggL_law_X8_wipe
set_option maxRecDepth 20000 in
theorem ggL_law_X7_undo : GoodIn wsL_law wsX7_undo := goodIn_r _ [180, 15, 130, 135, 136, 137, 2, 138, 19, 139, 140, 141, 18, 142, 60, 143, 57, 144, 58, 59, 145, 146, 147, 14, 148, 53, 52, 149, 150, 151, 152, 153, 154, 155, 156, 157, 158, 159, 45, 46, 1001, 1002, 1003, 1004, 1005, 1006, 1007, 1008, 1009, 1010, 1011, 1012, 1013, 1014, 1015, 1045, 1046, 1047, 1048, 1049, 1050] (by decide +kernel) (by decide +kernel)
set_option maxRecDepth 20000 in
theorem gL_law_X7_undo : GoodIn wsL_law (wsV RL 23 RX7 yX7_undo wsX7_undo) := goodIn_app (goodIn_of _ (by decide +kernel)) ggL_law_X7_undo
set_option maxRecDepth 20000 in
theorem ggL_law_X8_undo : GoodIn wsL_law wsX8_undo := goodIn_r _ [184, 165, 1016, 1017, 1018, 1019, 1020, 1021, 1022, 1023, 1024, 1025, 1026, 1027, 1028, 1029, 1030, 1031, 1032, 1033, 1034, 1035, 1036, 1037, 1038, 1039, 1040, 1041, 1042, 1043, 1044] (by decide +kernel) (by decide +kernel)
set_option maxRecDepth 20000 in
theorem gL_law_X8_undo : GoodIn wsL_law (wsV RL 26 RX8 yX8_undo wsX8_undo) := goodIn_app (goodIn_of _ (by decide +kernel)) ggL_law_X8_undo
set_option maxRecDepth 20000 in
theorem ggL_law_X7_fault : GoodIn wsL_law wsX7_fault := goodIn_r _ [188, 15, 189, 146, 147, 14, 148, 53, 52, 149, 150, 151, 152, 153, 154, 1001, 1002, 1003, 1004, 1005, 1006, 1007, 1008, 1009, 1010, 1011, 1012, 1013, 1014, 1015, 1045, 1046] (by decide +kernel) (by decide +kernel)
set_option maxRecDepth 20000 in
theorem gL_law_X7_fault : GoodIn wsL_law (wsV RL 27 RX7 yX7_fault wsX7_fault) := goodIn_app (goodIn_of _ (by decide +kernel)) ggL_law_X7_fault
set_option maxRecDepth 20000 in
theorem ggL_law_X8_fault : GoodIn wsL_law wsX8_fault := goodIn_r _ [193, 194, 195, 196, 5, 197, 198, 165, 108, 109, 199, 200, 201, 202, 203, 166, 167, 168, 1016, 1017, 1018, 1019, 1020, 1021, 1022, 1023, 1024, 1025, 1026, 1027, 1028, 1029, 1030, 1031, 1032, 1033, 1034, 1035, 1036, 1037, 1038, 1039, 1040, 1041, 1042, 1043, 1044] (by decide +kernel) (by decide +kernel)
set_option maxRecDepth 20000 in
theorem gL_law_X8_fault : GoodIn wsL_law (wsV RL 30 RX8 yX8_fault wsX8_fault) := goodIn_app (goodIn_of _ (by decide +kernel)) ggL_law_X8_fault
set_option maxRecDepth 20000 in
theorem ggL_law_X7_tenant : GoodIn wsL_law wsX7_tenant := goodIn_r _ [207, 19, 208, 209, 210, 211, 212, 213, 2, 214, 215, 132, 133, 134, 1001, 1002, 1003, 1004, 1005, 1006, 1007, 1008, 1009, 1010, 1011, 1012, 1013, 1014, 1015, 1047, 1048, 1049, 1050] (by decide +kernel) (by decide +kernel)
set_option maxRecDepth 20000 in
theorem gL_law_X7_tenant : GoodIn wsL_law (wsV RL 31 RX7 yX7_tenant wsX7_tenant) := goodIn_app (goodIn_of _ (by decide +kernel)) ggL_law_X7_tenant
set_option maxRecDepth 20000 in
theorem ggL_law_X8_tenant : GoodIn wsL_law wsX8_tenant := goodIn_r _ [219, 220, 109, 194, 195, 196, 5, 197, 198, 165, 108, 199, 200, 201, 202, 203, 166, 167, 168, 221, 222, 223, 224, 1016, 1017, 1018, 1019, 1020, 1021, 1022, 1023, 1024, 1025, 1026, 1027, 1028, 1029, 1030, 1031, 1032, 1033, 1034, 1035, 1036, 1037, 1038, 1039, 1040, 1041, 1042, 1043, 1044] (by decide +kernel) (by decide +kernel)
set_option maxRecDepth 20000 in
theorem gL_law_X8_tenant : GoodIn wsL_law (wsV RL 35 RX8 yX8_tenant wsX8_tenant) := goodIn_app (goodIn_of _ (by decide +kernel)) ggL_law_X8_tenant
set_option maxRecDepth 20000 in
theorem ggL_law_X7_room : GoodIn wsL_law wsX7_room := goodIn_r _ [228, 43, 132, 133, 2, 134, 156, 157, 158, 159, 45, 46, 1001, 1002, 1003, 1004, 1005, 1006, 1007, 1008, 1009, 1010, 1011, 1012, 1013, 1014, 1015] (by decide +kernel) (by decide +kernel)
set_option maxRecDepth 20000 in
theorem gL_law_X7_room : GoodIn wsL_law (wsV RL 36 RX7 yX7_room wsX7_room) := goodIn_app (goodIn_of _ (by decide +kernel)) ggL_law_X7_room
set_option maxRecDepth 20000 in
theorem ggL_law_X8_room : GoodIn wsL_law wsX8_room := goodIn_r _ [232, 233, 125, 166, 167, 5, 168, 1016, 1017, 1018, 1019, 1020, 1021, 1022, 1023, 1024, 1025, 1026, 1027, 1028, 1029, 1030, 1031, 1032, 1033, 1034, 1035, 1036, 1037, 1038, 1039, 1040, 1041, 1042, 1043, 1044] (by decide +kernel) (by decide +kernel)
set_option maxRecDepth 20000 in
theorem gL_law_X8_room : GoodIn wsL_law (wsV RL 39 RX8 yX8_room wsX8_room) := goodIn_app (goodIn_of _ (by decide +kernel)) ggL_law_X8_room
set_option maxRecDepth 20000 in
theorem ggL_law_X7_event : GoodIn wsL_law wsX7_event := goodIn_r _ [237, 24, 238, 239, 240, 23, 241, 133, 2, 134, 242, 243, 132, 244, 245, 246, 247, 64, 67, 65, 66, 156, 157, 158, 159, 45, 46, 1001, 1002, 1003, 1004, 1005, 1006, 1007, 1008, 1009, 1010, 1011, 1012, 1013, 1014, 1015, 1051, 1052, 1053, 1054] (by decide +kernel) (by decide +kernel)
set_option maxRecDepth 20000 in
theorem gL_law_X7_event : GoodIn wsL_law (wsV RL 40 RX7 yX7_event wsX7_event) := goodIn_app (goodIn_of _ (by decide +kernel)) ggL_law_X7_event
set_option maxRecDepth 20000 in
theorem ggL_law_X8_event : GoodIn wsL_law wsX8_event := goodIn_r _ [251, 220, 252, 253, 110, 166, 167, 5, 168, 254, 255, 256, 257, 1016, 1017, 1018, 1019, 1020, 1021, 1022, 1023, 1024, 1025, 1026, 1027, 1028, 1029, 1030, 1031, 1032, 1033, 1034, 1035, 1036, 1037, 1038, 1039, 1040, 1041, 1042, 1043, 1044] (by decide +kernel) (by decide +kernel)
set_option maxRecDepth 20000 in
theorem gL_law_X8_event : GoodIn wsL_law (wsV RL 44 RX8 yX8_event wsX8_event) := goodIn_app (goodIn_of _ (by decide +kernel)) ggL_law_X8_event
set_option maxRecDepth 20000 in
theorem ggL_law_X7_back : GoodIn wsL_law wsX7_back := goodIn_r _ [261, 24, 238, 156, 157, 158, 2, 159, 45, 46, 1001, 1002, 1003, 1004, 1005, 1006, 1007, 1008, 1009, 1010, 1011, 1012, 1013, 1014, 1015, 1051, 1052, 1053, 1054] (by decide +kernel) (by decide +kernel)
set_option maxRecDepth 20000 in
theorem gL_law_X7_back : GoodIn wsL_law (wsV RL 45 RX7 yX7_back wsX7_back) := goodIn_app (goodIn_of _ (by decide +kernel)) ggL_law_X7_back
set_option maxRecDepth 20000 in
theorem ggL_law_X8_back : GoodIn wsL_law wsX8_back := goodIn_r _ [265, 253, 1016, 1017, 1018, 1019, 1020, 1021, 1022, 1023, 1024, 1025, 1026, 1027, 1028, 1029, 1030, 1031, 1032, 1033, 1034, 1035, 1036, 1037, 1038, 1039, 1040, 1041, 1042, 1043, 1044] (by decide +kernel) (by decide +kernel)
set_option maxRecDepth 20000 in
theorem gL_law_X8_back : GoodIn wsL_law (wsV RL 48 RX8 yX8_back wsX8_back) := goodIn_app (goodIn_of _ (by decide +kernel)) ggL_law_X8_back
set_option maxRecDepth 20000 in
theorem ggL_law_X7_read : GoodIn wsL_law wsX7_read := goodIn_r _ [269, 39, 270, 271, 272, 132, 133, 2, 134, 273, 274, 275, 276, 44, 277, 235, 236, 237, 24, 238, 239, 240, 23, 241, 242, 243, 244, 245, 246, 247, 64, 67, 65, 66, 156, 157, 158, 159, 45, 46, 1001, 1002, 1003, 1004, 1005, 1006, 1007, 1008, 1009, 1010, 1011, 1012, 1013, 1014, 1015, 1074, 1075, 1076, 1077, 1051, 1052, 1053, 1054] (by decide +kernel) (by decide +kernel)
set_option maxRecDepth 20000 in
theorem gL_law_X7_read : GoodIn wsL_law (wsV RL 49 RX7 yX7_read wsX7_read) := goodIn_app (goodIn_of _ (by decide +kernel)) ggL_law_X7_read
set_option maxRecDepth 20000 in
theorem ggL_law_X8_read : GoodIn wsL_law wsX8_read := goodIn_r _ [281, 104, 105, 106, 282, 283, 5, 284, 285, 166, 167, 168, 286, 287, 288, 289, 290, 291, 249, 250, 251, 220, 252, 253, 110, 254, 255, 256, 257, 1016, 1017, 1018, 1019, 1020, 1021, 1022, 1023, 1024, 1025, 1026, 1027, 1028, 1029, 1030, 1031, 1032, 1033, 1034, 1035, 1036, 1037, 1038, 1039, 1040, 1041, 1042, 1043, 1044] (by decide +kernel) (by decide +kernel)
set_option maxRecDepth 20000 in
theorem gL_law_X8_read : GoodIn wsL_law (wsV RL 52 RX8 yX8_read wsX8_read) := goodIn_app (goodIn_of _ (by decide +kernel)) ggL_law_X8_read
set_option maxRecDepth 20000 in
theorem ggL_law_X7_at : GoodIn wsL_law wsX7_at := goodIn_r _ [295, 296, 297, 242, 2, 243, 132, 133, 134, 211, 212, 213, 214, 19, 215, 298, 299, 300, 301, 45, 32, 24, 43, 302, 303, 304, 31, 305, 78, 86, 85, 306, 307, 308, 309, 310, 311, 312, 79, 80, 81, 87, 313, 88, 314, 315, 316, 317, 318, 319, 320, 321, 322, 323, 324, 325, 326, 327, 328, 329, 330, 331, 332, 333, 334, 335, 336, 337, 338, 339, 340, 341, 342, 343, 344, 345, 89, 346, 347, 348, 349, 350, 351, 352, 353, 354, 355, 356, 357, 358, 359, 360, 361, 84, 362, 363, 364, 365, 366, 367, 368, 369, 82, 83, 370, 371, 372, 373, 374, 375, 376, 377, 378, 379, 380, 381, 382, 383, 384, 385, 386, 387, 388, 389, 390, 1001, 1002, 1003, 1004, 1005, 1006, 1007, 1008, 1009, 1010, 1011, 1012, 1013, 1014, 1015, 1047, 1048, 1049, 1050, 1059, 1060, 1061, 1062, 1063, 1064, 1065, 1066, 1067, 1068, 1069, 1070, 1051, 1052, 1053, 1054] (by decide +kernel) (by decide +kernel)
set_option maxRecDepth 20000 in
theorem gL_law_X7_at : GoodIn wsL_law (wsV RL 53 RX7 yX7_at wsX7_at) := goodIn_app (goodIn_of _ (by decide +kernel)) ggL_law_X7_at
set_option maxRecDepth 20000 in
theorem ggL_law_X8_at : GoodIn wsL_law wsX8_at := goodIn_r _ [394, 285, 395, 396, 397, 398, 5, 399, 194, 195, 196, 197, 198, 165, 108, 109, 199, 200, 201, 202, 203, 166, 167, 168, 400, 401, 402, 403, 111, 113, 114, 115, 116, 117, 404, 405, 406, 407, 112, 119, 120, 121, 408, 409, 410, 411, 412, 253, 110, 413, 414, 415, 416, 221, 222, 223, 224, 417, 418, 419, 420, 421, 422, 423, 424, 425, 426, 427, 118, 125, 428, 429, 430, 431, 432, 433, 434, 435, 436, 437, 438, 254, 255, 256, 257, 439, 440, 441, 442, 443, 444, 445, 446, 447, 448, 449, 1016, 1017, 1018, 1019, 1020, 1021, 1022, 1023, 1024, 1025, 1026, 1027, 1028, 1029, 1030, 1031, 1032, 1033, 1034, 1035, 1036, 1037, 1038, 1039, 1040, 1041, 1042, 1043, 1044] (by decide +kernel) (by decide +kernel)
set_option maxRecDepth 20000 in
theorem gL_law_X8_at : GoodIn wsL_law (wsV RL 56 RX8 yX8_at wsX8_at) := goodIn_app (goodIn_of _ (by decide +kernel)) ggL_law_X8_at
set_option maxRecDepth 20000 in
theorem ggL_law_X7_live : GoodIn wsL_law wsX7_live := goodIn_r _ [453, 297, 242, 2, 243, 132, 133, 134, 298, 299, 300, 301, 45, 32, 19, 24, 43, 302, 303, 304, 31, 305, 78, 86, 85, 306, 307, 308, 309, 310, 311, 312, 79, 80, 81, 87, 313, 88, 314, 315, 316, 317, 318, 319, 320, 321, 322, 323, 324, 325, 326, 327, 328, 329, 330, 331, 332, 333, 334, 335, 336, 337, 338, 339, 340, 341, 342, 343, 344, 345, 89, 346, 347, 348, 349, 350, 351, 352, 353, 354, 355, 356, 357, 358, 359, 360, 361, 84, 362, 363, 364, 365, 366, 367, 368, 369, 82, 83, 454, 455, 456, 457, 385, 371, 372, 373, 1001, 1002, 1003, 1004, 1005, 1006, 1007, 1008, 1009, 1010, 1011, 1012, 1013, 1014, 1015, 1059, 1060, 1061, 1062, 1063, 1064, 1065, 1066, 1067, 1068, 1069, 1070, 1047, 1048, 1049, 1050, 1051, 1052, 1053, 1054] (by decide +kernel) (by decide +kernel)
set_option maxRecDepth 20000 in
theorem gL_law_X7_live : GoodIn wsL_law (wsV RL 57 RX7 yX7_live wsX7_live) := goodIn_app (goodIn_of _ (by decide +kernel)) ggL_law_X7_live
set_option maxRecDepth 20000 in
theorem ggL_law_X8_live : GoodIn wsL_law wsX8_live := goodIn_r _ [461, 462, 396, 397, 398, 5, 399, 194, 195, 196, 197, 198, 165, 108, 109, 199, 200, 201, 202, 203, 166, 167, 168, 400, 401, 402, 403, 111, 113, 114, 115, 116, 117, 404, 405, 406, 407, 112, 119, 120, 121, 408, 409, 410, 411, 412, 253, 110, 413, 414, 415, 416, 221, 222, 223, 224, 417, 418, 419, 420, 421, 422, 423, 424, 425, 426, 427, 118, 125, 428, 429, 430, 431, 432, 433, 434, 435, 436, 437, 438, 254, 255, 256, 257, 463, 464, 465, 466, 1016, 1017, 1018, 1019, 1020, 1021, 1022, 1023, 1024, 1025, 1026, 1027, 1028, 1029, 1030, 1031, 1032, 1033, 1034, 1035, 1036, 1037, 1038, 1039, 1040, 1041, 1042, 1043, 1044] (by decide +kernel) (by decide +kernel)
set_option maxRecDepth 20000 in
theorem gL_law_X8_live : GoodIn wsL_law (wsV RL 60 RX8 yX8_live wsX8_live) := goodIn_app (goodIn_of _ (by decide +kernel)) ggL_law_X8_live
set_option maxRecDepth 20000 in
theorem ggL_law_X7_lift : GoodIn wsL_law wsX7_lift := goodIn_r _ [470, 297, 242, 2, 243, 132, 133, 134, 298, 299, 300, 301, 45, 32, 19, 24, 43, 302, 303, 304, 31, 305, 78, 86, 85, 306, 307, 308, 309, 310, 311, 312, 79, 80, 81, 87, 313, 88, 314, 315, 316, 317, 318, 319, 320, 321, 322, 323, 324, 325, 326, 327, 328, 329, 330, 331, 332, 333, 334, 335, 336, 337, 338, 339, 340, 341, 342, 343, 344, 345, 89, 346, 347, 348, 349, 350, 351, 352, 353, 354, 355, 356, 357, 358, 359, 360, 361, 84, 362, 363, 364, 365, 366, 367, 368, 369, 82, 83, 471, 472, 473, 474, 385, 371, 372, 373, 475, 379, 380, 381, 382, 383, 384, 386, 375, 376, 377, 1001, 1002, 1003, 1004, 1005, 1006, 1007, 1008, 1009, 1010, 1011, 1012, 1013, 1014, 1015, 1059, 1060, 1061, 1062, 1063, 1064, 1065, 1066, 1067, 1068, 1069, 1070, 1047, 1048, 1049, 1050, 1051, 1052, 1053, 1054] (by decide +kernel) (by decide +kernel)
set_option maxRecDepth 20000 in
theorem gL_law_X7_lift : GoodIn wsL_law (wsV RL 61 RX7 yX7_lift wsX7_lift) := goodIn_app (goodIn_of _ (by decide +kernel)) ggL_law_X7_lift
set_option maxRecDepth 20000 in
theorem ggL_law_X8_lift : GoodIn wsL_law wsX8_lift := goodIn_r _ [479, 396, 397, 398, 5, 399, 194, 195, 196, 197, 198, 165, 108, 109, 199, 200, 201, 202, 203, 166, 167, 168, 400, 401, 402, 403, 111, 113, 114, 115, 116, 117, 404, 405, 406, 407, 112, 119, 120, 121, 408, 409, 410, 411, 412, 253, 110, 413, 414, 415, 416, 221, 222, 223, 224, 417, 418, 419, 420, 421, 422, 423, 424, 425, 426, 427, 118, 125, 428, 429, 430, 431, 432, 433, 434, 435, 436, 437, 438, 254, 255, 256, 257, 480, 481, 482, 483, 443, 444, 445, 446, 447, 448, 449, 1016, 1017, 1018, 1019, 1020, 1021, 1022, 1023, 1024, 1025, 1026, 1027, 1028, 1029, 1030, 1031, 1032, 1033, 1034, 1035, 1036, 1037, 1038, 1039, 1040, 1041, 1042, 1043, 1044] (by decide +kernel) (by decide +kernel)
set_option maxRecDepth 20000 in
theorem gL_law_X8_lift : GoodIn wsL_law (wsV RL 64 RX8 yX8_lift wsX8_lift) := goodIn_app (goodIn_of _ (by decide +kernel)) ggL_law_X8_lift
set_option maxRecDepth 20000 in
theorem ggL_law_X7_ends : GoodIn wsL_law wsX7_ends := goodIn_r _ [487, 296, 488, 489, 490, 211, 212, 213, 2, 214, 19, 215, 132, 133, 134, 298, 299, 300, 301, 45, 32, 24, 43, 302, 303, 304, 31, 305, 78, 86, 85, 306, 307, 308, 309, 310, 311, 312, 79, 80, 81, 87, 313, 88, 314, 315, 316, 317, 318, 319, 320, 321, 322, 323, 324, 325, 326, 327, 328, 329, 330, 331, 332, 333, 334, 335, 336, 337, 338, 339, 340, 341, 342, 343, 344, 345, 89, 346, 347, 348, 349, 350, 351, 352, 353, 354, 355, 356, 357, 358, 359, 360, 361, 84, 362, 363, 364, 365, 366, 367, 368, 369, 82, 83, 491, 492, 493, 494, 382, 383, 384, 385, 371, 372, 373, 1059, 1060, 1061, 1062, 1063, 1064, 1065, 1066, 1067, 1068, 1069, 1070, 1001, 1002, 1003, 1004, 1005, 1006, 1007, 1008, 1009, 1010, 1011, 1012, 1013, 1014, 1015, 1047, 1048, 1049, 1050, 1051, 1052, 1053, 1054] (by decide +kernel) (by decide +kernel)
set_option maxRecDepth 20000 in
theorem gL_law_X7_ends : GoodIn wsL_law (wsV RL 65 RX7 yX7_ends wsX7_ends) := goodIn_app (goodIn_of _ (by decide +kernel)) ggL_law_X7_ends
set_option maxRecDepth 20000 in
theorem ggL_law_X8_ends : GoodIn wsL_law wsX8_ends := goodIn_r _ [498, 285, 395, 396, 397, 398, 5, 399, 194, 195, 196, 197, 198, 165, 108, 109, 199, 200, 201, 202, 203, 166, 167, 168, 400, 401, 402, 403, 111, 113, 114, 115, 116, 117, 404, 405, 406, 407, 112, 119, 120, 121, 408, 409, 410, 411, 412, 253, 110, 413, 414, 415, 416, 221, 222, 223, 224, 417, 418, 419, 420, 421, 422, 423, 424, 425, 426, 427, 118, 125, 428, 429, 430, 431, 432, 433, 434, 435, 436, 437, 438, 499, 500, 501, 502, 1016, 1017, 1018, 1019, 1020, 1021, 1022, 1023, 1024, 1025, 1026, 1027, 1028, 1029, 1030, 1031, 1032, 1033, 1034, 1035, 1036, 1037, 1038, 1039, 1040, 1041, 1042, 1043, 1044] (by decide +kernel) (by decide +kernel)
set_option maxRecDepth 20000 in
theorem gL_law_X8_ends : GoodIn wsL_law (wsV RL 68 RX8 yX8_ends wsX8_ends) := goodIn_app (goodIn_of _ (by decide +kernel)) ggL_law_X8_ends
set_option maxRecDepth 20000 in
theorem ggL_law_X7_sum : GoodIn wsL_law wsX7_sum := goodIn_r _ [506, 132, 133, 2, 134, 298, 299, 300, 301, 45, 32, 19, 24, 43, 302, 303, 304, 31, 305, 78, 86, 85, 306, 307, 308, 309, 310, 311, 312, 79, 80, 81, 87, 313, 88, 314, 315, 316, 317, 318, 319, 320, 321, 322, 323, 324, 325, 326, 327, 328, 329, 330, 331, 332, 333, 334, 335, 336, 337, 338, 339, 340, 341, 342, 343, 344, 345, 89, 346, 347, 348, 349, 350, 351, 352, 353, 354, 355, 356, 357, 358, 359, 360, 361, 84, 362, 363, 364, 365, 366, 367, 368, 369, 82, 83, 507, 508, 509, 510, 511, 512, 513, 514, 515, 516, 517, 518, 519, 520, 521, 522, 523, 524, 525, 526, 527, 528, 529, 530, 531, 532, 533, 475, 379, 380, 381, 382, 383, 384, 385, 371, 372, 373, 386, 375, 376, 377, 1001, 1002, 1003, 1004, 1005, 1006, 1007, 1008, 1009, 1010, 1011, 1012, 1013, 1014, 1015, 1059, 1060, 1061, 1062, 1063, 1064, 1065, 1066, 1067, 1068, 1069, 1070, 1047, 1048, 1049, 1050, 1051, 1052, 1053, 1054] (by decide +kernel) (by decide +kernel)
set_option maxRecDepth 20000 in
theorem gL_law_X7_sum : GoodIn wsL_law (wsV RL 69 RX7 yX7_sum wsX7_sum) := goodIn_app (goodIn_of _ (by decide +kernel)) ggL_law_X7_sum
set_option maxRecDepth 20000 in
theorem ggL_law_X8_sum : GoodIn wsL_law wsX8_sum := goodIn_r _ [537, 285, 396, 397, 398, 5, 399, 194, 195, 196, 197, 198, 165, 108, 109, 199, 200, 201, 202, 203, 166, 167, 168, 400, 401, 402, 403, 111, 113, 114, 115, 116, 117, 404, 405, 406, 407, 112, 119, 120, 121, 408, 409, 410, 411, 412, 253, 110, 413, 414, 415, 416, 221, 222, 223, 224, 417, 418, 419, 420, 421, 422, 423, 424, 425, 426, 427, 118, 125, 428, 429, 430, 431, 432, 433, 434, 435, 436, 437, 438, 538, 539, 540, 541, 542, 543, 544, 545, 546, 547, 548, 549, 550, 551, 552, 553, 554, 555, 556, 557, 443, 444, 445, 446, 447, 448, 449, 1016, 1017, 1018, 1019, 1020, 1021, 1022, 1023, 1024, 1025, 1026, 1027, 1028, 1029, 1030, 1031, 1032, 1033, 1034, 1035, 1036, 1037, 1038, 1039, 1040, 1041, 1042, 1043, 1044] (by decide +kernel) (by decide +kernel)
set_option maxRecDepth 20000 in
theorem gL_law_X8_sum : GoodIn wsL_law (wsV RL 72 RX8 yX8_sum wsX8_sum) := goodIn_app (goodIn_of _ (by decide +kernel)) ggL_law_X8_sum
set_option maxRecDepth 20000 in
theorem ggL_law_X7_top : GoodIn wsL_law wsX7_top := goodIn_r _ [561, 298, 299, 300, 2, 301, 45, 32, 19, 24, 43, 302, 303, 304, 31, 305, 78, 86, 85, 306, 307, 308, 309, 310, 311, 312, 79, 80, 81, 87, 313, 88, 314, 315, 316, 317, 318, 319, 320, 321, 322, 323, 324, 325, 326, 327, 328, 329, 330, 331, 332, 333, 334, 335, 336, 337, 338, 339, 340, 341, 342, 343, 344, 345, 89, 346, 347, 348, 349, 350, 351, 352, 353, 354, 355, 356, 357, 358, 359, 360, 361, 84, 362, 363, 364, 365, 366, 367, 368, 369, 82, 83, 562, 563, 564, 565, 385, 371, 372, 373, 1001, 1002, 1003, 1004, 1005, 1006, 1007, 1008, 1009, 1010, 1011, 1012, 1013, 1014, 1015, 1059, 1060, 1061, 1062, 1063, 1064, 1065, 1066, 1067, 1068, 1069, 1070, 1047, 1048, 1049, 1050, 1051, 1052, 1053, 1054] (by decide +kernel) (by decide +kernel)
set_option maxRecDepth 20000 in
theorem gL_law_X7_top : GoodIn wsL_law (wsV RL 73 RX7 yX7_top wsX7_top) := goodIn_app (goodIn_of _ (by decide +kernel)) ggL_law_X7_top
set_option maxRecDepth 20000 in
theorem ggL_law_X8_top : GoodIn wsL_law wsX8_top := goodIn_r _ [569, 396, 397, 398, 5, 399, 194, 195, 196, 197, 198, 165, 108, 109, 199, 200, 201, 202, 203, 166, 167, 168, 400, 401, 402, 403, 111, 113, 114, 115, 116, 117, 404, 405, 406, 407, 112, 119, 120, 121, 408, 409, 410, 411, 412, 253, 110, 413, 414, 415, 416, 221, 222, 223, 224, 417, 418, 419, 420, 421, 422, 423, 424, 425, 426, 427, 118, 125, 428, 429, 430, 431, 432, 433, 434, 435, 436, 437, 438, 570, 571, 572, 573, 1016, 1017, 1018, 1019, 1020, 1021, 1022, 1023, 1024, 1025, 1026, 1027, 1028, 1029, 1030, 1031, 1032, 1033, 1034, 1035, 1036, 1037, 1038, 1039, 1040, 1041, 1042, 1043, 1044] (by decide +kernel) (by decide +kernel)
set_option maxRecDepth 20000 in
theorem gL_law_X8_top : GoodIn wsL_law (wsV RL 76 RX8 yX8_top wsX8_top) := goodIn_app (goodIn_of _ (by decide +kernel)) ggL_law_X8_top
set_option maxRecDepth 20000 in
theorem ggL_law_X7_heard : GoodIn wsL_law wsX7_heard := goodIn_r _ [577, 298, 299, 300, 2, 301, 45, 32, 19, 24, 43, 302, 303, 304, 31, 305, 78, 86, 85, 306, 307, 308, 309, 310, 311, 312, 79, 80, 81, 87, 313, 88, 314, 315, 316, 317, 318, 319, 320, 321, 322, 323, 324, 325, 326, 327, 328, 329, 330, 331, 332, 333, 334, 335, 336, 337, 338, 339, 340, 341, 342, 343, 344, 345, 89, 346, 347, 348, 349, 350, 351, 352, 353, 354, 355, 356, 357, 358, 359, 360, 361, 84, 362, 363, 364, 365, 366, 367, 368, 369, 82, 83, 578, 579, 580, 581, 385, 371, 372, 373, 1001, 1002, 1003, 1004, 1005, 1006, 1007, 1008, 1009, 1010, 1011, 1012, 1013, 1014, 1015, 1059, 1060, 1061, 1062, 1063, 1064, 1065, 1066, 1067, 1068, 1069, 1070, 1047, 1048, 1049, 1050, 1051, 1052, 1053, 1054] (by decide +kernel) (by decide +kernel)
set_option maxRecDepth 20000 in
theorem gL_law_X7_heard : GoodIn wsL_law (wsV RL 77 RX7 yX7_heard wsX7_heard) := goodIn_app (goodIn_of _ (by decide +kernel)) ggL_law_X7_heard
set_option maxRecDepth 20000 in
theorem ggL_law_X8_heard : GoodIn wsL_law wsX8_heard := goodIn_r _ [585, 396, 397, 398, 5, 399, 194, 195, 196, 197, 198, 165, 108, 109, 199, 200, 201, 202, 203, 166, 167, 168, 400, 401, 402, 403, 111, 113, 114, 115, 116, 117, 404, 405, 406, 407, 112, 119, 120, 121, 408, 409, 410, 411, 412, 253, 110, 413, 414, 415, 416, 221, 222, 223, 224, 417, 418, 419, 420, 421, 422, 423, 424, 425, 426, 427, 118, 125, 428, 429, 430, 431, 432, 433, 434, 435, 436, 437, 438, 586, 587, 588, 589, 1016, 1017, 1018, 1019, 1020, 1021, 1022, 1023, 1024, 1025, 1026, 1027, 1028, 1029, 1030, 1031, 1032, 1033, 1034, 1035, 1036, 1037, 1038, 1039, 1040, 1041, 1042, 1043, 1044] (by decide +kernel) (by decide +kernel)
set_option maxRecDepth 20000 in
theorem gL_law_X8_heard : GoodIn wsL_law (wsV RL 80 RX8 yX8_heard wsX8_heard) := goodIn_app (goodIn_of _ (by decide +kernel)) ggL_law_X8_heard
set_option maxRecDepth 20000 in
theorem ggL_law_X7_earn : GoodIn wsL_law wsX7_earn := goodIn_r _ [593, 37, 211, 212, 213, 2, 214, 19, 215, 132, 133, 134, 594, 595, 596, 597, 20, 210, 33, 24, 43, 598, 599, 600, 36, 601, 602, 603, 604, 605, 18, 606, 60, 57, 58, 59, 302, 303, 304, 31, 305, 78, 86, 85, 306, 307, 308, 309, 310, 311, 312, 79, 80, 81, 87, 313, 88, 314, 315, 316, 317, 318, 319, 320, 321, 322, 323, 324, 325, 326, 327, 328, 329, 330, 331, 332, 333, 334, 335, 336, 337, 338, 339, 340, 341, 342, 343, 344, 345, 89, 346, 347, 348, 349, 350, 351, 352, 353, 354, 355, 356, 357, 358, 359, 360, 361, 84, 362, 363, 364, 365, 366, 367, 368, 369, 82, 83, 507, 508, 509, 510, 511, 512, 513, 514, 515, 516, 517, 518, 519, 520, 521, 522, 523, 524, 525, 607, 608, 609, 610, 611, 612, 613, 614, 615, 616, 1001, 1002, 1003, 1004, 1005, 1006, 1007, 1008, 1009, 1010, 1011, 1012, 1013, 1014, 1015, 1047, 1048, 1049, 1050, 1071, 1072, 1073, 1059, 1060, 1061, 1062, 1063, 1064, 1065, 1066, 1067, 1068, 1069, 1070, 1051, 1052, 1053, 1054] (by decide +kernel) (by decide +kernel)
set_option maxRecDepth 20000 in
theorem gL_law_X7_earn : GoodIn wsL_law (wsV RL 81 RX7 yX7_earn wsX7_earn) := goodIn_app (goodIn_of _ (by decide +kernel)) ggL_law_X7_earn
set_option maxRecDepth 20000 in
theorem ggL_law_X8_earn : GoodIn wsL_law wsX8_earn := goodIn_r _ [620, 220, 396, 397, 398, 5, 399, 194, 195, 196, 197, 198, 165, 108, 109, 199, 200, 201, 202, 203, 166, 167, 168, 400, 401, 402, 403, 111, 113, 114, 115, 116, 117, 404, 405, 406, 407, 112, 119, 120, 121, 408, 409, 410, 411, 412, 253, 110, 413, 414, 415, 416, 221, 222, 223, 224, 417, 418, 419, 420, 421, 422, 423, 424, 425, 426, 427, 118, 125, 428, 429, 430, 431, 432, 433, 434, 435, 436, 437, 438, 621, 622, 623, 624, 625, 626, 627, 628, 629, 542, 543, 544, 545, 546, 547, 548, 549, 1016, 1017, 1018, 1019, 1020, 1021, 1022, 1023, 1024, 1025, 1026, 1027, 1028, 1029, 1030, 1031, 1032, 1033, 1034, 1035, 1036, 1037, 1038, 1039, 1040, 1041, 1042, 1043, 1044] (by decide +kernel) (by decide +kernel)
set_option maxRecDepth 20000 in
theorem gL_law_X8_earn : GoodIn wsL_law (wsV RL 84 RX8 yX8_earn wsX8_earn) := goodIn_app (goodIn_of _ (by decide +kernel)) ggL_law_X8_earn
set_option maxRecDepth 20000 in
theorem ggL_law_X7_be : GoodIn wsL_law wsX7_be := goodIn_r _ [633, 37, 211, 212, 213, 2, 214, 19, 215, 132, 133, 134, 634, 635, 636, 637, 20, 208, 33, 24, 43, 598, 599, 600, 36, 601, 602, 603, 604, 605, 18, 606, 60, 57, 58, 59, 302, 303, 304, 31, 305, 78, 86, 85, 306, 307, 308, 309, 310, 311, 312, 79, 80, 81, 87, 313, 88, 314, 315, 316, 317, 318, 319, 320, 321, 322, 323, 324, 325, 326, 327, 328, 329, 330, 331, 332, 333, 334, 335, 336, 337, 338, 339, 340, 341, 342, 343, 344, 345, 89, 346, 347, 348, 349, 350, 351, 352, 353, 354, 355, 356, 357, 358, 359, 360, 361, 84, 362, 363, 364, 365, 366, 367, 368, 369, 82, 83, 507, 508, 509, 510, 511, 512, 513, 514, 515, 516, 517, 518, 519, 520, 521, 522, 523, 524, 525, 607, 608, 609, 610, 611, 612, 613, 614, 615, 616, 1001, 1002, 1003, 1004, 1005, 1006, 1007, 1008, 1009, 1010, 1011, 1012, 1013, 1014, 1015, 1047, 1048, 1049, 1050, 1071, 1072, 1073, 1059, 1060, 1061, 1062, 1063, 1064, 1065, 1066, 1067, 1068, 1069, 1070, 1051, 1052, 1053, 1054] (by decide +kernel) (by decide +kernel)
set_option maxRecDepth 20000 in
theorem gL_law_X7_be : GoodIn wsL_law (wsV RL 85 RX7 yX7_be wsX7_be) := goodIn_app (goodIn_of _ (by decide +kernel)) ggL_law_X7_be
set_option maxRecDepth 20000 in
theorem ggL_law_X8_be : GoodIn wsL_law wsX8_be := goodIn_r _ [641, 220, 396, 397, 398, 5, 399, 194, 195, 196, 197, 198, 165, 108, 109, 199, 200, 201, 202, 203, 166, 167, 168, 400, 401, 402, 403, 111, 113, 114, 115, 116, 117, 404, 405, 406, 407, 112, 119, 120, 121, 408, 409, 410, 411, 412, 253, 110, 413, 414, 415, 416, 221, 222, 223, 224, 417, 418, 419, 420, 421, 422, 423, 424, 425, 426, 427, 118, 125, 428, 429, 430, 431, 432, 433, 434, 435, 436, 437, 438, 621, 622, 623, 624, 625, 626, 627, 628, 629, 542, 543, 544, 545, 546, 547, 548, 549, 1016, 1017, 1018, 1019, 1020, 1021, 1022, 1023, 1024, 1025, 1026, 1027, 1028, 1029, 1030, 1031, 1032, 1033, 1034, 1035, 1036, 1037, 1038, 1039, 1040, 1041, 1042, 1043, 1044] (by decide +kernel) (by decide +kernel)
set_option maxRecDepth 20000 in
theorem gL_law_X8_be : GoodIn wsL_law (wsV RL 88 RX8 yX8_be wsX8_be) := goodIn_app (goodIn_of _ (by decide +kernel)) ggL_law_X8_be
set_option maxRecDepth 20000 in
theorem ggL_law_X7_widen : GoodIn wsL_law wsX7_widen := goodIn_r _ [645, 37, 132, 133, 2, 134, 646, 647, 648, 649, 33, 19, 24, 598, 599, 600, 36, 601, 602, 302, 303, 304, 31, 305, 78, 86, 85, 306, 307, 308, 309, 310, 311, 312, 79, 80, 81, 87, 313, 88, 314, 315, 316, 317, 318, 319, 320, 321, 322, 323, 324, 325, 326, 327, 328, 329, 330, 331, 332, 333, 334, 335, 336, 337, 338, 339, 340, 341, 342, 343, 344, 345, 89, 346, 347, 348, 349, 350, 351, 352, 353, 354, 355, 356, 357, 358, 359, 360, 361, 84, 362, 363, 364, 365, 366, 367, 368, 369, 82, 83, 507, 508, 509, 510, 511, 512, 513, 514, 515, 516, 517, 518, 519, 520, 521, 522, 523, 524, 525, 607, 608, 609, 610, 611, 612, 613, 614, 615, 616, 1001, 1002, 1003, 1004, 1005, 1006, 1007, 1008, 1009, 1010, 1011, 1012, 1013, 1014, 1015, 1071, 1072, 1073, 1059, 1060, 1061, 1062, 1063, 1064, 1065, 1066, 1067, 1068, 1069, 1070, 1047, 1048, 1049, 1050, 1051, 1052, 1053, 1054] (by decide +kernel) (by decide +kernel)
set_option maxRecDepth 20000 in
theorem gL_law_X7_widen : GoodIn wsL_law (wsV RL 89 RX7 yX7_widen wsX7_widen) := goodIn_app (goodIn_of _ (by decide +kernel)) ggL_law_X7_widen
set_option maxRecDepth 20000 in
theorem ggL_law_X8_widen : GoodIn wsL_law wsX8_widen := goodIn_r _ [653, 220, 396, 397, 398, 5, 399, 194, 195, 196, 197, 198, 165, 108, 109, 199, 200, 201, 202, 203, 166, 167, 168, 400, 401, 402, 403, 111, 113, 114, 115, 116, 117, 404, 405, 406, 407, 112, 119, 120, 121, 408, 409, 410, 411, 412, 253, 110, 413, 414, 415, 416, 221, 222, 223, 224, 417, 418, 419, 420, 421, 422, 423, 424, 425, 426, 427, 118, 125, 428, 429, 430, 431, 432, 433, 434, 435, 436, 437, 438, 654, 655, 656, 657, 625, 626, 627, 628, 629, 542, 543, 544, 545, 546, 547, 548, 549, 1016, 1017, 1018, 1019, 1020, 1021, 1022, 1023, 1024, 1025, 1026, 1027, 1028, 1029, 1030, 1031, 1032, 1033, 1034, 1035, 1036, 1037, 1038, 1039, 1040, 1041, 1042, 1043, 1044] (by decide +kernel) (by decide +kernel)
set_option maxRecDepth 20000 in
theorem gL_law_X8_widen : GoodIn wsL_law (wsV RL 92 RX8 yX8_widen wsX8_widen) := goodIn_app (goodIn_of _ (by decide +kernel)) ggL_law_X8_widen
set_option maxRecDepth 20000 in
theorem ggL_law_X7_spare : GoodIn wsL_law wsX7_spare := goodIn_r _ [661, 132, 133, 2, 134, 662, 663, 664, 665, 24, 238, 666, 667, 668, 669, 46, 41, 33, 19, 43, 670, 347, 348, 349, 302, 303, 304, 31, 305, 78, 86, 85, 306, 307, 308, 309, 310, 311, 312, 79, 80, 81, 87, 313, 88, 314, 315, 316, 317, 318, 319, 320, 321, 322, 323, 324, 325, 326, 327, 328, 329, 330, 331, 332, 333, 334, 335, 336, 337, 338, 339, 340, 341, 342, 343, 344, 345, 89, 346, 350, 351, 352, 353, 354, 355, 356, 357, 358, 359, 360, 361, 84, 362, 363, 364, 365, 366, 367, 368, 369, 82, 83, 671, 512, 513, 514, 672, 516, 517, 518, 519, 520, 521, 673, 674, 675, 1001, 1002, 1003, 1004, 1005, 1006, 1007, 1008, 1009, 1010, 1011, 1012, 1013, 1014, 1015, 1051, 1052, 1053, 1054, 1059, 1060, 1061, 1062, 1063, 1064, 1065, 1066, 1067, 1068, 1069, 1070, 1047, 1048, 1049, 1050] (by decide +kernel) (by decide +kernel)
set_option maxRecDepth 20000 in
theorem gL_law_X7_spare : GoodIn wsL_law (wsV RL 93 RX7 yX7_spare wsX7_spare) := goodIn_app (goodIn_of _ (by decide +kernel)) ggL_law_X7_spare
set_option maxRecDepth 20000 in
theorem ggL_law_X8_spare : GoodIn wsL_law wsX8_spare := goodIn_r _ [679, 680, 396, 397, 398, 5, 399, 194, 195, 196, 197, 198, 165, 108, 109, 199, 200, 201, 202, 203, 166, 167, 168, 400, 401, 402, 403, 111, 113, 114, 115, 116, 117, 404, 405, 406, 407, 112, 119, 120, 121, 408, 409, 410, 411, 412, 253, 110, 413, 414, 415, 416, 221, 222, 223, 224, 417, 418, 419, 420, 421, 422, 423, 424, 425, 426, 427, 118, 125, 428, 429, 430, 431, 432, 433, 434, 435, 436, 437, 438, 681, 682, 683, 684, 685, 686, 687, 688, 542, 543, 544, 545, 1016, 1017, 1018, 1019, 1020, 1021, 1022, 1023, 1024, 1025, 1026, 1027, 1028, 1029, 1030, 1031, 1032, 1033, 1034, 1035, 1036, 1037, 1038, 1039, 1040, 1041, 1042, 1043, 1044] (by decide +kernel) (by decide +kernel)
set_option maxRecDepth 20000 in
theorem gL_law_X8_spare : GoodIn wsL_law (wsV RL 96 RX8 yX8_spare wsX8_spare) := goodIn_app (goodIn_of _ (by decide +kernel)) ggL_law_X8_spare
set_option maxRecDepth 20000 in
theorem ggL_law_X7_seen : GoodIn wsL_law wsX7_seen := goodIn_r _ [692, 28, 693, 297, 242, 2, 243, 132, 133, 134, 694, 695, 696, 27, 697, 71, 74, 72, 73, 1001, 1002, 1003, 1004, 1005, 1006, 1007, 1008, 1009, 1010, 1011, 1012, 1013, 1014, 1015, 1055, 1056, 1057, 1058] (by decide +kernel) (by decide +kernel)
set_option maxRecDepth 20000 in
theorem gL_law_X7_seen : GoodIn wsL_law (wsV RL 97 RX7 yX7_seen wsX7_seen) := goodIn_app (goodIn_of _ (by decide +kernel)) ggL_law_X7_seen
set_option maxRecDepth 20000 in
theorem ggL_law_X8_seen : GoodIn wsL_law wsX8_seen := goodIn_r _ [701, 252, 680, 462, 702, 122, 254, 255, 5, 256, 257, 166, 167, 168, 1016, 1017, 1018, 1019, 1020, 1021, 1022, 1023, 1024, 1025, 1026, 1027, 1028, 1029, 1030, 1031, 1032, 1033, 1034, 1035, 1036, 1037, 1038, 1039, 1040, 1041, 1042, 1043, 1044] (by decide +kernel) (by decide +kernel)
set_option maxRecDepth 20000 in
theorem gL_law_X8_seen : GoodIn wsL_law (wsV RL 100 RX8 yX8_seen wsX8_seen) := goodIn_app (goodIn_of _ (by decide +kernel)) ggL_law_X8_seen
set_option maxRecDepth 20000 in
theorem ggL_law_X7_forget : GoodIn wsL_law wsX7_forget := goodIn_r _ [706, 28, 693, 1001, 1002, 1003, 1004, 1005, 1006, 1007, 1008, 1009, 1010, 1011, 1012, 1013, 1014, 1015, 1055, 1056, 1057, 1058] (by decide +kernel) (by decide +kernel)
set_option maxRecDepth 20000 in
theorem gL_law_X7_forget : GoodIn wsL_law (wsV RL 101 RX7 yX7_forget wsX7_forget) := goodIn_app (goodIn_of _ (by decide +kernel)) ggL_law_X7_forget
set_option maxRecDepth 20000 in
theorem ggL_law_X8_forget : GoodIn wsL_law wsX8_forget := goodIn_r _ [710, 702, 1016, 1017, 1018, 1019, 1020, 1021, 1022, 1023, 1024, 1025, 1026, 1027, 1028, 1029, 1030, 1031, 1032, 1033, 1034, 1035, 1036, 1037, 1038, 1039, 1040, 1041, 1042, 1043, 1044] (by decide +kernel) (by decide +kernel)
set_option maxRecDepth 20000 in
theorem gL_law_X8_forget : GoodIn wsL_law (wsV RL 104 RX8 yX8_forget wsX8_forget) := goodIn_app (goodIn_of _ (by decide +kernel)) ggL_law_X8_forget
set_option maxRecDepth 20000 in
theorem ggL_law_X7_never : GoodIn wsL_law wsX7_never := goodIn_r _ [714, 24, 238, 33, 19, 43, 28, 302, 303, 304, 31, 305, 78, 86, 85, 306, 307, 308, 309, 310, 311, 312, 79, 80, 81, 87, 313, 88, 314, 315, 316, 317, 318, 319, 320, 321, 322, 323, 324, 325, 326, 327, 328, 329, 330, 331, 332, 333, 334, 335, 336, 337, 338, 339, 340, 341, 342, 343, 344, 345, 89, 346, 347, 348, 349, 350, 351, 352, 353, 354, 355, 356, 357, 358, 359, 360, 361, 84, 362, 363, 364, 365, 366, 367, 368, 369, 82, 83, 715, 716, 717, 27, 718, 74, 72, 719, 71, 73, 720, 371, 372, 373, 1001, 1002, 1003, 1004, 1005, 1006, 1007, 1008, 1009, 1010, 1011, 1012, 1013, 1014, 1015, 1051, 1052, 1053, 1054, 1059, 1060, 1061, 1062, 1063, 1064, 1065, 1066, 1067, 1068, 1069, 1070, 1047, 1048, 1049, 1050, 1055, 1056, 1057, 1058] (by decide +kernel) (by decide +kernel)
set_option maxRecDepth 20000 in
theorem gL_law_X7_never : GoodIn wsL_law (wsV RL 105 RX7 yX7_never wsX7_never) := goodIn_app (goodIn_of _ (by decide +kernel)) ggL_law_X7_never
set_option maxRecDepth 20000 in
theorem ggL_law_X8_never : GoodIn wsL_law wsX8_never := goodIn_r _ [724, 396, 397, 398, 5, 399, 194, 195, 196, 197, 198, 165, 108, 109, 199, 200, 201, 202, 203, 166, 167, 168, 400, 401, 402, 403, 111, 113, 114, 115, 116, 117, 404, 405, 406, 407, 112, 119, 120, 121, 408, 409, 410, 411, 412, 253, 110, 413, 414, 415, 416, 221, 222, 223, 224, 417, 418, 419, 420, 421, 422, 423, 424, 425, 426, 427, 118, 125, 428, 429, 430, 431, 432, 433, 434, 435, 436, 437, 438, 725, 726, 727, 728, 729, 730, 731, 732, 702, 122, 1016, 1017, 1018, 1019, 1020, 1021, 1022, 1023, 1024, 1025, 1026, 1027, 1028, 1029, 1030, 1031, 1032, 1033, 1034, 1035, 1036, 1037, 1038, 1039, 1040, 1041, 1042, 1043, 1044] (by decide +kernel) (by decide +kernel)
set_option maxRecDepth 20000 in
theorem gL_law_X8_never : GoodIn wsL_law (wsV RL 108 RX8 yX8_never wsX8_never) := goodIn_app (goodIn_of _ (by decide +kernel)) ggL_law_X8_never
set_option maxRecDepth 20000 in
theorem ggL_law_X7_was : GoodIn wsL_law wsX7_was := goodIn_r _ [736, 211, 212, 213, 2, 214, 19, 215, 132, 133, 134, 737, 738, 739, 740, 20, 210, 33, 24, 43, 28, 42, 603, 604, 605, 18, 606, 60, 57, 58, 59, 302, 303, 304, 31, 305, 78, 86, 85, 306, 307, 308, 309, 310, 311, 312, 79, 80, 81, 87, 313, 88, 314, 315, 316, 317, 318, 319, 320, 321, 322, 323, 324, 325, 326, 327, 328, 329, 330, 331, 332, 333, 334, 335, 336, 337, 338, 339, 340, 341, 342, 343, 344, 345, 89, 346, 347, 348, 349, 350, 351, 352, 353, 354, 355, 356, 357, 358, 359, 360, 361, 84, 362, 363, 364, 365, 366, 367, 368, 369, 82, 83, 715, 716, 717, 27, 718, 74, 72, 719, 71, 73, 720, 371, 372, 373, 741, 742, 743, 744, 385, 745, 746, 747, 748, 208, 1001, 1002, 1003, 1004, 1005, 1006, 1007, 1008, 1009, 1010, 1011, 1012, 1013, 1014, 1015, 1047, 1048, 1049, 1050, 1059, 1060, 1061, 1062, 1063, 1064, 1065, 1066, 1067, 1068, 1069, 1070, 1051, 1052, 1053, 1054, 1055, 1056, 1057, 1058] (by decide +kernel) (by decide +kernel)
set_option maxRecDepth 20000 in
theorem gL_law_X7_was : GoodIn wsL_law (wsV RL 109 RX7 yX7_was wsX7_was) := goodIn_app (goodIn_of _ (by decide +kernel)) ggL_law_X7_was
set_option maxRecDepth 20000 in
theorem ggL_law_X8_was : GoodIn wsL_law wsX8_was := goodIn_r _ [752, 396, 397, 398, 5, 399, 194, 195, 196, 197, 198, 165, 108, 109, 199, 200, 201, 202, 203, 166, 167, 168, 400, 401, 402, 403, 111, 113, 114, 115, 116, 117, 404, 405, 406, 407, 112, 119, 120, 121, 408, 409, 410, 411, 412, 253, 110, 413, 414, 415, 416, 221, 222, 223, 224, 417, 418, 419, 420, 421, 422, 423, 424, 425, 426, 427, 118, 125, 428, 429, 430, 431, 432, 433, 434, 435, 436, 437, 438, 753, 754, 755, 756, 757, 758, 759, 760, 761, 762, 763, 124, 729, 730, 731, 732, 702, 122, 764, 765, 766, 767, 768, 769, 770, 771, 772, 1016, 1017, 1018, 1019, 1020, 1021, 1022, 1023, 1024, 1025, 1026, 1027, 1028, 1029, 1030, 1031, 1032, 1033, 1034, 1035, 1036, 1037, 1038, 1039, 1040, 1041, 1042, 1043, 1044] (by decide +kernel) (by decide +kernel)
set_option maxRecDepth 20000 in
theorem gL_law_X8_was : GoodIn wsL_law (wsV RL 112 RX8 yX8_was wsX8_was) := goodIn_app (goodIn_of _ (by decide +kernel)) ggL_law_X8_was
set_option maxRecDepth 20000 in
theorem ggL_law_X7_ask : GoodIn wsL_law wsX7_ask := goodIn_r _ [776, 211, 212, 213, 2, 214, 19, 215, 737, 738, 739, 740, 20, 210, 33, 24, 43, 28, 42, 603, 604, 605, 18, 606, 60, 57, 58, 59, 302, 303, 304, 31, 305, 78, 86, 85, 306, 307, 308, 309, 310, 311, 312, 79, 80, 81, 87, 313, 88, 314, 315, 316, 317, 318, 319, 320, 321, 322, 323, 324, 325, 326, 327, 328, 329, 330, 331, 332, 333, 334, 335, 336, 337, 338, 339, 340, 341, 342, 343, 344, 345, 89, 346, 347, 348, 349, 350, 351, 352, 353, 354, 355, 356, 357, 358, 359, 360, 361, 84, 362, 363, 364, 365, 366, 367, 368, 369, 82, 83, 715, 716, 717, 27, 718, 74, 72, 719, 71, 73, 720, 371, 372, 373, 741, 742, 743, 744, 385, 777, 778, 779, 780, 781, 383, 384, 1001, 1002, 1003, 1004, 1005, 1006, 1007, 1008, 1009, 1010, 1011, 1012, 1013, 1014, 1015, 1047, 1048, 1049, 1050, 1059, 1060, 1061, 1062, 1063, 1064, 1065, 1066, 1067, 1068, 1069, 1070, 1051, 1052, 1053, 1054, 1055, 1056, 1057, 1058] (by decide +kernel) (by decide +kernel)
set_option maxRecDepth 20000 in
theorem gL_law_X7_ask : GoodIn wsL_law (wsV RL 113 RX7 yX7_ask wsX7_ask) := goodIn_app (goodIn_of _ (by decide +kernel)) ggL_law_X7_ask
set_option maxRecDepth 20000 in
theorem ggL_law_X8_ask : GoodIn wsL_law wsX8_ask := goodIn_r _ [785, 396, 397, 398, 5, 399, 194, 195, 196, 197, 198, 165, 108, 109, 199, 200, 201, 202, 203, 166, 167, 168, 400, 401, 402, 403, 111, 113, 114, 115, 116, 117, 404, 405, 406, 407, 112, 119, 120, 121, 408, 409, 410, 411, 412, 253, 110, 413, 414, 415, 416, 221, 222, 223, 224, 417, 418, 419, 420, 421, 422, 423, 424, 425, 426, 427, 118, 125, 428, 429, 430, 431, 432, 433, 434, 435, 436, 437, 438, 786, 787, 788, 789, 760, 761, 762, 763, 124, 729, 730, 731, 732, 702, 122, 764, 765, 766, 767, 768, 790, 791, 792, 793, 1016, 1017, 1018, 1019, 1020, 1021, 1022, 1023, 1024, 1025, 1026, 1027, 1028, 1029, 1030, 1031, 1032, 1033, 1034, 1035, 1036, 1037, 1038, 1039, 1040, 1041, 1042, 1043, 1044] (by decide +kernel) (by decide +kernel)
set_option maxRecDepth 20000 in
theorem gL_law_X8_ask : GoodIn wsL_law (wsV RL 116 RX8 yX8_ask wsX8_ask) := goodIn_app (goodIn_of _ (by decide +kernel)) ggL_law_X8_ask
set_option maxRecDepth 20000 in
theorem ggL_law_X7_chance : GoodIn wsL_law wsX7_chance := goodIn_r _ [797, 798, 24, 238, 132, 133, 2, 134, 211, 212, 213, 214, 19, 215, 666, 667, 668, 669, 46, 41, 33, 43, 670, 347, 348, 349, 302, 303, 304, 31, 305, 78, 86, 85, 306, 307, 308, 309, 310, 311, 312, 79, 80, 81, 87, 313, 88, 314, 315, 316, 317, 318, 319, 320, 321, 322, 323, 324, 325, 326, 327, 328, 329, 330, 331, 332, 333, 334, 335, 336, 337, 338, 339, 340, 341, 342, 343, 344, 345, 89, 346, 350, 351, 352, 353, 354, 355, 356, 357, 358, 359, 360, 361, 84, 362, 363, 364, 365, 366, 367, 368, 369, 82, 83, 671, 512, 513, 514, 799, 800, 801, 802, 803, 804, 805, 806, 807, 808, 1001, 1002, 1003, 1004, 1005, 1006, 1007, 1008, 1009, 1010, 1011, 1012, 1013, 1014, 1015, 1051, 1052, 1053, 1054, 1047, 1048, 1049, 1050, 1059, 1060, 1061, 1062, 1063, 1064, 1065, 1066, 1067, 1068, 1069, 1070] (by decide +kernel) (by decide +kernel)
set_option maxRecDepth 20000 in
theorem gL_law_X7_chance : GoodIn wsL_law (wsV RL 117 RX7 yX7_chance wsX7_chance) := goodIn_app (goodIn_of _ (by decide +kernel)) ggL_law_X7_chance
set_option maxRecDepth 20000 in
theorem ggL_law_X8_chance : GoodIn wsL_law wsX8_chance := goodIn_r _ [812, 813, 396, 397, 398, 5, 399, 194, 195, 196, 197, 198, 165, 108, 109, 199, 200, 201, 202, 203, 166, 167, 168, 400, 401, 402, 403, 111, 113, 114, 115, 116, 117, 404, 405, 406, 407, 112, 119, 120, 121, 408, 409, 410, 411, 412, 253, 110, 413, 414, 415, 416, 221, 222, 223, 224, 417, 418, 419, 420, 421, 422, 423, 424, 425, 426, 427, 118, 125, 428, 429, 430, 431, 432, 433, 434, 435, 436, 437, 438, 753, 754, 755, 814, 815, 816, 817, 818, 819, 820, 821, 822, 823, 824, 1016, 1017, 1018, 1019, 1020, 1021, 1022, 1023, 1024, 1025, 1026, 1027, 1028, 1029, 1030, 1031, 1032, 1033, 1034, 1035, 1036, 1037, 1038, 1039, 1040, 1041, 1042, 1043, 1044] (by decide +kernel) (by decide +kernel)
set_option maxRecDepth 20000 in
theorem gL_law_X8_chance : GoodIn wsL_law (wsV RL 121 RX8 yX8_chance wsX8_chance) := goodIn_app (goodIn_of _ (by decide +kernel)) ggL_law_X8_chance
set_option maxRecDepth 20000 in
theorem ggL_law_X7_houses : GoodIn wsL_law wsX7_houses := goodIn_r _ [828, 20, 33, 24, 43, 132, 133, 2, 134, 829, 830, 831, 18, 832, 60, 57, 58, 59, 833, 834, 835, 836, 837, 838, 839, 302, 303, 304, 31, 305, 78, 86, 85, 306, 307, 308, 309, 310, 311, 312, 79, 80, 81, 87, 313, 88, 314, 315, 316, 317, 318, 319, 320, 321, 322, 323, 324, 325, 326, 327, 328, 329, 330, 331, 332, 333, 334, 335, 336, 337, 338, 339, 340, 341, 342, 343, 344, 345, 89, 346, 347, 348, 349, 350, 351, 352, 353, 354, 355, 356, 357, 358, 359, 360, 361, 84, 362, 363, 364, 365, 366, 367, 368, 369, 82, 83, 507, 508, 509, 510, 511, 512, 513, 514, 515, 516, 517, 518, 519, 520, 521, 522, 523, 524, 525, 1001, 1002, 1003, 1004, 1005, 1006, 1007, 1008, 1009, 1010, 1011, 1012, 1013, 1014, 1015, 1047, 1048, 1049, 1050, 1059, 1060, 1061, 1062, 1063, 1064, 1065, 1066, 1067, 1068, 1069, 1070, 1051, 1052, 1053, 1054] (by decide +kernel) (by decide +kernel)
set_option maxRecDepth 20000 in
theorem gL_law_X7_houses : GoodIn wsL_law (wsV RL 122 RX7 yX7_houses wsX7_houses) := goodIn_app (goodIn_of _ (by decide +kernel)) ggL_law_X7_houses
set_option maxRecDepth 20000 in
theorem ggL_law_X8_houses : GoodIn wsL_law wsX8_houses := goodIn_r _ [843, 233, 396, 397, 398, 5, 399, 194, 195, 196, 197, 198, 165, 108, 109, 199, 200, 201, 202, 203, 166, 167, 168, 400, 401, 402, 403, 111, 113, 114, 115, 116, 117, 404, 405, 406, 407, 112, 119, 120, 121, 408, 409, 410, 411, 412, 253, 110, 413, 414, 415, 416, 221, 222, 223, 224, 417, 418, 419, 420, 421, 422, 423, 424, 425, 426, 427, 118, 125, 428, 429, 430, 431, 432, 433, 434, 435, 436, 437, 438, 753, 754, 755, 844, 845, 846, 847, 848, 849, 850, 851, 852, 853, 542, 543, 544, 545, 546, 547, 548, 549, 1016, 1017, 1018, 1019, 1020, 1021, 1022, 1023, 1024, 1025, 1026, 1027, 1028, 1029, 1030, 1031, 1032, 1033, 1034, 1035, 1036, 1037, 1038, 1039, 1040, 1041, 1042, 1043, 1044] (by decide +kernel) (by decide +kernel)
set_option maxRecDepth 20000 in
theorem gL_law_X8_houses : GoodIn wsL_law (wsV RL 125 RX8 yX8_houses wsX8_houses) := goodIn_app (goodIn_of _ (by decide +kernel)) ggL_law_X8_houses
set_option maxRecDepth 20000 in
theorem ggL_law_X7_sheet : GoodIn wsL_law wsX7_sheet := goodIn_r _ [857, 39, 132, 133, 2, 134, 273, 274, 275, 276, 44, 858, 859, 860, 48, 861, 96, 97, 98, 99, 862, 347, 348, 349, 1001, 1002, 1003, 1004, 1005, 1006, 1007, 1008, 1009, 1010, 1011, 1012, 1013, 1014, 1015, 1074, 1075, 1076, 1077] (by decide +kernel) (by decide +kernel)
set_option maxRecDepth 20000 in
theorem gL_law_X7_sheet : GoodIn wsL_law (wsV RL 126 RX7 yX7_sheet wsX7_sheet) := goodIn_app (goodIn_of _ (by decide +kernel)) ggL_law_X7_sheet
set_option maxRecDepth 20000 in
theorem ggL_law_X8_sheet : GoodIn wsL_law wsX8_sheet := goodIn_r _ [866, 220, 104, 105, 106, 282, 283, 5, 284, 285, 166, 167, 168, 286, 287, 288, 289, 290, 1016, 1017, 1018, 1019, 1020, 1021, 1022, 1023, 1024, 1025, 1026, 1027, 1028, 1029, 1030, 1031, 1032, 1033, 1034, 1035, 1036, 1037, 1038, 1039, 1040, 1041, 1042, 1043, 1044] (by decide +kernel) (by decide +kernel)
set_option maxRecDepth 20000 in
theorem gL_law_X8_sheet : GoodIn wsL_law (wsV RL 129 RX8 yX8_sheet wsX8_sheet) := goodIn_app (goodIn_of _ (by decide +kernel)) ggL_law_X8_sheet
set_option maxRecDepth 20000 in
theorem ggL_law_X7_lose : GoodIn wsL_law wsX7_lose := goodIn_r _ [870, 39, 270, 272, 132, 133, 2, 134, 273, 274, 275, 276, 44, 1001, 1002, 1003, 1004, 1005, 1006, 1007, 1008, 1009, 1010, 1011, 1012, 1013, 1014, 1015, 1074, 1075, 1076, 1077] (by decide +kernel) (by decide +kernel)
set_option maxRecDepth 20000 in
theorem gL_law_X7_lose : GoodIn wsL_law (wsV RL 130 RX7 yX7_lose wsX7_lose) := goodIn_app (goodIn_of _ (by decide +kernel)) ggL_law_X7_lose
set_option maxRecDepth 20000 in
theorem ggL_law_X8_lose : GoodIn wsL_law wsX8_lose := goodIn_r _ [874, 104, 105, 282, 283, 5, 284, 285, 166, 167, 168, 286, 287, 288, 289, 290, 1016, 1017, 1018, 1019, 1020, 1021, 1022, 1023, 1024, 1025, 1026, 1027, 1028, 1029, 1030, 1031, 1032, 1033, 1034, 1035, 1036, 1037, 1038, 1039, 1040, 1041, 1042, 1043, 1044] (by decide +kernel) (by decide +kernel)
set_option maxRecDepth 20000 in
theorem gL_law_X8_lose : GoodIn wsL_law (wsV RL 133 RX8 yX8_lose wsX8_lose) := goodIn_app (goodIn_of _ (by decide +kernel)) ggL_law_X8_lose
set_option maxRecDepth 20000 in
theorem ggL_law_X7_lay : GoodIn wsL_law wsX7_lay := goodIn_r _ [878, 39, 132, 133, 2, 134, 879, 880, 881, 48, 882, 99, 97, 98, 273, 274, 275, 276, 44, 883, 884, 885, 886, 96, 1001, 1002, 1003, 1004, 1005, 1006, 1007, 1008, 1009, 1010, 1011, 1012, 1013, 1014, 1015, 1074, 1075, 1076, 1077] (by decide +kernel) (by decide +kernel)
set_option maxRecDepth 20000 in
theorem gL_law_X7_lay : GoodIn wsL_law (wsV RL 134 RX7 yX7_lay wsX7_lay) := goodIn_app (goodIn_of _ (by decide +kernel)) ggL_law_X7_lay
set_option maxRecDepth 20000 in
theorem ggL_law_X8_lay : GoodIn wsL_law wsX8_lay := goodIn_r _ [890, 220, 106, 282, 283, 5, 284, 285, 166, 167, 168, 891, 892, 893, 894, 104, 105, 286, 287, 288, 289, 290, 895, 896, 897, 1016, 1017, 1018, 1019, 1020, 1021, 1022, 1023, 1024, 1025, 1026, 1027, 1028, 1029, 1030, 1031, 1032, 1033, 1034, 1035, 1036, 1037, 1038, 1039, 1040, 1041, 1042, 1043, 1044] (by decide +kernel) (by decide +kernel)
set_option maxRecDepth 20000 in
theorem gL_law_X8_lay : GoodIn wsL_law (wsV RL 138 RX8 yX8_lay wsX8_lay) := goodIn_app (goodIn_of _ (by decide +kernel)) ggL_law_X8_lay
set_option maxRecDepth 20000 in
theorem ggL_law_X7_get : GoodIn wsL_law wsX7_get := goodIn_r _ [901, 296, 39, 44, 271, 132, 133, 2, 134, 879, 880, 881, 48, 882, 99, 97, 98, 1001, 1002, 1003, 1004, 1005, 1006, 1007, 1008, 1009, 1010, 1011, 1012, 1013, 1014, 1015, 1074, 1075, 1076, 1077] (by decide +kernel) (by decide +kernel)
set_option maxRecDepth 20000 in
theorem gL_law_X7_get : GoodIn wsL_law (wsV RL 139 RX7 yX7_get wsX7_get) := goodIn_app (goodIn_of _ (by decide +kernel)) ggL_law_X7_get
set_option maxRecDepth 20000 in
theorem ggL_law_X8_get : GoodIn wsL_law wsX8_get := goodIn_r _ [905, 220, 395, 106, 282, 283, 5, 284, 285, 166, 167, 168, 891, 892, 893, 894, 104, 105, 286, 287, 288, 289, 290, 1016, 1017, 1018, 1019, 1020, 1021, 1022, 1023, 1024, 1025, 1026, 1027, 1028, 1029, 1030, 1031, 1032, 1033, 1034, 1035, 1036, 1037, 1038, 1039, 1040, 1041, 1042, 1043, 1044] (by decide +kernel) (by decide +kernel)
set_option maxRecDepth 20000 in
theorem gL_law_X8_get : GoodIn wsL_law (wsV RL 142 RX8 yX8_get wsX8_get) := goodIn_app (goodIn_of _ (by decide +kernel)) ggL_law_X8_get
set_option maxRecDepth 20000 in
theorem ggL_law_X7_copy : GoodIn wsL_law wsX7_copy := goodIn_r _ [909, 39, 270, 910, 271, 911, 912, 913, 914, 132, 133, 2, 134, 273, 274, 275, 276, 44, 915, 916, 917, 48, 918, 98, 1001, 1002, 1003, 1004, 1005, 1006, 1007, 1008, 1009, 1010, 1011, 1012, 1013, 1014, 1015, 1074, 1075, 1076, 1077] (by decide +kernel) (by decide +kernel)
set_option maxRecDepth 20000 in
theorem gL_law_X7_copy : GoodIn wsL_law (wsV RL 143 RX7 yX7_copy wsX7_copy) := goodIn_app (goodIn_of _ (by decide +kernel)) ggL_law_X7_copy
set_option maxRecDepth 20000 in
theorem ggL_law_X8_copy : GoodIn wsL_law wsX8_copy := goodIn_r _ [922, 104, 105, 107, 106, 282, 283, 5, 284, 285, 166, 167, 168, 286, 287, 288, 289, 290, 1016, 1017, 1018, 1019, 1020, 1021, 1022, 1023, 1024, 1025, 1026, 1027, 1028, 1029, 1030, 1031, 1032, 1033, 1034, 1035, 1036, 1037, 1038, 1039, 1040, 1041, 1042, 1043, 1044] (by decide +kernel) (by decide +kernel)
set_option maxRecDepth 20000 in
theorem gL_law_X8_copy : GoodIn wsL_law (wsV RL 147 RX8 yX8_copy wsX8_copy) := goodIn_app (goodIn_of _ (by decide +kernel)) ggL_law_X8_copy
set_option maxRecDepth 20000 in
theorem ggL_law_X7_write : GoodIn wsL_law wsX7_write := goodIn_r _ [926, 39, 270, 272, 927, 327, 328, 329, 211, 212, 213, 2, 214, 19, 215, 132, 133, 134, 273, 274, 275, 276, 44, 298, 299, 300, 301, 45, 32, 24, 43, 302, 303, 304, 31, 305, 78, 86, 85, 306, 307, 308, 309, 310, 311, 312, 79, 80, 81, 87, 313, 88, 314, 315, 316, 317, 318, 319, 320, 321, 322, 323, 324, 325, 326, 330, 331, 332, 333, 334, 335, 336, 337, 338, 339, 340, 341, 342, 343, 344, 345, 89, 346, 347, 348, 349, 350, 351, 352, 353, 354, 355, 356, 357, 358, 359, 360, 361, 84, 362, 363, 364, 365, 366, 367, 368, 369, 82, 83, 370, 371, 372, 373, 883, 884, 885, 48, 886, 97, 96, 1001, 1002, 1003, 1004, 1005, 1006, 1007, 1008, 1009, 1010, 1011, 1012, 1013, 1014, 1015, 1074, 1075, 1076, 1077, 1047, 1048, 1049, 1050, 1059, 1060, 1061, 1062, 1063, 1064, 1065, 1066, 1067, 1068, 1069, 1070, 1051, 1052, 1053, 1054] (by decide +kernel) (by decide +kernel)
set_option maxRecDepth 20000 in
theorem gL_law_X7_write : GoodIn wsL_law (wsV RL 148 RX7 yX7_write wsX7_write) := goodIn_app (goodIn_of _ (by decide +kernel)) ggL_law_X7_write
set_option maxRecDepth 20000 in
theorem ggL_law_X8_write : GoodIn wsL_law wsX8_write := goodIn_r _ [931, 104, 105, 106, 119, 396, 397, 398, 5, 399, 194, 195, 196, 197, 198, 165, 108, 109, 199, 200, 201, 202, 203, 166, 167, 168, 400, 401, 402, 403, 111, 113, 114, 115, 116, 117, 404, 405, 406, 407, 112, 120, 121, 408, 409, 410, 411, 412, 253, 110, 413, 414, 415, 416, 221, 222, 223, 224, 417, 418, 419, 420, 421, 422, 423, 424, 425, 426, 427, 118, 125, 428, 429, 430, 431, 432, 433, 434, 435, 436, 437, 438, 282, 283, 284, 285, 286, 287, 288, 289, 290, 895, 896, 897, 1016, 1017, 1018, 1019, 1020, 1021, 1022, 1023, 1024, 1025, 1026, 1027, 1028, 1029, 1030, 1031, 1032, 1033, 1034, 1035, 1036, 1037, 1038, 1039, 1040, 1041, 1042, 1043, 1044] (by decide +kernel) (by decide +kernel)
set_option maxRecDepth 20000 in
theorem gL_law_X8_write : GoodIn wsL_law (wsV RL 151 RX8 yX8_write wsX8_write) := goodIn_app (goodIn_of _ (by decide +kernel)) ggL_law_X8_write
set_option maxRecDepth 20000 in
theorem ggL_law_X7_count : GoodIn wsL_law wsX7_count := goodIn_r _ [935, 19, 215, 15, 130, 24, 238, 43, 28, 693, 44, 298, 299, 300, 2, 301, 45, 32, 302, 303, 304, 31, 305, 78, 86, 85, 306, 307, 308, 309, 310, 311, 312, 79, 80, 81, 87, 313, 88, 314, 315, 316, 317, 318, 319, 320, 321, 322, 323, 324, 325, 326, 327, 328, 329, 330, 331, 332, 333, 334, 335, 336, 337, 338, 339, 340, 341, 342, 343, 344, 345, 89, 346, 347, 348, 349, 350, 351, 352, 353, 354, 355, 356, 357, 358, 359, 360, 361, 84, 362, 363, 364, 365, 366, 367, 368, 369, 82, 83, 507, 508, 509, 510, 511, 512, 513, 514, 515, 516, 517, 518, 519, 520, 521, 522, 523, 524, 525, 936, 937, 938, 939, 385, 371, 372, 373, 1001, 1002, 1003, 1004, 1005, 1006, 1007, 1008, 1009, 1010, 1011, 1012, 1013, 1014, 1015, 1047, 1048, 1049, 1050, 1045, 1046, 1051, 1052, 1053, 1054, 1055, 1056, 1057, 1058, 1059, 1060, 1061, 1062, 1063, 1064, 1065, 1066, 1067, 1068, 1069, 1070] (by decide +kernel) (by decide +kernel)
set_option maxRecDepth 20000 in
theorem gL_law_X7_count : GoodIn wsL_law (wsV RL 152 RX7 yX7_count wsX7_count) := goodIn_app (goodIn_of _ (by decide +kernel)) ggL_law_X7_count
set_option maxRecDepth 20000 in
theorem ggL_law_X8_count : GoodIn wsL_law wsX8_count := goodIn_r _ [943, 198, 165, 253, 125, 702, 290, 396, 397, 398, 5, 399, 194, 195, 196, 197, 108, 109, 199, 200, 201, 202, 203, 166, 167, 168, 400, 401, 402, 403, 111, 113, 114, 115, 116, 117, 404, 405, 406, 407, 112, 119, 120, 121, 408, 409, 410, 411, 412, 110, 413, 414, 415, 416, 221, 222, 223, 224, 417, 418, 419, 420, 421, 422, 423, 424, 425, 426, 427, 118, 428, 429, 430, 431, 432, 433, 434, 435, 436, 437, 438, 542, 543, 544, 545, 546, 547, 548, 549, 944, 945, 946, 947, 1016, 1017, 1018, 1019, 1020, 1021, 1022, 1023, 1024, 1025, 1026, 1027, 1028, 1029, 1030, 1031, 1032, 1033, 1034, 1035, 1036, 1037, 1038, 1039, 1040, 1041, 1042, 1043, 1044] (by decide +kernel) (by decide +kernel)
set_option maxRecDepth 20000 in
theorem gL_law_X8_count : GoodIn wsL_law (wsV RL 155 RX8 yX8_count wsX8_count) := goodIn_app (goodIn_of _ (by decide +kernel)) ggL_law_X8_count
set_option maxRecDepth 20000 in
theorem ggL_law_X7_digest : GoodIn wsL_law wsX7_digest := goodIn_r _ [951, 952, 953, 19, 215, 954, 933, 934, 2, 935, 15, 130, 24, 238, 43, 28, 693, 44, 298, 299, 300, 301, 45, 32, 302, 303, 304, 31, 305, 78, 86, 85, 306, 307, 308, 309, 310, 311, 312, 79, 80, 81, 87, 313, 88, 314, 315, 316, 317, 318, 319, 320, 321, 322, 323, 324, 325, 326, 327, 328, 329, 330, 331, 332, 333, 334, 335, 336, 337, 338, 339, 340, 341, 342, 343, 344, 345, 89, 346, 347, 348, 349, 350, 351, 352, 353, 354, 355, 356, 357, 358, 359, 360, 361, 84, 362, 363, 364, 365, 366, 367, 368, 369, 82, 83, 507, 508, 509, 510, 511, 512, 513, 514, 515, 516, 517, 518, 519, 520, 521, 522, 523, 524, 525, 936, 937, 938, 939, 385, 371, 372, 373, 955, 186, 187, 188, 189, 146, 147, 14, 148, 53, 52, 149, 150, 151, 152, 153, 154, 956, 468, 469, 470, 297, 242, 243, 132, 133, 134, 471, 472, 473, 474, 475, 379, 380, 381, 382, 383, 384, 386, 375, 376, 377, 957, 451, 452, 453, 454, 455, 456, 457, 958, 959, 960, 961, 962, 205, 206, 207, 208, 209, 210, 211, 212, 213, 214, 963, 964, 965, 966, 967, 293, 294, 295, 296, 370, 374, 378, 387, 388, 389, 390, 968, 485, 486, 487, 488, 489, 490, 491, 492, 493, 494, 969, 970, 971, 972, 594, 595, 596, 597, 37, 20, 33, 598, 599, 600, 36, 601, 602, 603, 604, 605, 18, 606, 60, 57, 58, 59, 607, 608, 609, 610, 611, 612, 973, 974, 975, 976, 613, 614, 615, 616, 634, 635, 636, 637, 977, 734, 735, 736, 737, 738, 739, 740, 42, 715, 716, 717, 27, 718, 74, 72, 719, 71, 73, 720, 741, 742, 743, 744, 745, 746, 747, 748, 978, 774, 775, 776, 777, 778, 779, 780, 781, 979, 795, 796, 797, 798, 666, 667, 668, 669, 46, 41, 670, 671, 799, 800, 801, 802, 803, 804, 805, 806, 807, 808, 980, 504, 505, 506, 526, 527, 528, 529, 530, 531, 532, 533, 981, 559, 560, 561, 562, 563, 564, 565, 982, 575, 576, 577, 578, 579, 580, 581, 646, 647, 648, 649, 983, 659, 660, 661, 662, 663, 664, 665, 672, 673, 674, 675, 984, 712, 713, 714, 985, 826, 827, 828, 829, 830, 831, 832, 833, 834, 835, 836, 837, 838, 839, 1001, 1002, 1003, 1004, 1005, 1006, 1007, 1008, 1009, 1010, 1011, 1012, 1013, 1014, 1015, 1047, 1048, 1049, 1050, 1045, 1046, 1051, 1052, 1053, 1054, 1055, 1056, 1057, 1058, 1059, 1060, 1061, 1062, 1063, 1064, 1065, 1066, 1067, 1068, 1069, 1070, 1071, 1072, 1073] (by decide +kernel) (by decide +kernel)
set_option maxRecDepth 20000 in
theorem gL_law_X7_digest : GoodIn wsL_law (wsV RL 156 RX7 yX7_digest wsX7_digest) := goodIn_app (goodIn_of _ (by decide +kernel)) ggL_law_X7_digest
set_option maxRecDepth 20000 in
theorem ggL_law_X8_digest : GoodIn wsL_law wsX8_digest := goodIn_r _ [989, 990, 991, 198, 992, 941, 942, 5, 943, 165, 253, 125, 702, 290, 396, 397, 398, 399, 194, 195, 196, 197, 108, 109, 199, 200, 201, 202, 203, 166, 167, 168, 400, 401, 402, 403, 111, 113, 114, 115, 116, 117, 404, 405, 406, 407, 112, 119, 120, 121, 408, 409, 410, 411, 412, 110, 413, 414, 415, 416, 221, 222, 223, 224, 417, 418, 419, 420, 421, 422, 423, 424, 425, 426, 427, 118, 428, 429, 430, 431, 432, 433, 434, 435, 436, 437, 438, 542, 543, 544, 545, 546, 547, 548, 549, 944, 945, 946, 947, 480, 481, 482, 483, 443, 444, 445, 446, 447, 448, 449, 463, 464, 465, 466, 993, 994, 995, 996, 997, 998, 999, 1000, 439, 440, 441, 442, 499, 500, 501, 502, 621, 622, 623, 624, 625, 626, 627, 628, 629, 760, 761, 762, 763, 124, 729, 730, 731, 732, 122, 764, 765, 766, 767, 768, 769, 770, 771, 772, 786, 787, 788, 789, 790, 791, 792, 793, 814, 815, 816, 817, 818, 819, 820, 538, 539, 540, 541, 550, 551, 552, 553, 554, 555, 556, 557, 570, 571, 572, 573, 586, 587, 588, 589, 654, 655, 656, 657, 681, 682, 683, 684, 685, 686, 687, 688, 725, 726, 727, 728, 844, 845, 846, 847, 848, 849, 850, 851, 852, 853, 1016, 1017, 1018, 1019, 1020, 1021, 1022, 1023, 1024, 1025, 1026, 1027, 1028, 1029, 1030, 1031, 1032, 1033, 1034, 1035, 1036, 1037, 1038, 1039, 1040, 1041, 1042, 1043, 1044] (by decide +kernel) (by decide +kernel)
set_option maxRecDepth 20000 in
theorem gL_law_X8_digest : GoodIn wsL_law (wsV RL 160 RX8 yX8_digest wsX8_digest) := goodIn_app (goodIn_of _ (by decide +kernel)) ggL_law_X8_digest
theorem dL_law_0 : decode cL_law 0 = .ok (.new 7, 3) := by decide +kernel
theorem dL_law_3 : decode cL_law 3 = .ok (.dup, 1) := by decide +kernel
theorem dL_law_4 : decode cL_law 4 = .ok (.invokespecial 9, 3) := by decide +kernel
theorem dL_law_7 : decode cL_law 7 = .ok (.astore_n 1, 1) := by decide +kernel
theorem dL_law_8 : decode cL_law 8 = .ok (.new 10, 3) := by decide +kernel
theorem dL_law_11 : decode cL_law 11 = .ok (.dup, 1) := by decide +kernel
theorem dL_law_12 : decode cL_law 12 = .ok (.invokespecial 12, 3) := by decide +kernel
theorem dL_law_15 : decode cL_law 15 = .ok (.astore_n 2, 1) := by decide +kernel
theorem dL_law_16 : decode cL_law 16 = .ok (.iconst 0, 1) := by decide +kernel
theorem dL_law_17 : decode cL_law 17 = .ok (.istore_n 3, 1) := by decide +kernel
theorem dL_law_18 : decode cL_law 18 = .ok (.iload_n 3, 1) := by decide +kernel
theorem dL_law_19 : decode cL_law 19 = .ok (.aload_n 0, 1) := by decide +kernel
theorem dL_law_20 : decode cL_law 20 = .ok (.arraylength, 1) := by decide +kernel
theorem dL_law_21 : decode cL_law 21 = .ok (.bipush 6, 2) := by decide +kernel
theorem dL_law_23 : decode cL_law 23 = .ok (.isub, 1) := by decide +kernel
theorem dL_law_24 : decode cL_law 24 = .ok (.if_icmp .gt 1167, 3) := by decide +kernel
theorem dL_law_27 : decode cL_law 27 = .ok (.aload_n 0, 1) := by decide +kernel
theorem dL_law_28 : decode cL_law 28 = .ok (.iload_n 3, 1) := by decide +kernel
theorem dL_law_29 : decode cL_law 29 = .ok (.iaload, 1) := by decide +kernel
theorem dL_law_30 : decode cL_law 30 = .ok (.bipush 63, 2) := by decide +kernel
theorem dL_law_32 : decode cL_law 32 = .ok (.iand, 1) := by decide +kernel
theorem dL_law_33 : decode cL_law 33 = .ok (.tableswitch 1152 0 34 #[155, 178, 191, 204, 217, 250, 273, 316, 329, 352, 395, 428, 451, 484, 507, 520, 533, 566, 599, 622, 645, 688, 701, 714, 747, 770, 814, 857, 900, 923, 976, 1019, 1082, 1115, 1138], 155) := by decide +kernel
theorem dL_law_188 : decode cL_law 188 = .ok (.aload_n 1, 1) := by decide +kernel
theorem dL_law_189 : decode cL_law 189 = .ok (.aload_n 0, 1) := by decide +kernel
theorem dL_law_190 : decode cL_law 190 = .ok (.iload_n 3, 1) := by decide +kernel
theorem dL_law_191 : decode cL_law 191 = .ok (.iconst 1, 1) := by decide +kernel
theorem dL_law_192 : decode cL_law 192 = .ok (.iadd, 1) := by decide +kernel
theorem dL_law_193 : decode cL_law 193 = .ok (.iaload, 1) := by decide +kernel
theorem dL_law_194 : decode cL_law 194 = .ok (.invokevirtual 13, 3) := by decide +kernel
theorem dL_law_197 : decode cL_law 197 = .ok (.aload_n 2, 1) := by decide +kernel
theorem dL_law_198 : decode cL_law 198 = .ok (.aload_n 0, 1) := by decide +kernel
theorem dL_law_199 : decode cL_law 199 = .ok (.iload_n 3, 1) := by decide +kernel
theorem dL_law_200 : decode cL_law 200 = .ok (.iconst 1, 1) := by decide +kernel
theorem dL_law_201 : decode cL_law 201 = .ok (.iadd, 1) := by decide +kernel
theorem dL_law_202 : decode cL_law 202 = .ok (.iaload, 1) := by decide +kernel
theorem dL_law_203 : decode cL_law 203 = .ok (.invokevirtual 17, 3) := by decide +kernel
theorem dL_law_206 : decode cL_law 206 = .ok (.if_icmp .eq 979, 3) := by decide +kernel
theorem dL_law_209 : decode cL_law 209 = .ok (.iconst 0, 1) := by decide +kernel
theorem dL_law_210 : decode cL_law 210 = .ok (.ireturn, 1) := by decide +kernel
theorem dL_law_211 : decode cL_law 211 = .ok (.aload_n 1, 1) := by decide +kernel
theorem dL_law_212 : decode cL_law 212 = .ok (.invokevirtual 18, 3) := by decide +kernel
theorem dL_law_215 : decode cL_law 215 = .ok (.aload_n 2, 1) := by decide +kernel
theorem dL_law_216 : decode cL_law 216 = .ok (.invokevirtual 22, 3) := by decide +kernel
theorem dL_law_219 : decode cL_law 219 = .ok (.if_icmp .eq 966, 3) := by decide +kernel
theorem dL_law_222 : decode cL_law 222 = .ok (.iconst 0, 1) := by decide +kernel
theorem dL_law_223 : decode cL_law 223 = .ok (.ireturn, 1) := by decide +kernel
theorem dL_law_224 : decode cL_law 224 = .ok (.aload_n 1, 1) := by decide +kernel
theorem dL_law_225 : decode cL_law 225 = .ok (.invokevirtual 23, 3) := by decide +kernel
theorem dL_law_228 : decode cL_law 228 = .ok (.aload_n 2, 1) := by decide +kernel
theorem dL_law_229 : decode cL_law 229 = .ok (.invokevirtual 26, 3) := by decide +kernel
theorem dL_law_232 : decode cL_law 232 = .ok (.if_icmp .eq 953, 3) := by decide +kernel
theorem dL_law_235 : decode cL_law 235 = .ok (.iconst 0, 1) := by decide +kernel
theorem dL_law_236 : decode cL_law 236 = .ok (.ireturn, 1) := by decide +kernel
theorem dL_law_237 : decode cL_law 237 = .ok (.aload_n 1, 1) := by decide +kernel
theorem dL_law_238 : decode cL_law 238 = .ok (.invokevirtual 27, 3) := by decide +kernel
theorem dL_law_241 : decode cL_law 241 = .ok (.aload_n 2, 1) := by decide +kernel
theorem dL_law_242 : decode cL_law 242 = .ok (.invokevirtual 30, 3) := by decide +kernel
theorem dL_law_245 : decode cL_law 245 = .ok (.if_icmp .eq 940, 3) := by decide +kernel
theorem dL_law_248 : decode cL_law 248 = .ok (.iconst 0, 1) := by decide +kernel
theorem dL_law_249 : decode cL_law 249 = .ok (.ireturn, 1) := by decide +kernel
theorem dL_law_250 : decode cL_law 250 = .ok (.aload_n 1, 1) := by decide +kernel
theorem dL_law_251 : decode cL_law 251 = .ok (.aload_n 0, 1) := by decide +kernel
theorem dL_law_252 : decode cL_law 252 = .ok (.iload_n 3, 1) := by decide +kernel
theorem dL_law_253 : decode cL_law 253 = .ok (.iconst 1, 1) := by decide +kernel
theorem dL_law_254 : decode cL_law 254 = .ok (.iadd, 1) := by decide +kernel
theorem dL_law_255 : decode cL_law 255 = .ok (.iaload, 1) := by decide +kernel
theorem dL_law_256 : decode cL_law 256 = .ok (.aload_n 0, 1) := by decide +kernel
theorem dL_law_257 : decode cL_law 257 = .ok (.iload_n 3, 1) := by decide +kernel
theorem dL_law_258 : decode cL_law 258 = .ok (.iconst 2, 1) := by decide +kernel
theorem dL_law_259 : decode cL_law 259 = .ok (.iadd, 1) := by decide +kernel
theorem dL_law_260 : decode cL_law 260 = .ok (.iaload, 1) := by decide +kernel
theorem dL_law_261 : decode cL_law 261 = .ok (.invokevirtual 31, 3) := by decide +kernel
theorem dL_law_264 : decode cL_law 264 = .ok (.aload_n 2, 1) := by decide +kernel
theorem dL_law_265 : decode cL_law 265 = .ok (.aload_n 0, 1) := by decide +kernel
theorem dL_law_266 : decode cL_law 266 = .ok (.iload_n 3, 1) := by decide +kernel
theorem dL_law_267 : decode cL_law 267 = .ok (.iconst 1, 1) := by decide +kernel
theorem dL_law_268 : decode cL_law 268 = .ok (.iadd, 1) := by decide +kernel
theorem dL_law_269 : decode cL_law 269 = .ok (.iaload, 1) := by decide +kernel
theorem dL_law_270 : decode cL_law 270 = .ok (.aload_n 0, 1) := by decide +kernel
theorem dL_law_271 : decode cL_law 271 = .ok (.iload_n 3, 1) := by decide +kernel
theorem dL_law_272 : decode cL_law 272 = .ok (.iconst 2, 1) := by decide +kernel
theorem dL_law_273 : decode cL_law 273 = .ok (.iadd, 1) := by decide +kernel
theorem dL_law_274 : decode cL_law 274 = .ok (.iaload, 1) := by decide +kernel
theorem dL_law_275 : decode cL_law 275 = .ok (.invokevirtual 35, 3) := by decide +kernel
theorem dL_law_278 : decode cL_law 278 = .ok (.if_icmp .eq 907, 3) := by decide +kernel
theorem dL_law_281 : decode cL_law 281 = .ok (.iconst 0, 1) := by decide +kernel
theorem dL_law_282 : decode cL_law 282 = .ok (.ireturn, 1) := by decide +kernel
theorem dL_law_283 : decode cL_law 283 = .ok (.aload_n 1, 1) := by decide +kernel
theorem dL_law_284 : decode cL_law 284 = .ok (.aload_n 0, 1) := by decide +kernel
theorem dL_law_285 : decode cL_law 285 = .ok (.iload_n 3, 1) := by decide +kernel
theorem dL_law_286 : decode cL_law 286 = .ok (.iconst 1, 1) := by decide +kernel
theorem dL_law_287 : decode cL_law 287 = .ok (.iadd, 1) := by decide +kernel
theorem dL_law_288 : decode cL_law 288 = .ok (.iaload, 1) := by decide +kernel
theorem dL_law_289 : decode cL_law 289 = .ok (.invokevirtual 36, 3) := by decide +kernel
theorem dL_law_292 : decode cL_law 292 = .ok (.aload_n 2, 1) := by decide +kernel
theorem dL_law_293 : decode cL_law 293 = .ok (.aload_n 0, 1) := by decide +kernel
theorem dL_law_294 : decode cL_law 294 = .ok (.iload_n 3, 1) := by decide +kernel
theorem dL_law_295 : decode cL_law 295 = .ok (.iconst 1, 1) := by decide +kernel
theorem dL_law_296 : decode cL_law 296 = .ok (.iadd, 1) := by decide +kernel
theorem dL_law_297 : decode cL_law 297 = .ok (.iaload, 1) := by decide +kernel
theorem dL_law_298 : decode cL_law 298 = .ok (.invokevirtual 39, 3) := by decide +kernel
theorem dL_law_301 : decode cL_law 301 = .ok (.if_icmp .eq 884, 3) := by decide +kernel
theorem dL_law_304 : decode cL_law 304 = .ok (.iconst 0, 1) := by decide +kernel
theorem dL_law_305 : decode cL_law 305 = .ok (.ireturn, 1) := by decide +kernel
theorem dL_law_306 : decode cL_law 306 = .ok (.aload_n 1, 1) := by decide +kernel
theorem dL_law_307 : decode cL_law 307 = .ok (.aload_n 0, 1) := by decide +kernel
theorem dL_law_308 : decode cL_law 308 = .ok (.iload_n 3, 1) := by decide +kernel
theorem dL_law_309 : decode cL_law 309 = .ok (.iconst 1, 1) := by decide +kernel
theorem dL_law_310 : decode cL_law 310 = .ok (.iadd, 1) := by decide +kernel
theorem dL_law_311 : decode cL_law 311 = .ok (.iaload, 1) := by decide +kernel
theorem dL_law_312 : decode cL_law 312 = .ok (.aload_n 0, 1) := by decide +kernel
theorem dL_law_313 : decode cL_law 313 = .ok (.iload_n 3, 1) := by decide +kernel
theorem dL_law_314 : decode cL_law 314 = .ok (.iconst 2, 1) := by decide +kernel
theorem dL_law_315 : decode cL_law 315 = .ok (.iadd, 1) := by decide +kernel
theorem dL_law_316 : decode cL_law 316 = .ok (.iaload, 1) := by decide +kernel
theorem dL_law_317 : decode cL_law 317 = .ok (.aload_n 0, 1) := by decide +kernel
theorem dL_law_318 : decode cL_law 318 = .ok (.iload_n 3, 1) := by decide +kernel
theorem dL_law_319 : decode cL_law 319 = .ok (.iconst 3, 1) := by decide +kernel
theorem dL_law_320 : decode cL_law 320 = .ok (.iadd, 1) := by decide +kernel
theorem dL_law_321 : decode cL_law 321 = .ok (.iaload, 1) := by decide +kernel
theorem dL_law_322 : decode cL_law 322 = .ok (.invokevirtual 40, 3) := by decide +kernel
theorem dL_law_325 : decode cL_law 325 = .ok (.aload_n 2, 1) := by decide +kernel
theorem dL_law_326 : decode cL_law 326 = .ok (.aload_n 0, 1) := by decide +kernel
theorem dL_law_327 : decode cL_law 327 = .ok (.iload_n 3, 1) := by decide +kernel
theorem dL_law_328 : decode cL_law 328 = .ok (.iconst 1, 1) := by decide +kernel
theorem dL_law_329 : decode cL_law 329 = .ok (.iadd, 1) := by decide +kernel
theorem dL_law_330 : decode cL_law 330 = .ok (.iaload, 1) := by decide +kernel
theorem dL_law_331 : decode cL_law 331 = .ok (.aload_n 0, 1) := by decide +kernel
theorem dL_law_332 : decode cL_law 332 = .ok (.iload_n 3, 1) := by decide +kernel
theorem dL_law_333 : decode cL_law 333 = .ok (.iconst 2, 1) := by decide +kernel
theorem dL_law_334 : decode cL_law 334 = .ok (.iadd, 1) := by decide +kernel
theorem dL_law_335 : decode cL_law 335 = .ok (.iaload, 1) := by decide +kernel
theorem dL_law_336 : decode cL_law 336 = .ok (.aload_n 0, 1) := by decide +kernel
theorem dL_law_337 : decode cL_law 337 = .ok (.iload_n 3, 1) := by decide +kernel
theorem dL_law_338 : decode cL_law 338 = .ok (.iconst 3, 1) := by decide +kernel
theorem dL_law_339 : decode cL_law 339 = .ok (.iadd, 1) := by decide +kernel
theorem dL_law_340 : decode cL_law 340 = .ok (.iaload, 1) := by decide +kernel
theorem dL_law_341 : decode cL_law 341 = .ok (.invokevirtual 44, 3) := by decide +kernel
theorem dL_law_344 : decode cL_law 344 = .ok (.if_icmp .eq 841, 3) := by decide +kernel
theorem dL_law_347 : decode cL_law 347 = .ok (.iconst 0, 1) := by decide +kernel
theorem dL_law_348 : decode cL_law 348 = .ok (.ireturn, 1) := by decide +kernel
theorem dL_law_349 : decode cL_law 349 = .ok (.aload_n 1, 1) := by decide +kernel
theorem dL_law_350 : decode cL_law 350 = .ok (.invokevirtual 45, 3) := by decide +kernel
theorem dL_law_353 : decode cL_law 353 = .ok (.aload_n 2, 1) := by decide +kernel
theorem dL_law_354 : decode cL_law 354 = .ok (.invokevirtual 48, 3) := by decide +kernel
theorem dL_law_357 : decode cL_law 357 = .ok (.if_icmp .eq 828, 3) := by decide +kernel
theorem dL_law_360 : decode cL_law 360 = .ok (.iconst 0, 1) := by decide +kernel
theorem dL_law_361 : decode cL_law 361 = .ok (.ireturn, 1) := by decide +kernel
theorem dL_law_362 : decode cL_law 362 = .ok (.aload_n 1, 1) := by decide +kernel
theorem dL_law_363 : decode cL_law 363 = .ok (.aload_n 0, 1) := by decide +kernel
theorem dL_law_364 : decode cL_law 364 = .ok (.iload_n 3, 1) := by decide +kernel
theorem dL_law_365 : decode cL_law 365 = .ok (.iconst 1, 1) := by decide +kernel
theorem dL_law_366 : decode cL_law 366 = .ok (.iadd, 1) := by decide +kernel
theorem dL_law_367 : decode cL_law 367 = .ok (.iaload, 1) := by decide +kernel
theorem dL_law_368 : decode cL_law 368 = .ok (.invokevirtual 49, 3) := by decide +kernel
theorem dL_law_371 : decode cL_law 371 = .ok (.aload_n 2, 1) := by decide +kernel
theorem dL_law_372 : decode cL_law 372 = .ok (.aload_n 0, 1) := by decide +kernel
theorem dL_law_373 : decode cL_law 373 = .ok (.iload_n 3, 1) := by decide +kernel
theorem dL_law_374 : decode cL_law 374 = .ok (.iconst 1, 1) := by decide +kernel
theorem dL_law_375 : decode cL_law 375 = .ok (.iadd, 1) := by decide +kernel
theorem dL_law_376 : decode cL_law 376 = .ok (.iaload, 1) := by decide +kernel
theorem dL_law_377 : decode cL_law 377 = .ok (.invokevirtual 52, 3) := by decide +kernel
theorem dL_law_380 : decode cL_law 380 = .ok (.if_icmp .eq 805, 3) := by decide +kernel
theorem dL_law_383 : decode cL_law 383 = .ok (.iconst 0, 1) := by decide +kernel
theorem dL_law_384 : decode cL_law 384 = .ok (.ireturn, 1) := by decide +kernel
theorem dL_law_385 : decode cL_law 385 = .ok (.aload_n 1, 1) := by decide +kernel
theorem dL_law_386 : decode cL_law 386 = .ok (.aload_n 0, 1) := by decide +kernel
theorem dL_law_387 : decode cL_law 387 = .ok (.iload_n 3, 1) := by decide +kernel
theorem dL_law_388 : decode cL_law 388 = .ok (.iconst 1, 1) := by decide +kernel
theorem dL_law_389 : decode cL_law 389 = .ok (.iadd, 1) := by decide +kernel
theorem dL_law_390 : decode cL_law 390 = .ok (.iaload, 1) := by decide +kernel
theorem dL_law_391 : decode cL_law 391 = .ok (.aload_n 0, 1) := by decide +kernel
theorem dL_law_392 : decode cL_law 392 = .ok (.iload_n 3, 1) := by decide +kernel
theorem dL_law_393 : decode cL_law 393 = .ok (.iconst 2, 1) := by decide +kernel
theorem dL_law_394 : decode cL_law 394 = .ok (.iadd, 1) := by decide +kernel
theorem dL_law_395 : decode cL_law 395 = .ok (.iaload, 1) := by decide +kernel
theorem dL_law_396 : decode cL_law 396 = .ok (.aload_n 0, 1) := by decide +kernel
theorem dL_law_397 : decode cL_law 397 = .ok (.iload_n 3, 1) := by decide +kernel
theorem dL_law_398 : decode cL_law 398 = .ok (.iconst 3, 1) := by decide +kernel
theorem dL_law_399 : decode cL_law 399 = .ok (.iadd, 1) := by decide +kernel
theorem dL_law_400 : decode cL_law 400 = .ok (.iaload, 1) := by decide +kernel
theorem dL_law_401 : decode cL_law 401 = .ok (.invokevirtual 53, 3) := by decide +kernel
theorem dL_law_404 : decode cL_law 404 = .ok (.aload_n 2, 1) := by decide +kernel
theorem dL_law_405 : decode cL_law 405 = .ok (.aload_n 0, 1) := by decide +kernel
theorem dL_law_406 : decode cL_law 406 = .ok (.iload_n 3, 1) := by decide +kernel
theorem dL_law_407 : decode cL_law 407 = .ok (.iconst 1, 1) := by decide +kernel
theorem dL_law_408 : decode cL_law 408 = .ok (.iadd, 1) := by decide +kernel
theorem dL_law_409 : decode cL_law 409 = .ok (.iaload, 1) := by decide +kernel
theorem dL_law_410 : decode cL_law 410 = .ok (.aload_n 0, 1) := by decide +kernel
theorem dL_law_411 : decode cL_law 411 = .ok (.iload_n 3, 1) := by decide +kernel
theorem dL_law_412 : decode cL_law 412 = .ok (.iconst 2, 1) := by decide +kernel
theorem dL_law_413 : decode cL_law 413 = .ok (.iadd, 1) := by decide +kernel
theorem dL_law_414 : decode cL_law 414 = .ok (.iaload, 1) := by decide +kernel
theorem dL_law_415 : decode cL_law 415 = .ok (.aload_n 0, 1) := by decide +kernel
theorem dL_law_416 : decode cL_law 416 = .ok (.iload_n 3, 1) := by decide +kernel
theorem dL_law_417 : decode cL_law 417 = .ok (.iconst 3, 1) := by decide +kernel
theorem dL_law_418 : decode cL_law 418 = .ok (.iadd, 1) := by decide +kernel
theorem dL_law_419 : decode cL_law 419 = .ok (.iaload, 1) := by decide +kernel
theorem dL_law_420 : decode cL_law 420 = .ok (.invokevirtual 56, 3) := by decide +kernel
theorem dL_law_423 : decode cL_law 423 = .ok (.if_icmp .eq 762, 3) := by decide +kernel
theorem dL_law_426 : decode cL_law 426 = .ok (.iconst 0, 1) := by decide +kernel
theorem dL_law_427 : decode cL_law 427 = .ok (.ireturn, 1) := by decide +kernel
theorem dL_law_428 : decode cL_law 428 = .ok (.aload_n 1, 1) := by decide +kernel
theorem dL_law_429 : decode cL_law 429 = .ok (.aload_n 0, 1) := by decide +kernel
theorem dL_law_430 : decode cL_law 430 = .ok (.iload_n 3, 1) := by decide +kernel
theorem dL_law_431 : decode cL_law 431 = .ok (.iconst 1, 1) := by decide +kernel
theorem dL_law_432 : decode cL_law 432 = .ok (.iadd, 1) := by decide +kernel
theorem dL_law_433 : decode cL_law 433 = .ok (.iaload, 1) := by decide +kernel
theorem dL_law_434 : decode cL_law 434 = .ok (.aload_n 0, 1) := by decide +kernel
theorem dL_law_435 : decode cL_law 435 = .ok (.iload_n 3, 1) := by decide +kernel
theorem dL_law_436 : decode cL_law 436 = .ok (.iconst 2, 1) := by decide +kernel
theorem dL_law_437 : decode cL_law 437 = .ok (.iadd, 1) := by decide +kernel
theorem dL_law_438 : decode cL_law 438 = .ok (.iaload, 1) := by decide +kernel
theorem dL_law_439 : decode cL_law 439 = .ok (.invokevirtual 57, 3) := by decide +kernel
theorem dL_law_442 : decode cL_law 442 = .ok (.aload_n 2, 1) := by decide +kernel
theorem dL_law_443 : decode cL_law 443 = .ok (.aload_n 0, 1) := by decide +kernel
theorem dL_law_444 : decode cL_law 444 = .ok (.iload_n 3, 1) := by decide +kernel
theorem dL_law_445 : decode cL_law 445 = .ok (.iconst 1, 1) := by decide +kernel
theorem dL_law_446 : decode cL_law 446 = .ok (.iadd, 1) := by decide +kernel
theorem dL_law_447 : decode cL_law 447 = .ok (.iaload, 1) := by decide +kernel
theorem dL_law_448 : decode cL_law 448 = .ok (.aload_n 0, 1) := by decide +kernel
theorem dL_law_449 : decode cL_law 449 = .ok (.iload_n 3, 1) := by decide +kernel
theorem dL_law_450 : decode cL_law 450 = .ok (.iconst 2, 1) := by decide +kernel
theorem dL_law_451 : decode cL_law 451 = .ok (.iadd, 1) := by decide +kernel
theorem dL_law_452 : decode cL_law 452 = .ok (.iaload, 1) := by decide +kernel
theorem dL_law_453 : decode cL_law 453 = .ok (.invokevirtual 60, 3) := by decide +kernel
theorem dL_law_456 : decode cL_law 456 = .ok (.if_icmp .eq 729, 3) := by decide +kernel
theorem dL_law_459 : decode cL_law 459 = .ok (.iconst 0, 1) := by decide +kernel
theorem dL_law_460 : decode cL_law 460 = .ok (.ireturn, 1) := by decide +kernel
theorem dL_law_461 : decode cL_law 461 = .ok (.aload_n 1, 1) := by decide +kernel
theorem dL_law_462 : decode cL_law 462 = .ok (.aload_n 0, 1) := by decide +kernel
theorem dL_law_463 : decode cL_law 463 = .ok (.iload_n 3, 1) := by decide +kernel
theorem dL_law_464 : decode cL_law 464 = .ok (.iconst 1, 1) := by decide +kernel
theorem dL_law_465 : decode cL_law 465 = .ok (.iadd, 1) := by decide +kernel
theorem dL_law_466 : decode cL_law 466 = .ok (.iaload, 1) := by decide +kernel
theorem dL_law_467 : decode cL_law 467 = .ok (.invokevirtual 61, 3) := by decide +kernel
theorem dL_law_470 : decode cL_law 470 = .ok (.aload_n 2, 1) := by decide +kernel
theorem dL_law_471 : decode cL_law 471 = .ok (.aload_n 0, 1) := by decide +kernel
theorem dL_law_472 : decode cL_law 472 = .ok (.iload_n 3, 1) := by decide +kernel
theorem dL_law_473 : decode cL_law 473 = .ok (.iconst 1, 1) := by decide +kernel
theorem dL_law_474 : decode cL_law 474 = .ok (.iadd, 1) := by decide +kernel
theorem dL_law_475 : decode cL_law 475 = .ok (.iaload, 1) := by decide +kernel
theorem dL_law_476 : decode cL_law 476 = .ok (.invokevirtual 64, 3) := by decide +kernel
theorem dL_law_479 : decode cL_law 479 = .ok (.if_icmp .eq 706, 3) := by decide +kernel
theorem dL_law_482 : decode cL_law 482 = .ok (.iconst 0, 1) := by decide +kernel
theorem dL_law_483 : decode cL_law 483 = .ok (.ireturn, 1) := by decide +kernel
theorem dL_law_484 : decode cL_law 484 = .ok (.aload_n 1, 1) := by decide +kernel
theorem dL_law_485 : decode cL_law 485 = .ok (.aload_n 0, 1) := by decide +kernel
theorem dL_law_486 : decode cL_law 486 = .ok (.iload_n 3, 1) := by decide +kernel
theorem dL_law_487 : decode cL_law 487 = .ok (.iconst 1, 1) := by decide +kernel
theorem dL_law_488 : decode cL_law 488 = .ok (.iadd, 1) := by decide +kernel
theorem dL_law_489 : decode cL_law 489 = .ok (.iaload, 1) := by decide +kernel
theorem dL_law_490 : decode cL_law 490 = .ok (.aload_n 0, 1) := by decide +kernel
theorem dL_law_491 : decode cL_law 491 = .ok (.iload_n 3, 1) := by decide +kernel
theorem dL_law_492 : decode cL_law 492 = .ok (.iconst 2, 1) := by decide +kernel
theorem dL_law_493 : decode cL_law 493 = .ok (.iadd, 1) := by decide +kernel
theorem dL_law_494 : decode cL_law 494 = .ok (.iaload, 1) := by decide +kernel
theorem dL_law_495 : decode cL_law 495 = .ok (.invokevirtual 65, 3) := by decide +kernel
theorem dL_law_498 : decode cL_law 498 = .ok (.aload_n 2, 1) := by decide +kernel
theorem dL_law_499 : decode cL_law 499 = .ok (.aload_n 0, 1) := by decide +kernel
theorem dL_law_500 : decode cL_law 500 = .ok (.iload_n 3, 1) := by decide +kernel
theorem dL_law_501 : decode cL_law 501 = .ok (.iconst 1, 1) := by decide +kernel
theorem dL_law_502 : decode cL_law 502 = .ok (.iadd, 1) := by decide +kernel
theorem dL_law_503 : decode cL_law 503 = .ok (.iaload, 1) := by decide +kernel
theorem dL_law_504 : decode cL_law 504 = .ok (.aload_n 0, 1) := by decide +kernel
theorem dL_law_505 : decode cL_law 505 = .ok (.iload_n 3, 1) := by decide +kernel
theorem dL_law_506 : decode cL_law 506 = .ok (.iconst 2, 1) := by decide +kernel
theorem dL_law_507 : decode cL_law 507 = .ok (.iadd, 1) := by decide +kernel
theorem dL_law_508 : decode cL_law 508 = .ok (.iaload, 1) := by decide +kernel
theorem dL_law_509 : decode cL_law 509 = .ok (.invokevirtual 68, 3) := by decide +kernel
theorem dL_law_512 : decode cL_law 512 = .ok (.if_icmp .eq 673, 3) := by decide +kernel
theorem dL_law_515 : decode cL_law 515 = .ok (.iconst 0, 1) := by decide +kernel
theorem dL_law_516 : decode cL_law 516 = .ok (.ireturn, 1) := by decide +kernel
theorem dL_law_517 : decode cL_law 517 = .ok (.aload_n 1, 1) := by decide +kernel
theorem dL_law_518 : decode cL_law 518 = .ok (.aload_n 0, 1) := by decide +kernel
theorem dL_law_519 : decode cL_law 519 = .ok (.iload_n 3, 1) := by decide +kernel
theorem dL_law_520 : decode cL_law 520 = .ok (.iconst 1, 1) := by decide +kernel
theorem dL_law_521 : decode cL_law 521 = .ok (.iadd, 1) := by decide +kernel
theorem dL_law_522 : decode cL_law 522 = .ok (.iaload, 1) := by decide +kernel
theorem dL_law_523 : decode cL_law 523 = .ok (.invokevirtual 69, 3) := by decide +kernel
theorem dL_law_526 : decode cL_law 526 = .ok (.aload_n 2, 1) := by decide +kernel
theorem dL_law_527 : decode cL_law 527 = .ok (.aload_n 0, 1) := by decide +kernel
theorem dL_law_528 : decode cL_law 528 = .ok (.iload_n 3, 1) := by decide +kernel
theorem dL_law_529 : decode cL_law 529 = .ok (.iconst 1, 1) := by decide +kernel
theorem dL_law_530 : decode cL_law 530 = .ok (.iadd, 1) := by decide +kernel
theorem dL_law_531 : decode cL_law 531 = .ok (.iaload, 1) := by decide +kernel
theorem dL_law_532 : decode cL_law 532 = .ok (.invokevirtual 72, 3) := by decide +kernel
theorem dL_law_535 : decode cL_law 535 = .ok (.if_icmp .eq 650, 3) := by decide +kernel
theorem dL_law_538 : decode cL_law 538 = .ok (.iconst 0, 1) := by decide +kernel
theorem dL_law_539 : decode cL_law 539 = .ok (.ireturn, 1) := by decide +kernel
theorem dL_law_540 : decode cL_law 540 = .ok (.aload_n 1, 1) := by decide +kernel
theorem dL_law_541 : decode cL_law 541 = .ok (.invokevirtual 73, 3) := by decide +kernel
theorem dL_law_544 : decode cL_law 544 = .ok (.aload_n 2, 1) := by decide +kernel
theorem dL_law_545 : decode cL_law 545 = .ok (.invokevirtual 76, 3) := by decide +kernel
theorem dL_law_548 : decode cL_law 548 = .ok (.if_icmp .eq 637, 3) := by decide +kernel
theorem dL_law_551 : decode cL_law 551 = .ok (.iconst 0, 1) := by decide +kernel
theorem dL_law_552 : decode cL_law 552 = .ok (.ireturn, 1) := by decide +kernel
theorem dL_law_553 : decode cL_law 553 = .ok (.aload_n 1, 1) := by decide +kernel
theorem dL_law_554 : decode cL_law 554 = .ok (.invokevirtual 77, 3) := by decide +kernel
theorem dL_law_557 : decode cL_law 557 = .ok (.aload_n 2, 1) := by decide +kernel
theorem dL_law_558 : decode cL_law 558 = .ok (.invokevirtual 80, 3) := by decide +kernel
theorem dL_law_561 : decode cL_law 561 = .ok (.if_icmp .eq 624, 3) := by decide +kernel
theorem dL_law_564 : decode cL_law 564 = .ok (.iconst 0, 1) := by decide +kernel
theorem dL_law_565 : decode cL_law 565 = .ok (.ireturn, 1) := by decide +kernel
theorem dL_law_566 : decode cL_law 566 = .ok (.aload_n 1, 1) := by decide +kernel
theorem dL_law_567 : decode cL_law 567 = .ok (.aload_n 0, 1) := by decide +kernel
theorem dL_law_568 : decode cL_law 568 = .ok (.iload_n 3, 1) := by decide +kernel
theorem dL_law_569 : decode cL_law 569 = .ok (.iconst 1, 1) := by decide +kernel
theorem dL_law_570 : decode cL_law 570 = .ok (.iadd, 1) := by decide +kernel
theorem dL_law_571 : decode cL_law 571 = .ok (.iaload, 1) := by decide +kernel
theorem dL_law_572 : decode cL_law 572 = .ok (.aload_n 0, 1) := by decide +kernel
theorem dL_law_573 : decode cL_law 573 = .ok (.iload_n 3, 1) := by decide +kernel
theorem dL_law_574 : decode cL_law 574 = .ok (.iconst 2, 1) := by decide +kernel
theorem dL_law_575 : decode cL_law 575 = .ok (.iadd, 1) := by decide +kernel
theorem dL_law_576 : decode cL_law 576 = .ok (.iaload, 1) := by decide +kernel
theorem dL_law_577 : decode cL_law 577 = .ok (.invokevirtual 81, 3) := by decide +kernel
theorem dL_law_580 : decode cL_law 580 = .ok (.aload_n 2, 1) := by decide +kernel
theorem dL_law_581 : decode cL_law 581 = .ok (.aload_n 0, 1) := by decide +kernel
theorem dL_law_582 : decode cL_law 582 = .ok (.iload_n 3, 1) := by decide +kernel
theorem dL_law_583 : decode cL_law 583 = .ok (.iconst 1, 1) := by decide +kernel
theorem dL_law_584 : decode cL_law 584 = .ok (.iadd, 1) := by decide +kernel
theorem dL_law_585 : decode cL_law 585 = .ok (.iaload, 1) := by decide +kernel
theorem dL_law_586 : decode cL_law 586 = .ok (.aload_n 0, 1) := by decide +kernel
theorem dL_law_587 : decode cL_law 587 = .ok (.iload_n 3, 1) := by decide +kernel
theorem dL_law_588 : decode cL_law 588 = .ok (.iconst 2, 1) := by decide +kernel
theorem dL_law_589 : decode cL_law 589 = .ok (.iadd, 1) := by decide +kernel
theorem dL_law_590 : decode cL_law 590 = .ok (.iaload, 1) := by decide +kernel
theorem dL_law_591 : decode cL_law 591 = .ok (.invokevirtual 84, 3) := by decide +kernel
theorem dL_law_594 : decode cL_law 594 = .ok (.if_icmp .eq 591, 3) := by decide +kernel
theorem dL_law_597 : decode cL_law 597 = .ok (.iconst 0, 1) := by decide +kernel
theorem dL_law_598 : decode cL_law 598 = .ok (.ireturn, 1) := by decide +kernel
theorem dL_law_599 : decode cL_law 599 = .ok (.aload_n 1, 1) := by decide +kernel
theorem dL_law_600 : decode cL_law 600 = .ok (.aload_n 0, 1) := by decide +kernel
theorem dL_law_601 : decode cL_law 601 = .ok (.iload_n 3, 1) := by decide +kernel
theorem dL_law_602 : decode cL_law 602 = .ok (.iconst 1, 1) := by decide +kernel
theorem dL_law_603 : decode cL_law 603 = .ok (.iadd, 1) := by decide +kernel
theorem dL_law_604 : decode cL_law 604 = .ok (.iaload, 1) := by decide +kernel
theorem dL_law_605 : decode cL_law 605 = .ok (.aload_n 0, 1) := by decide +kernel
theorem dL_law_606 : decode cL_law 606 = .ok (.iload_n 3, 1) := by decide +kernel
theorem dL_law_607 : decode cL_law 607 = .ok (.iconst 2, 1) := by decide +kernel
theorem dL_law_608 : decode cL_law 608 = .ok (.iadd, 1) := by decide +kernel
theorem dL_law_609 : decode cL_law 609 = .ok (.iaload, 1) := by decide +kernel
theorem dL_law_610 : decode cL_law 610 = .ok (.invokevirtual 85, 3) := by decide +kernel
theorem dL_law_613 : decode cL_law 613 = .ok (.aload_n 2, 1) := by decide +kernel
theorem dL_law_614 : decode cL_law 614 = .ok (.aload_n 0, 1) := by decide +kernel
theorem dL_law_615 : decode cL_law 615 = .ok (.iload_n 3, 1) := by decide +kernel
theorem dL_law_616 : decode cL_law 616 = .ok (.iconst 1, 1) := by decide +kernel
theorem dL_law_617 : decode cL_law 617 = .ok (.iadd, 1) := by decide +kernel
theorem dL_law_618 : decode cL_law 618 = .ok (.iaload, 1) := by decide +kernel
theorem dL_law_619 : decode cL_law 619 = .ok (.aload_n 0, 1) := by decide +kernel
theorem dL_law_620 : decode cL_law 620 = .ok (.iload_n 3, 1) := by decide +kernel
theorem dL_law_621 : decode cL_law 621 = .ok (.iconst 2, 1) := by decide +kernel
theorem dL_law_622 : decode cL_law 622 = .ok (.iadd, 1) := by decide +kernel
theorem dL_law_623 : decode cL_law 623 = .ok (.iaload, 1) := by decide +kernel
theorem dL_law_624 : decode cL_law 624 = .ok (.invokevirtual 88, 3) := by decide +kernel
theorem dL_law_627 : decode cL_law 627 = .ok (.if_icmp .eq 558, 3) := by decide +kernel
theorem dL_law_630 : decode cL_law 630 = .ok (.iconst 0, 1) := by decide +kernel
theorem dL_law_631 : decode cL_law 631 = .ok (.ireturn, 1) := by decide +kernel
theorem dL_law_632 : decode cL_law 632 = .ok (.aload_n 1, 1) := by decide +kernel
theorem dL_law_633 : decode cL_law 633 = .ok (.aload_n 0, 1) := by decide +kernel
theorem dL_law_634 : decode cL_law 634 = .ok (.iload_n 3, 1) := by decide +kernel
theorem dL_law_635 : decode cL_law 635 = .ok (.iconst 1, 1) := by decide +kernel
theorem dL_law_636 : decode cL_law 636 = .ok (.iadd, 1) := by decide +kernel
theorem dL_law_637 : decode cL_law 637 = .ok (.iaload, 1) := by decide +kernel
theorem dL_law_638 : decode cL_law 638 = .ok (.invokevirtual 89, 3) := by decide +kernel
theorem dL_law_641 : decode cL_law 641 = .ok (.aload_n 2, 1) := by decide +kernel
theorem dL_law_642 : decode cL_law 642 = .ok (.aload_n 0, 1) := by decide +kernel
theorem dL_law_643 : decode cL_law 643 = .ok (.iload_n 3, 1) := by decide +kernel
theorem dL_law_644 : decode cL_law 644 = .ok (.iconst 1, 1) := by decide +kernel
theorem dL_law_645 : decode cL_law 645 = .ok (.iadd, 1) := by decide +kernel
theorem dL_law_646 : decode cL_law 646 = .ok (.iaload, 1) := by decide +kernel
theorem dL_law_647 : decode cL_law 647 = .ok (.invokevirtual 92, 3) := by decide +kernel
theorem dL_law_650 : decode cL_law 650 = .ok (.if_icmp .eq 535, 3) := by decide +kernel
theorem dL_law_653 : decode cL_law 653 = .ok (.iconst 0, 1) := by decide +kernel
theorem dL_law_654 : decode cL_law 654 = .ok (.ireturn, 1) := by decide +kernel
theorem dL_law_655 : decode cL_law 655 = .ok (.aload_n 1, 1) := by decide +kernel
theorem dL_law_656 : decode cL_law 656 = .ok (.aload_n 0, 1) := by decide +kernel
theorem dL_law_657 : decode cL_law 657 = .ok (.iload_n 3, 1) := by decide +kernel
theorem dL_law_658 : decode cL_law 658 = .ok (.iconst 1, 1) := by decide +kernel
theorem dL_law_659 : decode cL_law 659 = .ok (.iadd, 1) := by decide +kernel
theorem dL_law_660 : decode cL_law 660 = .ok (.iaload, 1) := by decide +kernel
theorem dL_law_661 : decode cL_law 661 = .ok (.invokevirtual 93, 3) := by decide +kernel
theorem dL_law_664 : decode cL_law 664 = .ok (.aload_n 2, 1) := by decide +kernel
theorem dL_law_665 : decode cL_law 665 = .ok (.aload_n 0, 1) := by decide +kernel
theorem dL_law_666 : decode cL_law 666 = .ok (.iload_n 3, 1) := by decide +kernel
theorem dL_law_667 : decode cL_law 667 = .ok (.iconst 1, 1) := by decide +kernel
theorem dL_law_668 : decode cL_law 668 = .ok (.iadd, 1) := by decide +kernel
theorem dL_law_669 : decode cL_law 669 = .ok (.iaload, 1) := by decide +kernel
theorem dL_law_670 : decode cL_law 670 = .ok (.invokevirtual 96, 3) := by decide +kernel
theorem dL_law_673 : decode cL_law 673 = .ok (.if_icmp .eq 512, 3) := by decide +kernel
theorem dL_law_676 : decode cL_law 676 = .ok (.iconst 0, 1) := by decide +kernel
theorem dL_law_677 : decode cL_law 677 = .ok (.ireturn, 1) := by decide +kernel
theorem dL_law_678 : decode cL_law 678 = .ok (.aload_n 1, 1) := by decide +kernel
theorem dL_law_679 : decode cL_law 679 = .ok (.aload_n 0, 1) := by decide +kernel
theorem dL_law_680 : decode cL_law 680 = .ok (.iload_n 3, 1) := by decide +kernel
theorem dL_law_681 : decode cL_law 681 = .ok (.iconst 1, 1) := by decide +kernel
theorem dL_law_682 : decode cL_law 682 = .ok (.iadd, 1) := by decide +kernel
theorem dL_law_683 : decode cL_law 683 = .ok (.iaload, 1) := by decide +kernel
theorem dL_law_684 : decode cL_law 684 = .ok (.aload_n 0, 1) := by decide +kernel
theorem dL_law_685 : decode cL_law 685 = .ok (.iload_n 3, 1) := by decide +kernel
theorem dL_law_686 : decode cL_law 686 = .ok (.iconst 2, 1) := by decide +kernel
theorem dL_law_687 : decode cL_law 687 = .ok (.iadd, 1) := by decide +kernel
theorem dL_law_688 : decode cL_law 688 = .ok (.iaload, 1) := by decide +kernel
theorem dL_law_689 : decode cL_law 689 = .ok (.aload_n 0, 1) := by decide +kernel
theorem dL_law_690 : decode cL_law 690 = .ok (.iload_n 3, 1) := by decide +kernel
theorem dL_law_691 : decode cL_law 691 = .ok (.iconst 3, 1) := by decide +kernel
theorem dL_law_692 : decode cL_law 692 = .ok (.iadd, 1) := by decide +kernel
theorem dL_law_693 : decode cL_law 693 = .ok (.iaload, 1) := by decide +kernel
theorem dL_law_694 : decode cL_law 694 = .ok (.invokevirtual 97, 3) := by decide +kernel
theorem dL_law_697 : decode cL_law 697 = .ok (.aload_n 2, 1) := by decide +kernel
theorem dL_law_698 : decode cL_law 698 = .ok (.aload_n 0, 1) := by decide +kernel
theorem dL_law_699 : decode cL_law 699 = .ok (.iload_n 3, 1) := by decide +kernel
theorem dL_law_700 : decode cL_law 700 = .ok (.iconst 1, 1) := by decide +kernel
theorem dL_law_701 : decode cL_law 701 = .ok (.iadd, 1) := by decide +kernel
theorem dL_law_702 : decode cL_law 702 = .ok (.iaload, 1) := by decide +kernel
theorem dL_law_703 : decode cL_law 703 = .ok (.aload_n 0, 1) := by decide +kernel
theorem dL_law_704 : decode cL_law 704 = .ok (.iload_n 3, 1) := by decide +kernel
theorem dL_law_705 : decode cL_law 705 = .ok (.iconst 2, 1) := by decide +kernel
theorem dL_law_706 : decode cL_law 706 = .ok (.iadd, 1) := by decide +kernel
theorem dL_law_707 : decode cL_law 707 = .ok (.iaload, 1) := by decide +kernel
theorem dL_law_708 : decode cL_law 708 = .ok (.aload_n 0, 1) := by decide +kernel
theorem dL_law_709 : decode cL_law 709 = .ok (.iload_n 3, 1) := by decide +kernel
theorem dL_law_710 : decode cL_law 710 = .ok (.iconst 3, 1) := by decide +kernel
theorem dL_law_711 : decode cL_law 711 = .ok (.iadd, 1) := by decide +kernel
theorem dL_law_712 : decode cL_law 712 = .ok (.iaload, 1) := by decide +kernel
theorem dL_law_713 : decode cL_law 713 = .ok (.invokevirtual 100, 3) := by decide +kernel
theorem dL_law_716 : decode cL_law 716 = .ok (.if_icmp .eq 469, 3) := by decide +kernel
theorem dL_law_719 : decode cL_law 719 = .ok (.iconst 0, 1) := by decide +kernel
theorem dL_law_720 : decode cL_law 720 = .ok (.ireturn, 1) := by decide +kernel
theorem dL_law_721 : decode cL_law 721 = .ok (.aload_n 1, 1) := by decide +kernel
theorem dL_law_722 : decode cL_law 722 = .ok (.invokevirtual 101, 3) := by decide +kernel
theorem dL_law_725 : decode cL_law 725 = .ok (.aload_n 2, 1) := by decide +kernel
theorem dL_law_726 : decode cL_law 726 = .ok (.invokevirtual 104, 3) := by decide +kernel
theorem dL_law_729 : decode cL_law 729 = .ok (.if_icmp .eq 456, 3) := by decide +kernel
theorem dL_law_732 : decode cL_law 732 = .ok (.iconst 0, 1) := by decide +kernel
theorem dL_law_733 : decode cL_law 733 = .ok (.ireturn, 1) := by decide +kernel
theorem dL_law_734 : decode cL_law 734 = .ok (.aload_n 1, 1) := by decide +kernel
theorem dL_law_735 : decode cL_law 735 = .ok (.invokevirtual 105, 3) := by decide +kernel
theorem dL_law_738 : decode cL_law 738 = .ok (.aload_n 2, 1) := by decide +kernel
theorem dL_law_739 : decode cL_law 739 = .ok (.invokevirtual 108, 3) := by decide +kernel
theorem dL_law_742 : decode cL_law 742 = .ok (.if_icmp .eq 443, 3) := by decide +kernel
theorem dL_law_745 : decode cL_law 745 = .ok (.iconst 0, 1) := by decide +kernel
theorem dL_law_746 : decode cL_law 746 = .ok (.ireturn, 1) := by decide +kernel
theorem dL_law_747 : decode cL_law 747 = .ok (.aload_n 1, 1) := by decide +kernel
theorem dL_law_748 : decode cL_law 748 = .ok (.aload_n 0, 1) := by decide +kernel
theorem dL_law_749 : decode cL_law 749 = .ok (.iload_n 3, 1) := by decide +kernel
theorem dL_law_750 : decode cL_law 750 = .ok (.iconst 1, 1) := by decide +kernel
theorem dL_law_751 : decode cL_law 751 = .ok (.iadd, 1) := by decide +kernel
theorem dL_law_752 : decode cL_law 752 = .ok (.iaload, 1) := by decide +kernel
theorem dL_law_753 : decode cL_law 753 = .ok (.aload_n 0, 1) := by decide +kernel
theorem dL_law_754 : decode cL_law 754 = .ok (.iload_n 3, 1) := by decide +kernel
theorem dL_law_755 : decode cL_law 755 = .ok (.iconst 2, 1) := by decide +kernel
theorem dL_law_756 : decode cL_law 756 = .ok (.iadd, 1) := by decide +kernel
theorem dL_law_757 : decode cL_law 757 = .ok (.iaload, 1) := by decide +kernel
theorem dL_law_758 : decode cL_law 758 = .ok (.invokevirtual 109, 3) := by decide +kernel
theorem dL_law_761 : decode cL_law 761 = .ok (.aload_n 2, 1) := by decide +kernel
theorem dL_law_762 : decode cL_law 762 = .ok (.aload_n 0, 1) := by decide +kernel
theorem dL_law_763 : decode cL_law 763 = .ok (.iload_n 3, 1) := by decide +kernel
theorem dL_law_764 : decode cL_law 764 = .ok (.iconst 1, 1) := by decide +kernel
theorem dL_law_765 : decode cL_law 765 = .ok (.iadd, 1) := by decide +kernel
theorem dL_law_766 : decode cL_law 766 = .ok (.iaload, 1) := by decide +kernel
theorem dL_law_767 : decode cL_law 767 = .ok (.aload_n 0, 1) := by decide +kernel
theorem dL_law_768 : decode cL_law 768 = .ok (.iload_n 3, 1) := by decide +kernel
theorem dL_law_769 : decode cL_law 769 = .ok (.iconst 2, 1) := by decide +kernel
theorem dL_law_770 : decode cL_law 770 = .ok (.iadd, 1) := by decide +kernel
theorem dL_law_771 : decode cL_law 771 = .ok (.iaload, 1) := by decide +kernel
theorem dL_law_772 : decode cL_law 772 = .ok (.invokevirtual 112, 3) := by decide +kernel
theorem dL_law_775 : decode cL_law 775 = .ok (.if_icmp .eq 410, 3) := by decide +kernel
theorem dL_law_778 : decode cL_law 778 = .ok (.iconst 0, 1) := by decide +kernel
theorem dL_law_779 : decode cL_law 779 = .ok (.ireturn, 1) := by decide +kernel
