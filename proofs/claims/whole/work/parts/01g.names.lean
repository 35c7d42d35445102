theorem dX8_liftBy_4 : decode cX8_liftBy 4 = .ok (.iconst 0, 1) := by decide +kernel
theorem dX8_liftBy_5 : decode cX8_liftBy 5 = .ok (.istore 4, 2) := by decide +kernel
theorem dX8_liftBy_7 : decode cX8_liftBy 7 = .ok (.iload 4, 2) := by decide +kernel
theorem dX8_liftBy_9 : decode cX8_liftBy 9 = .ok (.aload_n 0, 1) := by decide +kernel
theorem dX8_liftBy_10 : decode cX8_liftBy 10 = .ok (.getfield 114, 3) := by decide +kernel
theorem dX8_liftBy_13 : decode cX8_liftBy 13 = .ok (.if_icmp .ge 70, 3) := by decide +kernel
theorem dX8_liftBy_16 : decode cX8_liftBy 16 = .ok (.bipush 8, 2) := by decide +kernel
theorem dX8_liftBy_18 : decode cX8_liftBy 18 = .ok (.iload_n 1, 1) := by decide +kernel
theorem dX8_liftBy_19 : decode cX8_liftBy 19 = .ok (.imul, 1) := by decide +kernel
theorem dX8_liftBy_20 : decode cX8_liftBy 20 = .ok (.iload 4, 2) := by decide +kernel
theorem dX8_liftBy_22 : decode cX8_liftBy 22 = .ok (.iadd, 1) := by decide +kernel
theorem dX8_liftBy_23 : decode cX8_liftBy 23 = .ok (.istore 5, 2) := by decide +kernel
theorem dX8_liftBy_25 : decode cX8_liftBy 25 = .ok (.iload_n 2, 1) := by decide +kernel
theorem dX8_liftBy_26 : decode cX8_liftBy 26 = .ok (.aload_n 0, 1) := by decide +kernel
theorem dX8_liftBy_27 : decode cX8_liftBy 27 = .ok (.getfield 55, 3) := by decide +kernel
theorem dX8_liftBy_30 : decode cX8_liftBy 30 = .ok (.iload 5, 2) := by decide +kernel
theorem dX8_liftBy_32 : decode cX8_liftBy 32 = .ok (.iaload, 1) := by decide +kernel
theorem dX8_liftBy_33 : decode cX8_liftBy 33 = .ok (.ifCond .le 15, 3) := by decide +kernel
theorem dX8_liftBy_36 : decode cX8_liftBy 36 = .ok (.iconst 1, 1) := by decide +kernel
theorem dX8_liftBy_37 : decode cX8_liftBy 37 = .ok (.aload_n 0, 1) := by decide +kernel
theorem dX8_liftBy_38 : decode cX8_liftBy 38 = .ok (.getfield 55, 3) := by decide +kernel
theorem dX8_liftBy_41 : decode cX8_liftBy 41 = .ok (.iload 5, 2) := by decide +kernel
theorem dX8_liftBy_43 : decode cX8_liftBy 43 = .ok (.iaload, 1) := by decide +kernel
theorem dX8_liftBy_44 : decode cX8_liftBy 44 = .ok (.ishl, 1) := by decide +kernel
theorem dX8_liftBy_45 : decode cX8_liftBy 45 = .ok (.goto 4, 3) := by decide +kernel
theorem dX8_liftBy_48 : decode cX8_liftBy 48 = .ok (.iconst 0, 1) := by decide +kernel
theorem dX8_liftBy_49 : decode cX8_liftBy 49 = .ok (.ior, 1) := by decide +kernel
theorem dX8_liftBy_50 : decode cX8_liftBy 50 = .ok (.istore_n 2, 1) := by decide +kernel
theorem dX8_liftBy_51 : decode cX8_liftBy 51 = .ok (.iload_n 3, 1) := by decide +kernel
theorem dX8_liftBy_52 : decode cX8_liftBy 52 = .ok (.aload_n 0, 1) := by decide +kernel
theorem dX8_liftBy_53 : decode cX8_liftBy 53 = .ok (.iload 5, 2) := by decide +kernel
theorem dX8_liftBy_55 : decode cX8_liftBy 55 = .ok (.invokevirtual 184, 3) := by decide +kernel
theorem dX8_liftBy_58 : decode cX8_liftBy 58 = .ok (.iconst 1, 1) := by decide +kernel
theorem dX8_liftBy_59 : decode cX8_liftBy 59 = .ok (.if_icmp .ne 15, 3) := by decide +kernel
theorem dX8_liftBy_62 : decode cX8_liftBy 62 = .ok (.iconst 1, 1) := by decide +kernel
theorem dX8_liftBy_63 : decode cX8_liftBy 63 = .ok (.aload_n 0, 1) := by decide +kernel
theorem dX8_liftBy_64 : decode cX8_liftBy 64 = .ok (.getfield 55, 3) := by decide +kernel
theorem dX8_liftBy_67 : decode cX8_liftBy 67 = .ok (.iload 5, 2) := by decide +kernel
theorem dX8_liftBy_69 : decode cX8_liftBy 69 = .ok (.iaload, 1) := by decide +kernel
theorem dX8_liftBy_70 : decode cX8_liftBy 70 = .ok (.ishl, 1) := by decide +kernel
theorem dX8_liftBy_71 : decode cX8_liftBy 71 = .ok (.goto 4, 3) := by decide +kernel
theorem dX8_liftBy_74 : decode cX8_liftBy 74 = .ok (.iconst 0, 1) := by decide +kernel
theorem dX8_liftBy_75 : decode cX8_liftBy 75 = .ok (.ior, 1) := by decide +kernel
theorem dX8_liftBy_76 : decode cX8_liftBy 76 = .ok (.istore_n 3, 1) := by decide +kernel
theorem dX8_liftBy_77 : decode cX8_liftBy 77 = .ok (.iinc 4 1, 3) := by decide +kernel
theorem dX8_liftBy_80 : decode cX8_liftBy 80 = .ok (.goto (-73), 3) := by decide +kernel
theorem dX8_liftBy_83 : decode cX8_liftBy 83 = .ok (.iload_n 2, 1) := by decide +kernel
theorem dX8_liftBy_84 : decode cX8_liftBy 84 = .ok (.iload_n 3, 1) := by decide +kernel
theorem dX8_liftBy_85 : decode cX8_liftBy 85 = .ok (.iconst (-1), 1) := by decide +kernel
theorem dX8_liftBy_86 : decode cX8_liftBy 86 = .ok (.ixor, 1) := by decide +kernel
theorem dX8_liftBy_87 : decode cX8_liftBy 87 = .ok (.iand, 1) := by decide +kernel
theorem dX8_liftBy_88 : decode cX8_liftBy 88 = .ok (.ireturn, 1) := by decide +kernel
set_option maxRecDepth 20000 in
theorem ggX8_lift_X8_find : GoodIn wsX8_lift wsX8_find := goodIn_r _ [5, 6, 7, 8, 4, 9, 10, 11, 12, 13, 14, 15, 16, 17, 18, 19, 20, 21, 22, 23, 24, 25, 26, 27, 28, 29, 30, 31, 32, 33, 34, 35, 36, 37, 38, 39, 40, 41, 42, 43, 44, 45, 46, 47, 48, 49, 50, 51, 52, 53, 54, 55, 56, 57, 58, 59, 60, 61, 62, 63, 64, 65, 66, 67, 68, 69, 70, 71, 72, 73, 74, 75, 76, 77, 78, 94, 95, 96, 97, 98, 99, 100, 101, 102, 103, 104, 105, 106, 107, 108, 109, 110, 111, 112, 113, 114, 115, 116, 117, 118, 119, 120, 121, 122] (by decide +kernel) (by decide +kernel)
set_option maxRecDepth 20000 in
theorem gX8_lift_X8_find : GoodIn wsX8_lift (wsV RX8 187 RX8 yX8_find wsX8_find) := goodIn_app (goodIn_of _ (by decide +kernel)) ggX8_lift_X8_find
set_option maxRecDepth 20000 in
theorem ggX8_lift_X8_isMonth : GoodIn wsX8_lift wsX8_isMonth := goodIn_r _ [81, 82, 19, 20, 4, 21] (by decide +kernel) (by decide +kernel)
set_option maxRecDepth 20000 in
theorem gX8_lift_X8_isMonth : GoodIn wsX8_lift (va_wsS RX8 131 yX8_isMonth wsX8_isMonth) := goodIn_app (goodIn_of _ (by decide +kernel)) ggX8_lift_X8_isMonth
set_option maxRecDepth 20000 in
theorem ggX8_lift_X8_liftBy : GoodIn wsX8_lift wsX8_liftBy := goodIn_r _ [86, 10, 37, 87, 88, 89, 4, 90, 38, 91, 92, 93, 94, 95, 96, 97, 98, 99, 100, 101, 102, 103, 104, 105, 106, 107, 108, 109, 110, 111, 112, 113, 114, 115, 116, 117, 118, 119, 120, 121, 122] (by decide +kernel) (by decide +kernel)
set_option maxRecDepth 20000 in
theorem gX8_lift_X8_liftBy : GoodIn wsX8_lift (wsV RX8 198 RX8 yX8_liftBy wsX8_liftBy) := goodIn_app (goodIn_of _ (by decide +kernel)) ggX8_lift_X8_liftBy
theorem dX8_lift_0 : decode cX8_lift 0 = .ok (.aload_n 0, 1) := by decide +kernel
theorem dX8_lift_1 : decode cX8_lift 1 = .ok (.invokevirtual 187, 3) := by decide +kernel
theorem dX8_lift_4 : decode cX8_lift 4 = .ok (.iload_n 1, 1) := by decide +kernel
theorem dX8_lift_5 : decode cX8_lift 5 = .ok (.invokestatic 131, 3) := by decide +kernel
theorem dX8_lift_8 : decode cX8_lift 8 = .ok (.ifCond .eq 11, 3) := by decide +kernel
theorem dX8_lift_11 : decode cX8_lift 11 = .ok (.aload_n 0, 1) := by decide +kernel
theorem dX8_lift_12 : decode cX8_lift 12 = .ok (.iload_n 1, 1) := by decide +kernel
theorem dX8_lift_13 : decode cX8_lift 13 = .ok (.invokevirtual 198, 3) := by decide +kernel
theorem dX8_lift_16 : decode cX8_lift 16 = .ok (.goto 5, 3) := by decide +kernel
theorem dX8_lift_19 : decode cX8_lift 19 = .ok (.bipush (-2), 2) := by decide +kernel
theorem dX8_lift_21 : decode cX8_lift 21 = .ok (.ireturn, 1) := by decide +kernel
theorem dX8_endsBy_0 : decode cX8_endsBy 0 = .ok (.iload_n 2, 1) := by decide +kernel
theorem dX8_endsBy_1 : decode cX8_endsBy 1 = .ok (.ifCond .ne 12, 3) := by decide +kernel
theorem dX8_endsBy_4 : decode cX8_endsBy 4 = .ok (.aload_n 0, 1) := by decide +kernel
theorem dX8_endsBy_5 : decode cX8_endsBy 5 = .ok (.getfield 40, 3) := by decide +kernel
theorem dX8_endsBy_8 : decode cX8_endsBy 8 = .ok (.iload_n 1, 1) := by decide +kernel
theorem dX8_endsBy_9 : decode cX8_endsBy 9 = .ok (.iaload, 1) := by decide +kernel
theorem dX8_endsBy_10 : decode cX8_endsBy 10 = .ok (.goto 37, 3) := by decide +kernel
theorem dX8_endsBy_13 : decode cX8_endsBy 13 = .ok (.iload_n 2, 1) := by decide +kernel
theorem dX8_endsBy_14 : decode cX8_endsBy 14 = .ok (.iconst 1, 1) := by decide +kernel
theorem dX8_endsBy_15 : decode cX8_endsBy 15 = .ok (.if_icmp .ne 12, 3) := by decide +kernel
theorem dX8_endsBy_18 : decode cX8_endsBy 18 = .ok (.aload_n 0, 1) := by decide +kernel
theorem dX8_endsBy_19 : decode cX8_endsBy 19 = .ok (.getfield 43, 3) := by decide +kernel
theorem dX8_endsBy_22 : decode cX8_endsBy 22 = .ok (.iload_n 1, 1) := by decide +kernel
theorem dX8_endsBy_23 : decode cX8_endsBy 23 = .ok (.iaload, 1) := by decide +kernel
theorem dX8_endsBy_24 : decode cX8_endsBy 24 = .ok (.goto 23, 3) := by decide +kernel
theorem dX8_endsBy_27 : decode cX8_endsBy 27 = .ok (.iload_n 2, 1) := by decide +kernel
theorem dX8_endsBy_28 : decode cX8_endsBy 28 = .ok (.iconst 2, 1) := by decide +kernel
theorem dX8_endsBy_29 : decode cX8_endsBy 29 = .ok (.if_icmp .ne 12, 3) := by decide +kernel
theorem dX8_endsBy_32 : decode cX8_endsBy 32 = .ok (.aload_n 0, 1) := by decide +kernel
theorem dX8_endsBy_33 : decode cX8_endsBy 33 = .ok (.getfield 46, 3) := by decide +kernel
theorem dX8_endsBy_36 : decode cX8_endsBy 36 = .ok (.iload_n 1, 1) := by decide +kernel
theorem dX8_endsBy_37 : decode cX8_endsBy 37 = .ok (.iaload, 1) := by decide +kernel
theorem dX8_endsBy_38 : decode cX8_endsBy 38 = .ok (.goto 9, 3) := by decide +kernel
theorem dX8_endsBy_41 : decode cX8_endsBy 41 = .ok (.aload_n 0, 1) := by decide +kernel
theorem dX8_endsBy_42 : decode cX8_endsBy 42 = .ok (.getfield 49, 3) := by decide +kernel
theorem dX8_endsBy_45 : decode cX8_endsBy 45 = .ok (.iload_n 1, 1) := by decide +kernel
theorem dX8_endsBy_46 : decode cX8_endsBy 46 = .ok (.iaload, 1) := by decide +kernel
theorem dX8_endsBy_47 : decode cX8_endsBy 47 = .ok (.ireturn, 1) := by decide +kernel
set_option maxRecDepth 20000 in
theorem ggX8_ends_X8_find : GoodIn wsX8_ends wsX8_find := goodIn_r _ [7, 8, 9, 10, 6, 11, 12, 13, 14, 15, 16, 17, 18, 19, 20, 21, 22, 23, 24, 25, 26, 27, 28, 29, 30, 31, 32, 33, 34, 35, 36, 37, 38, 39, 40, 41, 42, 43, 44, 45, 46, 47, 48, 49, 50, 51, 52, 53, 54, 55, 56, 57, 58, 59, 60, 61, 62, 63, 64, 65, 66, 67, 68, 69, 70, 71, 72, 73, 74, 75, 76, 77, 78, 79, 80, 85, 86, 87, 88, 89, 90, 91, 92, 93, 94, 95, 96, 97, 98, 99, 100, 101, 102, 103, 104, 105, 106, 107, 108, 109, 110, 111, 112, 113] (by decide +kernel) (by decide +kernel)
set_option maxRecDepth 20000 in
theorem gX8_ends_X8_find : GoodIn wsX8_ends (wsV RX8 187 RX8 yX8_find wsX8_find) := goodIn_app (goodIn_of _ (by decide +kernel)) ggX8_ends_X8_find
set_option maxRecDepth 20000 in
theorem ggX8_ends_X8_isTenant : GoodIn wsX8_ends wsX8_isTenant := goodIn_r _ [56, 12, 21, 22, 6, 23, 85, 86, 87, 88, 89, 90, 91, 92, 93, 94, 95, 96, 97, 98, 99, 100, 101, 102, 103, 104, 105, 106, 107, 108, 109, 110, 111, 112, 113] (by decide +kernel) (by decide +kernel)
set_option maxRecDepth 20000 in
theorem gX8_ends_X8_isTenant : GoodIn wsX8_ends (wsV RX8 126 RX8 yX8_isTenant wsX8_isTenant) := goodIn_app (goodIn_of _ (by decide +kernel)) ggX8_ends_X8_isTenant
set_option maxRecDepth 20000 in
theorem ggX8_ends_X8_in : GoodIn wsX8_ends wsX8_in := goodIn_r _ [23] (by decide +kernel) (by decide +kernel)
set_option maxRecDepth 20000 in
theorem gX8_ends_X8_in : GoodIn wsX8_ends (va_wsS RX8 77 yX8_in wsX8_in) := goodIn_app (goodIn_of _ (by decide +kernel)) ggX8_ends_X8_in
set_option maxRecDepth 20000 in
theorem ggX8_ends_X8_endsBy : GoodIn wsX8_ends wsX8_endsBy := goodIn_r _ [84, 30, 31, 32, 33, 85, 86, 87, 88, 89, 90, 91, 92, 93, 94, 95, 96, 97, 98, 99, 100, 101, 102, 103, 104, 105, 106, 107, 108, 109, 110, 111, 112, 113] (by decide +kernel) (by decide +kernel)
set_option maxRecDepth 20000 in
theorem gX8_ends_X8_endsBy : GoodIn wsX8_ends (wsV RX8 201 RX8 yX8_endsBy wsX8_endsBy) := goodIn_app (goodIn_of _ (by decide +kernel)) ggX8_ends_X8_endsBy
theorem dX8_ends_0 : decode cX8_ends 0 = .ok (.aload_n 0, 1) := by decide +kernel
theorem dX8_ends_1 : decode cX8_ends 1 = .ok (.invokevirtual 187, 3) := by decide +kernel
theorem dX8_ends_4 : decode cX8_ends 4 = .ok (.aload_n 0, 1) := by decide +kernel
theorem dX8_ends_5 : decode cX8_ends 5 = .ok (.iload_n 1, 1) := by decide +kernel
theorem dX8_ends_6 : decode cX8_ends 6 = .ok (.invokevirtual 126, 3) := by decide +kernel
theorem dX8_ends_9 : decode cX8_ends 9 = .ok (.ifCond .eq 24, 3) := by decide +kernel
theorem dX8_ends_12 : decode cX8_ends 12 = .ok (.iload_n 2, 1) := by decide +kernel
theorem dX8_ends_13 : decode cX8_ends 13 = .ok (.i2l, 1) := by decide +kernel
theorem dX8_ends_14 : decode cX8_ends 14 = .ok (.lconst 0, 1) := by decide +kernel
theorem dX8_ends_15 : decode cX8_ends 15 = .ok (.ldc2_w 84, 3) := by decide +kernel
theorem dX8_ends_18 : decode cX8_ends 18 = .ok (.invokestatic 77, 3) := by decide +kernel
theorem dX8_ends_21 : decode cX8_ends 21 = .ok (.ifCond .eq 12, 3) := by decide +kernel
theorem dX8_ends_24 : decode cX8_ends 24 = .ok (.aload_n 0, 1) := by decide +kernel
theorem dX8_ends_25 : decode cX8_ends 25 = .ok (.iload_n 1, 1) := by decide +kernel
theorem dX8_ends_26 : decode cX8_ends 26 = .ok (.iload_n 2, 1) := by decide +kernel
theorem dX8_ends_27 : decode cX8_ends 27 = .ok (.invokevirtual 201, 3) := by decide +kernel
theorem dX8_ends_30 : decode cX8_ends 30 = .ok (.goto 5, 3) := by decide +kernel
theorem dX8_ends_33 : decode cX8_ends 33 = .ok (.ldc 104, 2) := by decide +kernel
theorem dX8_ends_35 : decode cX8_ends 35 = .ok (.ireturn, 1) := by decide +kernel
theorem dX8_manySettled_0 : decode cX8_manySettled 0 = .ok (.iconst 0, 1) := by decide +kernel
theorem dX8_manySettled_1 : decode cX8_manySettled 1 = .ok (.istore_n 1, 1) := by decide +kernel
theorem dX8_manySettled_2 : decode cX8_manySettled 2 = .ok (.iconst 0, 1) := by decide +kernel
theorem dX8_manySettled_3 : decode cX8_manySettled 3 = .ok (.istore_n 2, 1) := by decide +kernel
theorem dX8_manySettled_4 : decode cX8_manySettled 4 = .ok (.iload_n 2, 1) := by decide +kernel
theorem dX8_manySettled_5 : decode cX8_manySettled 5 = .ok (.aload_n 0, 1) := by decide +kernel
theorem dX8_manySettled_6 : decode cX8_manySettled 6 = .ok (.getfield 114, 3) := by decide +kernel
theorem dX8_manySettled_9 : decode cX8_manySettled 9 = .ok (.if_icmp .ge 27, 3) := by decide +kernel
theorem dX8_manySettled_12 : decode cX8_manySettled 12 = .ok (.iload_n 1, 1) := by decide +kernel
theorem dX8_manySettled_13 : decode cX8_manySettled 13 = .ok (.aload_n 0, 1) := by decide +kernel
theorem dX8_manySettled_14 : decode cX8_manySettled 14 = .ok (.getfield 40, 3) := by decide +kernel
theorem dX8_manySettled_17 : decode cX8_manySettled 17 = .ok (.iload_n 2, 1) := by decide +kernel
theorem dX8_manySettled_18 : decode cX8_manySettled 18 = .ok (.iaload, 1) := by decide +kernel
theorem dX8_manySettled_19 : decode cX8_manySettled 19 = .ok (.iconst (-1), 1) := by decide +kernel
theorem dX8_manySettled_20 : decode cX8_manySettled 20 = .ok (.if_icmp .eq 7, 3) := by decide +kernel
theorem dX8_manySettled_23 : decode cX8_manySettled 23 = .ok (.iconst 1, 1) := by decide +kernel
theorem dX8_manySettled_24 : decode cX8_manySettled 24 = .ok (.goto 4, 3) := by decide +kernel
theorem dX8_manySettled_27 : decode cX8_manySettled 27 = .ok (.iconst 0, 1) := by decide +kernel
theorem dX8_manySettled_28 : decode cX8_manySettled 28 = .ok (.iadd, 1) := by decide +kernel
theorem dX8_manySettled_29 : decode cX8_manySettled 29 = .ok (.istore_n 1, 1) := by decide +kernel
theorem dX8_manySettled_30 : decode cX8_manySettled 30 = .ok (.iinc 2 1, 3) := by decide +kernel
theorem dX8_manySettled_33 : decode cX8_manySettled 33 = .ok (.goto (-29), 3) := by decide +kernel
theorem dX8_manySettled_36 : decode cX8_manySettled 36 = .ok (.iload_n 1, 1) := by decide +kernel
theorem dX8_manySettled_37 : decode cX8_manySettled 37 = .ok (.ireturn, 1) := by decide +kernel
theorem dX8_allFell_0 : decode cX8_allFell 0 = .ok (.iconst 0, 1) := by decide +kernel
theorem dX8_allFell_1 : decode cX8_allFell 1 = .ok (.istore_n 1, 1) := by decide +kernel
theorem dX8_allFell_2 : decode cX8_allFell 2 = .ok (.iconst 0, 1) := by decide +kernel
theorem dX8_allFell_3 : decode cX8_allFell 3 = .ok (.istore_n 2, 1) := by decide +kernel
theorem dX8_allFell_4 : decode cX8_allFell 4 = .ok (.iload_n 2, 1) := by decide +kernel
theorem dX8_allFell_5 : decode cX8_allFell 5 = .ok (.aload_n 0, 1) := by decide +kernel
theorem dX8_allFell_6 : decode cX8_allFell 6 = .ok (.getfield 114, 3) := by decide +kernel
theorem dX8_allFell_9 : decode cX8_allFell 9 = .ok (.if_icmp .ge 18, 3) := by decide +kernel
theorem dX8_allFell_12 : decode cX8_allFell 12 = .ok (.iload_n 1, 1) := by decide +kernel
theorem dX8_allFell_13 : decode cX8_allFell 13 = .ok (.aload_n 0, 1) := by decide +kernel
theorem dX8_allFell_14 : decode cX8_allFell 14 = .ok (.getfield 43, 3) := by decide +kernel
theorem dX8_allFell_17 : decode cX8_allFell 17 = .ok (.iload_n 2, 1) := by decide +kernel
theorem dX8_allFell_18 : decode cX8_allFell 18 = .ok (.iaload, 1) := by decide +kernel
theorem dX8_allFell_19 : decode cX8_allFell 19 = .ok (.iadd, 1) := by decide +kernel
theorem dX8_allFell_20 : decode cX8_allFell 20 = .ok (.istore_n 1, 1) := by decide +kernel
theorem dX8_allFell_21 : decode cX8_allFell 21 = .ok (.iinc 2 1, 3) := by decide +kernel
theorem dX8_allFell_24 : decode cX8_allFell 24 = .ok (.goto (-20), 3) := by decide +kernel
theorem dX8_allFell_27 : decode cX8_allFell 27 = .ok (.iload_n 1, 1) := by decide +kernel
theorem dX8_allFell_28 : decode cX8_allFell 28 = .ok (.ireturn, 1) := by decide +kernel
theorem dX8_allPast_0 : decode cX8_allPast 0 = .ok (.iconst 0, 1) := by decide +kernel
theorem dX8_allPast_1 : decode cX8_allPast 1 = .ok (.istore_n 1, 1) := by decide +kernel
theorem dX8_allPast_2 : decode cX8_allPast 2 = .ok (.iconst 0, 1) := by decide +kernel
theorem dX8_allPast_3 : decode cX8_allPast 3 = .ok (.istore_n 2, 1) := by decide +kernel
theorem dX8_allPast_4 : decode cX8_allPast 4 = .ok (.iload_n 2, 1) := by decide +kernel
theorem dX8_allPast_5 : decode cX8_allPast 5 = .ok (.aload_n 0, 1) := by decide +kernel
theorem dX8_allPast_6 : decode cX8_allPast 6 = .ok (.getfield 114, 3) := by decide +kernel
theorem dX8_allPast_9 : decode cX8_allPast 9 = .ok (.if_icmp .ge 18, 3) := by decide +kernel
theorem dX8_allPast_12 : decode cX8_allPast 12 = .ok (.iload_n 1, 1) := by decide +kernel
theorem dX8_allPast_13 : decode cX8_allPast 13 = .ok (.aload_n 0, 1) := by decide +kernel
theorem dX8_allPast_14 : decode cX8_allPast 14 = .ok (.getfield 46, 3) := by decide +kernel
theorem dX8_allPast_17 : decode cX8_allPast 17 = .ok (.iload_n 2, 1) := by decide +kernel
theorem dX8_allPast_18 : decode cX8_allPast 18 = .ok (.iaload, 1) := by decide +kernel
theorem dX8_allPast_19 : decode cX8_allPast 19 = .ok (.iadd, 1) := by decide +kernel
theorem dX8_allPast_20 : decode cX8_allPast 20 = .ok (.istore_n 1, 1) := by decide +kernel
theorem dX8_allPast_21 : decode cX8_allPast 21 = .ok (.iinc 2 1, 3) := by decide +kernel
theorem dX8_allPast_24 : decode cX8_allPast 24 = .ok (.goto (-20), 3) := by decide +kernel
theorem dX8_allPast_27 : decode cX8_allPast 27 = .ok (.iload_n 1, 1) := by decide +kernel
theorem dX8_allPast_28 : decode cX8_allPast 28 = .ok (.ireturn, 1) := by decide +kernel
set_option maxRecDepth 20000 in
theorem ggX8_allOwed_X8_owes : GoodIn wsX8_allOwed wsX8_owes := goodIn_r _ [6, 7, 8, 9, 10, 5, 11, 12, 13, 14, 15, 16, 17, 18, 19, 20, 21, 22, 23, 24, 25, 26, 27, 28, 29, 30, 31, 32, 33, 34, 35, 36, 37, 38, 39, 40] (by decide +kernel) (by decide +kernel)
set_option maxRecDepth 20000 in
theorem gX8_allOwed_X8_owes : GoodIn wsX8_allOwed (wsV RX8 184 RX8 yX8_owes wsX8_owes) := goodIn_app (goodIn_of _ (by decide +kernel)) ggX8_allOwed_X8_owes
theorem dX8_allOwed_0 : decode cX8_allOwed 0 = .ok (.iconst 0, 1) := by decide +kernel
theorem dX8_allOwed_1 : decode cX8_allOwed 1 = .ok (.istore_n 1, 1) := by decide +kernel
theorem dX8_allOwed_2 : decode cX8_allOwed 2 = .ok (.iconst 0, 1) := by decide +kernel
theorem dX8_allOwed_3 : decode cX8_allOwed 3 = .ok (.istore_n 2, 1) := by decide +kernel
theorem dX8_allOwed_4 : decode cX8_allOwed 4 = .ok (.iload_n 2, 1) := by decide +kernel
theorem dX8_allOwed_5 : decode cX8_allOwed 5 = .ok (.bipush 24, 2) := by decide +kernel
theorem dX8_allOwed_7 : decode cX8_allOwed 7 = .ok (.if_icmp .ge 38, 3) := by decide +kernel
theorem dX8_allOwed_10 : decode cX8_allOwed 10 = .ok (.iconst 0, 1) := by decide +kernel
theorem dX8_allOwed_11 : decode cX8_allOwed 11 = .ok (.istore_n 3, 1) := by decide +kernel
theorem dX8_allOwed_12 : decode cX8_allOwed 12 = .ok (.iload_n 3, 1) := by decide +kernel
theorem dX8_allOwed_13 : decode cX8_allOwed 13 = .ok (.aload_n 0, 1) := by decide +kernel
theorem dX8_allOwed_14 : decode cX8_allOwed 14 = .ok (.getfield 114, 3) := by decide +kernel
theorem dX8_allOwed_17 : decode cX8_allOwed 17 = .ok (.if_icmp .ge 22, 3) := by decide +kernel
theorem dX8_allOwed_20 : decode cX8_allOwed 20 = .ok (.iload_n 1, 1) := by decide +kernel
theorem dX8_allOwed_21 : decode cX8_allOwed 21 = .ok (.aload_n 0, 1) := by decide +kernel
theorem dX8_allOwed_22 : decode cX8_allOwed 22 = .ok (.bipush 8, 2) := by decide +kernel
theorem dX8_allOwed_24 : decode cX8_allOwed 24 = .ok (.iload_n 2, 1) := by decide +kernel
theorem dX8_allOwed_25 : decode cX8_allOwed 25 = .ok (.imul, 1) := by decide +kernel
theorem dX8_allOwed_26 : decode cX8_allOwed 26 = .ok (.iload_n 3, 1) := by decide +kernel
theorem dX8_allOwed_27 : decode cX8_allOwed 27 = .ok (.iadd, 1) := by decide +kernel
theorem dX8_allOwed_28 : decode cX8_allOwed 28 = .ok (.invokevirtual 184, 3) := by decide +kernel
theorem dX8_allOwed_31 : decode cX8_allOwed 31 = .ok (.iadd, 1) := by decide +kernel
theorem dX8_allOwed_32 : decode cX8_allOwed 32 = .ok (.istore_n 1, 1) := by decide +kernel
theorem dX8_allOwed_33 : decode cX8_allOwed 33 = .ok (.iinc 3 1, 3) := by decide +kernel
theorem dX8_allOwed_36 : decode cX8_allOwed 36 = .ok (.goto (-24), 3) := by decide +kernel
theorem dX8_allOwed_39 : decode cX8_allOwed 39 = .ok (.iinc 2 1, 3) := by decide +kernel
theorem dX8_allOwed_42 : decode cX8_allOwed 42 = .ok (.goto (-38), 3) := by decide +kernel
theorem dX8_allOwed_45 : decode cX8_allOwed 45 = .ok (.iload_n 1, 1) := by decide +kernel
theorem dX8_allOwed_46 : decode cX8_allOwed 46 = .ok (.ireturn, 1) := by decide +kernel
set_option maxRecDepth 20000 in
theorem ggX8_sumBy_X8_manySettled : GoodIn wsX8_sumBy wsX8_manySettled := goodIn_r _ [5, 6, 7, 31, 32, 33, 34, 35, 36, 37, 38, 39, 40, 41, 42, 43, 44, 45, 46, 47, 48, 49, 50, 51, 52, 53, 54, 55, 56, 57, 58, 59] (by decide +kernel) (by decide +kernel)
set_option maxRecDepth 20000 in
theorem gX8_sumBy_X8_manySettled : GoodIn wsX8_sumBy (wsV RX8 204 RX8 yX8_manySettled wsX8_manySettled) := goodIn_app (goodIn_of _ (by decide +kernel)) ggX8_sumBy_X8_manySettled
set_option maxRecDepth 20000 in
theorem ggX8_sumBy_X8_allFell : GoodIn wsX8_sumBy wsX8_allFell := goodIn_r _ [11, 6, 12, 31, 32, 33, 34, 35, 36, 37, 38, 39, 40, 41, 42, 43, 44, 45, 46, 47, 48, 49, 50, 51, 52, 53, 54, 55, 56, 57, 58, 59] (by decide +kernel) (by decide +kernel)
set_option maxRecDepth 20000 in
theorem gX8_sumBy_X8_allFell : GoodIn wsX8_sumBy (wsV RX8 207 RX8 yX8_allFell wsX8_allFell) := goodIn_app (goodIn_of _ (by decide +kernel)) ggX8_sumBy_X8_allFell
set_option maxRecDepth 20000 in
theorem ggX8_sumBy_X8_allPast : GoodIn wsX8_sumBy wsX8_allPast := goodIn_r _ [16, 6, 17, 31, 32, 33, 34, 35, 36, 37, 38, 39, 40, 41, 42, 43, 44, 45, 46, 47, 48, 49, 50, 51, 52, 53, 54, 55, 56, 57, 58, 59] (by decide +kernel) (by decide +kernel)
set_option maxRecDepth 20000 in
theorem gX8_sumBy_X8_allPast : GoodIn wsX8_sumBy (wsV RX8 210 RX8 yX8_allPast wsX8_allPast) := goodIn_app (goodIn_of _ (by decide +kernel)) ggX8_sumBy_X8_allPast
set_option maxRecDepth 20000 in
theorem ggX8_sumBy_X8_allOwed : GoodIn wsX8_sumBy wsX8_allOwed := goodIn_r _ [21, 6, 22, 23, 24, 4, 25, 26, 27, 28, 29, 30, 31, 32, 33, 34, 35, 36, 37, 38, 39, 40, 41, 42, 43, 44, 45, 46, 47, 48, 49, 50, 51, 52, 53, 54, 55, 56, 57, 58, 59] (by decide +kernel) (by decide +kernel)
set_option maxRecDepth 20000 in
theorem gX8_sumBy_X8_allOwed : GoodIn wsX8_sumBy (wsV RX8 213 RX8 yX8_allOwed wsX8_allOwed) := goodIn_app (goodIn_of _ (by decide +kernel)) ggX8_sumBy_X8_allOwed
theorem dX8_sumBy_0 : decode cX8_sumBy 0 = .ok (.iload_n 1, 1) := by decide +kernel
theorem dX8_sumBy_1 : decode cX8_sumBy 1 = .ok (.ifCond .ne 10, 3) := by decide +kernel
theorem dX8_sumBy_4 : decode cX8_sumBy 4 = .ok (.aload_n 0, 1) := by decide +kernel
theorem dX8_sumBy_5 : decode cX8_sumBy 5 = .ok (.invokevirtual 204, 3) := by decide +kernel
theorem dX8_sumBy_8 : decode cX8_sumBy 8 = .ok (.goto 31, 3) := by decide +kernel
theorem dX8_sumBy_11 : decode cX8_sumBy 11 = .ok (.iload_n 1, 1) := by decide +kernel
theorem dX8_sumBy_12 : decode cX8_sumBy 12 = .ok (.iconst 1, 1) := by decide +kernel
theorem dX8_sumBy_13 : decode cX8_sumBy 13 = .ok (.if_icmp .ne 10, 3) := by decide +kernel
theorem dX8_sumBy_16 : decode cX8_sumBy 16 = .ok (.aload_n 0, 1) := by decide +kernel
theorem dX8_sumBy_17 : decode cX8_sumBy 17 = .ok (.invokevirtual 207, 3) := by decide +kernel
theorem dX8_sumBy_20 : decode cX8_sumBy 20 = .ok (.goto 19, 3) := by decide +kernel
theorem dX8_sumBy_23 : decode cX8_sumBy 23 = .ok (.iload_n 1, 1) := by decide +kernel
theorem dX8_sumBy_24 : decode cX8_sumBy 24 = .ok (.iconst 2, 1) := by decide +kernel
theorem dX8_sumBy_25 : decode cX8_sumBy 25 = .ok (.if_icmp .ne 10, 3) := by decide +kernel
theorem dX8_sumBy_28 : decode cX8_sumBy 28 = .ok (.aload_n 0, 1) := by decide +kernel
theorem dX8_sumBy_29 : decode cX8_sumBy 29 = .ok (.invokevirtual 210, 3) := by decide +kernel
theorem dX8_sumBy_32 : decode cX8_sumBy 32 = .ok (.goto 7, 3) := by decide +kernel
theorem dX8_sumBy_35 : decode cX8_sumBy 35 = .ok (.aload_n 0, 1) := by decide +kernel
theorem dX8_sumBy_36 : decode cX8_sumBy 36 = .ok (.invokevirtual 213, 3) := by decide +kernel
theorem dX8_sumBy_39 : decode cX8_sumBy 39 = .ok (.ireturn, 1) := by decide +kernel
set_option maxRecDepth 20000 in
theorem ggX8_sum_X8_find : GoodIn wsX8_sum wsX8_find := goodIn_r _ [6, 7, 8, 9, 5, 10, 11, 12, 13, 14, 15, 16, 17, 18, 19, 20, 21, 22, 23, 24, 25, 26, 27, 28, 29, 30, 31, 32, 33, 34, 35, 36, 37, 38, 39, 40, 41, 42, 43, 44, 45, 46, 47, 48, 49, 50, 51, 52, 53, 54, 55, 56, 57, 58, 59, 60, 61, 62, 63, 64, 65, 66, 67, 68, 69, 70, 71, 72, 73, 74, 75, 76, 77, 78, 79, 107, 108, 109, 110, 111, 112, 113, 114, 115, 116, 117, 118, 119, 120, 121, 122, 123, 124, 125, 126, 127, 128, 129, 130, 131, 132, 133, 134, 135] (by decide +kernel) (by decide +kernel)
set_option maxRecDepth 20000 in
theorem gX8_sum_X8_find : GoodIn wsX8_sum (wsV RX8 187 RX8 yX8_find wsX8_find) := goodIn_app (goodIn_of _ (by decide +kernel)) ggX8_sum_X8_find
set_option maxRecDepth 20000 in
theorem ggX8_sum_X8_in : GoodIn wsX8_sum wsX8_in := goodIn_r _ [22] (by decide +kernel) (by decide +kernel)
set_option maxRecDepth 20000 in
theorem gX8_sum_X8_in : GoodIn wsX8_sum (va_wsS RX8 77 yX8_in wsX8_in) := goodIn_app (goodIn_of _ (by decide +kernel)) ggX8_sum_X8_in
set_option maxRecDepth 20000 in
theorem ggX8_sum_X8_sumBy : GoodIn wsX8_sum wsX8_sumBy := goodIn_r _ [83, 84, 85, 86, 5, 87, 11, 29, 88, 89, 90, 91, 30, 92, 93, 94, 95, 31, 96, 97, 98, 99, 100, 101, 102, 103, 38, 39, 104, 105, 106, 107, 108, 109, 110, 111, 112, 113, 114, 115, 116, 117, 118, 119, 120, 121, 122, 123, 124, 125, 126, 127, 128, 129, 130, 131, 132, 133, 134, 135] (by decide +kernel) (by decide +kernel)
set_option maxRecDepth 20000 in
theorem gX8_sum_X8_sumBy : GoodIn wsX8_sum (wsV RX8 216 RX8 yX8_sumBy wsX8_sumBy) := goodIn_app (goodIn_of _ (by decide +kernel)) ggX8_sum_X8_sumBy
theorem dX8_sum_0 : decode cX8_sum 0 = .ok (.aload_n 0, 1) := by decide +kernel
theorem dX8_sum_1 : decode cX8_sum 1 = .ok (.invokevirtual 187, 3) := by decide +kernel
theorem dX8_sum_4 : decode cX8_sum 4 = .ok (.iload_n 1, 1) := by decide +kernel
theorem dX8_sum_5 : decode cX8_sum 5 = .ok (.i2l, 1) := by decide +kernel
theorem dX8_sum_6 : decode cX8_sum 6 = .ok (.lconst 0, 1) := by decide +kernel
theorem dX8_sum_7 : decode cX8_sum 7 = .ok (.ldc2_w 84, 3) := by decide +kernel
theorem dX8_sum_10 : decode cX8_sum 10 = .ok (.invokestatic 77, 3) := by decide +kernel
theorem dX8_sum_13 : decode cX8_sum 13 = .ok (.ifCond .eq 11, 3) := by decide +kernel
theorem dX8_sum_16 : decode cX8_sum 16 = .ok (.aload_n 0, 1) := by decide +kernel
theorem dX8_sum_17 : decode cX8_sum 17 = .ok (.iload_n 1, 1) := by decide +kernel
theorem dX8_sum_18 : decode cX8_sum 18 = .ok (.invokevirtual 216, 3) := by decide +kernel
theorem dX8_sum_21 : decode cX8_sum 21 = .ok (.goto 5, 3) := by decide +kernel
theorem dX8_sum_24 : decode cX8_sum 24 = .ok (.bipush (-2), 2) := by decide +kernel
theorem dX8_sum_26 : decode cX8_sum 26 = .ok (.ireturn, 1) := by decide +kernel
set_option maxRecDepth 20000 in
theorem ggX8_topNow_X8_greater : GoodIn wsX8_topNow wsX8_greater := goodIn_r _ [6] (by decide +kernel) (by decide +kernel)
set_option maxRecDepth 20000 in
theorem gX8_topNow_X8_greater : GoodIn wsX8_topNow (va_wsS RX8 172 yX8_greater wsX8_greater) := goodIn_app (goodIn_of _ (by decide +kernel)) ggX8_topNow_X8_greater
theorem dX8_topNow_0 : decode cX8_topNow 0 = .ok (.iconst (-1), 1) := by decide +kernel
theorem dX8_topNow_1 : decode cX8_topNow 1 = .ok (.istore_n 1, 1) := by decide +kernel
theorem dX8_topNow_2 : decode cX8_topNow 2 = .ok (.iconst (-1), 1) := by decide +kernel
theorem dX8_topNow_3 : decode cX8_topNow 3 = .ok (.istore_n 2, 1) := by decide +kernel
theorem dX8_topNow_4 : decode cX8_topNow 4 = .ok (.iconst 0, 1) := by decide +kernel
theorem dX8_topNow_5 : decode cX8_topNow 5 = .ok (.istore_n 3, 1) := by decide +kernel
theorem dX8_topNow_6 : decode cX8_topNow 6 = .ok (.iload_n 3, 1) := by decide +kernel
theorem dX8_topNow_7 : decode cX8_topNow 7 = .ok (.aload_n 0, 1) := by decide +kernel
theorem dX8_topNow_8 : decode cX8_topNow 8 = .ok (.getfield 114, 3) := by decide +kernel
theorem dX8_topNow_11 : decode cX8_topNow 11 = .ok (.if_icmp .ge 36, 3) := by decide +kernel
theorem dX8_topNow_14 : decode cX8_topNow 14 = .ok (.aload_n 0, 1) := by decide +kernel
theorem dX8_topNow_15 : decode cX8_topNow 15 = .ok (.getfield 31, 3) := by decide +kernel
theorem dX8_topNow_18 : decode cX8_topNow 18 = .ok (.iload_n 3, 1) := by decide +kernel
theorem dX8_topNow_19 : decode cX8_topNow 19 = .ok (.iaload, 1) := by decide +kernel
theorem dX8_topNow_20 : decode cX8_topNow 20 = .ok (.iload_n 2, 1) := by decide +kernel
theorem dX8_topNow_21 : decode cX8_topNow 21 = .ok (.if_icmp .le 7, 3) := by decide +kernel
theorem dX8_topNow_24 : decode cX8_topNow 24 = .ok (.iload_n 3, 1) := by decide +kernel
theorem dX8_topNow_25 : decode cX8_topNow 25 = .ok (.goto 4, 3) := by decide +kernel
theorem dX8_topNow_28 : decode cX8_topNow 28 = .ok (.iload_n 1, 1) := by decide +kernel
theorem dX8_topNow_29 : decode cX8_topNow 29 = .ok (.istore_n 1, 1) := by decide +kernel
theorem dX8_topNow_30 : decode cX8_topNow 30 = .ok (.aload_n 0, 1) := by decide +kernel
theorem dX8_topNow_31 : decode cX8_topNow 31 = .ok (.getfield 31, 3) := by decide +kernel
theorem dX8_topNow_34 : decode cX8_topNow 34 = .ok (.iload_n 3, 1) := by decide +kernel
theorem dX8_topNow_35 : decode cX8_topNow 35 = .ok (.iaload, 1) := by decide +kernel
theorem dX8_topNow_36 : decode cX8_topNow 36 = .ok (.iload_n 2, 1) := by decide +kernel
theorem dX8_topNow_37 : decode cX8_topNow 37 = .ok (.invokestatic 172, 3) := by decide +kernel
theorem dX8_topNow_40 : decode cX8_topNow 40 = .ok (.istore_n 2, 1) := by decide +kernel
theorem dX8_topNow_41 : decode cX8_topNow 41 = .ok (.iinc 3 1, 3) := by decide +kernel
theorem dX8_topNow_44 : decode cX8_topNow 44 = .ok (.goto (-38), 3) := by decide +kernel
theorem dX8_topNow_47 : decode cX8_topNow 47 = .ok (.iload_n 1, 1) := by decide +kernel
theorem dX8_topNow_48 : decode cX8_topNow 48 = .ok (.ireturn, 1) := by decide +kernel
set_option maxRecDepth 20000 in
theorem ggX8_top_X8_find : GoodIn wsX8_top wsX8_find := goodIn_r _ [5, 6, 7, 8, 4, 9, 10, 11, 12, 13, 14, 15, 16, 17, 18, 19, 20, 21, 22, 23, 24, 25, 26, 27, 28, 29, 30, 31, 32, 33, 34, 35, 36, 37, 38, 39, 40, 41, 42, 43, 44, 45, 46, 47, 48, 49, 50, 51, 52, 53, 54, 55, 56, 57, 58, 59, 60, 61, 62, 63, 64, 65, 66, 67, 68, 69, 70, 71, 72, 73, 74, 75, 76, 77, 78, 83, 84, 85, 86, 87, 88, 89, 90, 91, 92, 93, 94, 95, 96, 97, 98, 99, 100, 101, 102, 103, 104, 105, 106, 107, 108, 109, 110, 111] (by decide +kernel) (by decide +kernel)
set_option maxRecDepth 20000 in
theorem gX8_top_X8_find : GoodIn wsX8_top (wsV RX8 187 RX8 yX8_find wsX8_find) := goodIn_app (goodIn_of _ (by decide +kernel)) ggX8_top_X8_find
set_option maxRecDepth 20000 in
theorem ggX8_top_X8_topNow : GoodIn wsX8_top wsX8_topNow := goodIn_r _ [82, 10, 26, 76, 77, 4, 78, 83, 84, 85, 86, 87, 88, 89, 90, 91, 92, 93, 94, 95, 96, 97, 98, 99, 100, 101, 102, 103, 104, 105, 106, 107, 108, 109, 110, 111] (by decide +kernel) (by decide +kernel)
set_option maxRecDepth 20000 in
theorem gX8_top_X8_topNow : GoodIn wsX8_top (wsV RX8 219 RX8 yX8_topNow wsX8_topNow) := goodIn_app (goodIn_of _ (by decide +kernel)) ggX8_top_X8_topNow
theorem dX8_top_0 : decode cX8_top 0 = .ok (.aload_n 0, 1) := by decide +kernel
theorem dX8_top_1 : decode cX8_top 1 = .ok (.invokevirtual 187, 3) := by decide +kernel
theorem dX8_top_4 : decode cX8_top 4 = .ok (.aload_n 0, 1) := by decide +kernel
theorem dX8_top_5 : decode cX8_top 5 = .ok (.invokevirtual 219, 3) := by decide +kernel
theorem dX8_top_8 : decode cX8_top 8 = .ok (.ireturn, 1) := by decide +kernel
set_option maxRecDepth 20000 in
theorem ggX8_heardNow_X8_isIn : GoodIn wsX8_heardNow wsX8_isIn := goodIn_r _ [6] (by decide +kernel) (by decide +kernel)
set_option maxRecDepth 20000 in
theorem gX8_heardNow_X8_isIn : GoodIn wsX8_heardNow (va_wsS RX8 148 yX8_isIn wsX8_isIn) := goodIn_app (goodIn_of _ (by decide +kernel)) ggX8_heardNow_X8_isIn
theorem dX8_heardNow_0 : decode cX8_heardNow 0 = .ok (.iconst 0, 1) := by decide +kernel
theorem dX8_heardNow_1 : decode cX8_heardNow 1 = .ok (.istore_n 1, 1) := by decide +kernel
theorem dX8_heardNow_2 : decode cX8_heardNow 2 = .ok (.iconst 0, 1) := by decide +kernel
theorem dX8_heardNow_3 : decode cX8_heardNow 3 = .ok (.istore_n 2, 1) := by decide +kernel
theorem dX8_heardNow_4 : decode cX8_heardNow 4 = .ok (.iload_n 2, 1) := by decide +kernel
theorem dX8_heardNow_5 : decode cX8_heardNow 5 = .ok (.bipush 24, 2) := by decide +kernel
theorem dX8_heardNow_7 : decode cX8_heardNow 7 = .ok (.if_icmp .ge 54, 3) := by decide +kernel
theorem dX8_heardNow_10 : decode cX8_heardNow 10 = .ok (.iconst 0, 1) := by decide +kernel
theorem dX8_heardNow_11 : decode cX8_heardNow 11 = .ok (.istore_n 3, 1) := by decide +kernel
theorem dX8_heardNow_12 : decode cX8_heardNow 12 = .ok (.iload_n 3, 1) := by decide +kernel
theorem dX8_heardNow_13 : decode cX8_heardNow 13 = .ok (.aload_n 0, 1) := by decide +kernel
theorem dX8_heardNow_14 : decode cX8_heardNow 14 = .ok (.getfield 114, 3) := by decide +kernel
theorem dX8_heardNow_17 : decode cX8_heardNow 17 = .ok (.if_icmp .ge 38, 3) := by decide +kernel
theorem dX8_heardNow_20 : decode cX8_heardNow 20 = .ok (.aload_n 0, 1) := by decide +kernel
theorem dX8_heardNow_21 : decode cX8_heardNow 21 = .ok (.getfield 55, 3) := by decide +kernel
theorem dX8_heardNow_24 : decode cX8_heardNow 24 = .ok (.bipush 8, 2) := by decide +kernel
theorem dX8_heardNow_26 : decode cX8_heardNow 26 = .ok (.iload_n 2, 1) := by decide +kernel
theorem dX8_heardNow_27 : decode cX8_heardNow 27 = .ok (.imul, 1) := by decide +kernel
theorem dX8_heardNow_28 : decode cX8_heardNow 28 = .ok (.iload_n 3, 1) := by decide +kernel
theorem dX8_heardNow_29 : decode cX8_heardNow 29 = .ok (.iadd, 1) := by decide +kernel
theorem dX8_heardNow_30 : decode cX8_heardNow 30 = .ok (.iaload, 1) := by decide +kernel
theorem dX8_heardNow_31 : decode cX8_heardNow 31 = .ok (.istore 4, 2) := by decide +kernel
theorem dX8_heardNow_33 : decode cX8_heardNow 33 = .ok (.iload_n 1, 1) := by decide +kernel
theorem dX8_heardNow_34 : decode cX8_heardNow 34 = .ok (.iload 4, 2) := by decide +kernel
theorem dX8_heardNow_36 : decode cX8_heardNow 36 = .ok (.ifCond .le 10, 3) := by decide +kernel
theorem dX8_heardNow_39 : decode cX8_heardNow 39 = .ok (.iconst 1, 1) := by decide +kernel
theorem dX8_heardNow_40 : decode cX8_heardNow 40 = .ok (.iload 4, 2) := by decide +kernel
theorem dX8_heardNow_42 : decode cX8_heardNow 42 = .ok (.ishl, 1) := by decide +kernel
theorem dX8_heardNow_43 : decode cX8_heardNow 43 = .ok (.goto 4, 3) := by decide +kernel
theorem dX8_heardNow_46 : decode cX8_heardNow 46 = .ok (.iconst 0, 1) := by decide +kernel
theorem dX8_heardNow_47 : decode cX8_heardNow 47 = .ok (.ior, 1) := by decide +kernel
theorem dX8_heardNow_48 : decode cX8_heardNow 48 = .ok (.istore_n 1, 1) := by decide +kernel
theorem dX8_heardNow_49 : decode cX8_heardNow 49 = .ok (.iinc 3 1, 3) := by decide +kernel
theorem dX8_heardNow_52 : decode cX8_heardNow 52 = .ok (.goto (-40), 3) := by decide +kernel
theorem dX8_heardNow_55 : decode cX8_heardNow 55 = .ok (.iinc 2 1, 3) := by decide +kernel
theorem dX8_heardNow_58 : decode cX8_heardNow 58 = .ok (.goto (-54), 3) := by decide +kernel
theorem dX8_heardNow_61 : decode cX8_heardNow 61 = .ok (.iconst 0, 1) := by decide +kernel
theorem dX8_heardNow_62 : decode cX8_heardNow 62 = .ok (.istore_n 2, 1) := by decide +kernel
theorem dX8_heardNow_63 : decode cX8_heardNow 63 = .ok (.iconst 1, 1) := by decide +kernel
theorem dX8_heardNow_64 : decode cX8_heardNow 64 = .ok (.istore_n 3, 1) := by decide +kernel
theorem dX8_heardNow_65 : decode cX8_heardNow 65 = .ok (.iload_n 3, 1) := by decide +kernel
theorem dX8_heardNow_66 : decode cX8_heardNow 66 = .ok (.bipush 13, 2) := by decide +kernel
theorem dX8_heardNow_68 : decode cX8_heardNow 68 = .ok (.if_icmp .ge 33, 3) := by decide +kernel
theorem dX8_heardNow_71 : decode cX8_heardNow 71 = .ok (.iload_n 2, 1) := by decide +kernel
theorem dX8_heardNow_72 : decode cX8_heardNow 72 = .ok (.iload_n 1, 1) := by decide +kernel
theorem dX8_heardNow_73 : decode cX8_heardNow 73 = .ok (.iload_n 3, 1) := by decide +kernel
theorem dX8_heardNow_74 : decode cX8_heardNow 74 = .ok (.invokestatic 148, 3) := by decide +kernel
theorem dX8_heardNow_77 : decode cX8_heardNow 77 = .ok (.ifCond .ne 15, 3) := by decide +kernel
theorem dX8_heardNow_80 : decode cX8_heardNow 80 = .ok (.iload_n 1, 1) := by decide +kernel
theorem dX8_heardNow_81 : decode cX8_heardNow 81 = .ok (.iload_n 3, 1) := by decide +kernel
theorem dX8_heardNow_82 : decode cX8_heardNow 82 = .ok (.ishr, 1) := by decide +kernel
theorem dX8_heardNow_83 : decode cX8_heardNow 83 = .ok (.ifCond .eq 9, 3) := by decide +kernel
theorem dX8_heardNow_86 : decode cX8_heardNow 86 = .ok (.iconst 1, 1) := by decide +kernel
theorem dX8_heardNow_87 : decode cX8_heardNow 87 = .ok (.iload_n 3, 1) := by decide +kernel
theorem dX8_heardNow_88 : decode cX8_heardNow 88 = .ok (.ishl, 1) := by decide +kernel
theorem dX8_heardNow_89 : decode cX8_heardNow 89 = .ok (.goto 4, 3) := by decide +kernel
theorem dX8_heardNow_92 : decode cX8_heardNow 92 = .ok (.iconst 0, 1) := by decide +kernel
theorem dX8_heardNow_93 : decode cX8_heardNow 93 = .ok (.ior, 1) := by decide +kernel
theorem dX8_heardNow_94 : decode cX8_heardNow 94 = .ok (.istore_n 2, 1) := by decide +kernel
theorem dX8_heardNow_95 : decode cX8_heardNow 95 = .ok (.iinc 3 1, 3) := by decide +kernel
theorem dX8_heardNow_98 : decode cX8_heardNow 98 = .ok (.goto (-33), 3) := by decide +kernel
theorem dX8_heardNow_101 : decode cX8_heardNow 101 = .ok (.iload_n 2, 1) := by decide +kernel
theorem dX8_heardNow_102 : decode cX8_heardNow 102 = .ok (.ireturn, 1) := by decide +kernel
set_option maxRecDepth 20000 in
theorem ggX8_heard_X8_find : GoodIn wsX8_heard wsX8_find := goodIn_r _ [5, 6, 7, 8, 4, 9, 10, 11, 12, 13, 14, 15, 16, 17, 18, 19, 20, 21, 22, 23, 24, 25, 26, 27, 28, 29, 30, 31, 32, 33, 34, 35, 36, 37, 38, 39, 40, 41, 42, 43, 44, 45, 46, 47, 48, 49, 50, 51, 52, 53, 54, 55, 56, 57, 58, 59, 60, 61, 62, 63, 64, 65, 66, 67, 68, 69, 70, 71, 72, 73, 74, 75, 76, 77, 78, 83, 84, 85, 86, 87, 88, 89, 90, 91, 92, 93, 94, 95, 96, 97, 98, 99, 100, 101, 102, 103, 104, 105, 106, 107, 108, 109, 110, 111] (by decide +kernel) (by decide +kernel)
set_option maxRecDepth 20000 in
theorem gX8_heard_X8_find : GoodIn wsX8_heard (wsV RX8 187 RX8 yX8_find wsX8_find) := goodIn_app (goodIn_of _ (by decide +kernel)) ggX8_heard_X8_find
set_option maxRecDepth 20000 in
theorem ggX8_heard_X8_heardNow : GoodIn wsX8_heard wsX8_heardNow := goodIn_r _ [82, 10, 37, 48, 49, 4, 50, 83, 84, 85, 86, 87, 88, 89, 90, 91, 92, 93, 94, 95, 96, 97, 98, 99, 100, 101, 102, 103, 104, 105, 106, 107, 108, 109, 110, 111] (by decide +kernel) (by decide +kernel)
set_option maxRecDepth 20000 in
theorem gX8_heard_X8_heardNow : GoodIn wsX8_heard (wsV RX8 222 RX8 yX8_heardNow wsX8_heardNow) := goodIn_app (goodIn_of _ (by decide +kernel)) ggX8_heard_X8_heardNow
theorem dX8_heard_0 : decode cX8_heard 0 = .ok (.aload_n 0, 1) := by decide +kernel
theorem dX8_heard_1 : decode cX8_heard 1 = .ok (.invokevirtual 187, 3) := by decide +kernel
theorem dX8_heard_4 : decode cX8_heard 4 = .ok (.aload_n 0, 1) := by decide +kernel
theorem dX8_heard_5 : decode cX8_heard 5 = .ok (.invokevirtual 222, 3) := by decide +kernel
theorem dX8_heard_8 : decode cX8_heard 8 = .ok (.ireturn, 1) := by decide +kernel
set_option maxRecDepth 20000 in
theorem ggX8_cost_X8_lives : GoodIn wsX8_cost wsX8_lives := goodIn_r _ [5, 6, 7, 8, 9, 10, 11, 12, 13, 14, 15, 16, 4, 17, 18, 19, 20, 21, 22, 23, 24, 25, 26, 27, 28, 29, 30, 31, 32, 33, 34, 35, 36, 37, 38, 39, 40, 41, 42, 43, 44, 45, 46, 47, 48, 49, 50, 51, 52, 53, 54, 55, 56, 57, 58, 59, 60, 61, 62, 63, 72, 73, 74, 75, 76, 77, 78, 79, 80, 81, 82, 83, 84, 85, 86, 87, 88, 89, 90, 91, 92, 93, 94, 95, 96, 97, 98, 99, 100] (by decide +kernel) (by decide +kernel)
set_option maxRecDepth 20000 in
theorem gX8_cost_X8_lives : GoodIn wsX8_cost (wsV RX8 178 RX8 yX8_lives wsX8_lives) := goodIn_app (goodIn_of _ (by decide +kernel)) ggX8_cost_X8_lives
set_option maxRecDepth 20000 in
theorem ggX8_cost_X8_manySettled : GoodIn wsX8_cost wsX8_manySettled := goodIn_r _ [67, 6, 10, 72, 73, 74, 75, 76, 77, 78, 79, 80, 81, 82, 83, 84, 85, 86, 87, 88, 89, 90, 91, 92, 93, 94, 95, 96, 97, 98, 99, 100] (by decide +kernel) (by decide +kernel)
set_option maxRecDepth 20000 in
theorem gX8_cost_X8_manySettled : GoodIn wsX8_cost (wsV RX8 204 RX8 yX8_manySettled wsX8_manySettled) := goodIn_app (goodIn_of _ (by decide +kernel)) ggX8_cost_X8_manySettled
set_option maxRecDepth 20000 in
theorem ggX8_cost_X8_allFell : GoodIn wsX8_cost wsX8_allFell := goodIn_r _ [71, 6, 11, 72, 73, 74, 75, 76, 77, 78, 79, 80, 81, 82, 83, 84, 85, 86, 87, 88, 89, 90, 91, 92, 93, 94, 95, 96, 97, 98, 99, 100] (by decide +kernel) (by decide +kernel)
set_option maxRecDepth 20000 in
theorem gX8_cost_X8_allFell : GoodIn wsX8_cost (wsV RX8 207 RX8 yX8_allFell wsX8_allFell) := goodIn_app (goodIn_of _ (by decide +kernel)) ggX8_cost_X8_allFell
theorem dX8_cost_0 : decode cX8_cost 0 = .ok (.aload_n 0, 1) := by decide +kernel
theorem dX8_cost_1 : decode cX8_cost 1 = .ok (.invokevirtual 178, 3) := by decide +kernel
theorem dX8_cost_4 : decode cX8_cost 4 = .ok (.sipush 1000, 3) := by decide +kernel
theorem dX8_cost_7 : decode cX8_cost 7 = .ok (.aload_n 0, 1) := by decide +kernel
theorem dX8_cost_8 : decode cX8_cost 8 = .ok (.invokevirtual 204, 3) := by decide +kernel
theorem dX8_cost_11 : decode cX8_cost 11 = .ok (.imul, 1) := by decide +kernel
theorem dX8_cost_12 : decode cX8_cost 12 = .ok (.aload_n 0, 1) := by decide +kernel
theorem dX8_cost_13 : decode cX8_cost 13 = .ok (.invokevirtual 207, 3) := by decide +kernel
theorem dX8_cost_16 : decode cX8_cost 16 = .ok (.iadd, 1) := by decide +kernel
theorem dX8_cost_17 : decode cX8_cost 17 = .ok (.ireturn, 1) := by decide +kernel
set_option maxRecDepth 20000 in
theorem ggX8_tenantBetter_X8_cost : GoodIn wsX8_tenantBetter wsX8_cost := goodIn_r _ [7, 8, 9, 10, 6, 11, 12, 13, 14, 1, 15, 16, 17, 18, 19, 20, 21, 22, 23, 24, 25, 26, 27, 28, 29, 30, 31, 32, 33, 34, 35, 36, 37, 38, 39, 40, 41, 42, 43, 44, 45, 46, 47, 48, 49, 50, 51, 52, 53, 54, 55, 56, 57, 58, 59, 60, 61, 62, 63, 64, 65, 66, 67, 68, 69, 70, 71, 72, 73, 74, 75, 76, 77, 78, 79, 80, 81, 82, 83, 84, 85, 86, 87, 88, 89, 90, 91, 92, 93, 94, 95, 96, 97, 98, 99, 100, 101, 102, 103, 104, 105] (by decide +kernel) (by decide +kernel)
set_option maxRecDepth 20000 in
theorem gX8_tenantBetter_X8_cost : GoodIn wsX8_tenantBetter (wsV RX8 226 RX8 yX8_cost wsX8_cost) := goodIn_app (goodIn_of _ (by decide +kernel)) ggX8_tenantBetter_X8_cost
set_option maxRecDepth 20000 in
theorem ggX8_tenantBetter_X8_lesser : GoodIn wsX8_tenantBetter wsX8_lesser := goodIn_r _ [51] (by decide +kernel) (by decide +kernel)
set_option maxRecDepth 20000 in
theorem gX8_tenantBetter_X8_lesser : GoodIn wsX8_tenantBetter (va_wsS RX8 152 yX8_lesser wsX8_lesser) := goodIn_app (goodIn_of _ (by decide +kernel)) ggX8_tenantBetter_X8_lesser
theorem dX8_tenantBetter_0 : decode cX8_tenantBetter 0 = .ok (.aload_n 0, 1) := by decide +kernel
theorem dX8_tenantBetter_1 : decode cX8_tenantBetter 1 = .ok (.getfield 25, 3) := by decide +kernel
theorem dX8_tenantBetter_4 : decode cX8_tenantBetter 4 = .ok (.iload_n 1, 1) := by decide +kernel
theorem dX8_tenantBetter_5 : decode cX8_tenantBetter 5 = .ok (.iaload, 1) := by decide +kernel
theorem dX8_tenantBetter_6 : decode cX8_tenantBetter 6 = .ok (.istore 4, 2) := by decide +kernel
theorem dX8_tenantBetter_8 : decode cX8_tenantBetter 8 = .ok (.iconst (-1), 1) := by decide +kernel
theorem dX8_tenantBetter_9 : decode cX8_tenantBetter 9 = .ok (.istore 5, 2) := by decide +kernel
theorem dX8_tenantBetter_11 : decode cX8_tenantBetter 11 = .ok (.ldc 225, 2) := by decide +kernel
theorem dX8_tenantBetter_13 : decode cX8_tenantBetter 13 = .ok (.istore 6, 2) := by decide +kernel
theorem dX8_tenantBetter_15 : decode cX8_tenantBetter 15 = .ok (.iconst 0, 1) := by decide +kernel
theorem dX8_tenantBetter_16 : decode cX8_tenantBetter 16 = .ok (.istore 7, 2) := by decide +kernel
theorem dX8_tenantBetter_18 : decode cX8_tenantBetter 18 = .ok (.iload 7, 2) := by decide +kernel
theorem dX8_tenantBetter_20 : decode cX8_tenantBetter 20 = .ok (.iload_n 2, 1) := by decide +kernel
theorem dX8_tenantBetter_21 : decode cX8_tenantBetter 21 = .ok (.if_icmp .ge 48, 3) := by decide +kernel
theorem dX8_tenantBetter_24 : decode cX8_tenantBetter 24 = .ok (.aload_n 0, 1) := by decide +kernel
theorem dX8_tenantBetter_25 : decode cX8_tenantBetter 25 = .ok (.getfield 25, 3) := by decide +kernel
theorem dX8_tenantBetter_28 : decode cX8_tenantBetter 28 = .ok (.iload_n 1, 1) := by decide +kernel
theorem dX8_tenantBetter_29 : decode cX8_tenantBetter 29 = .ok (.iload 7, 2) := by decide +kernel
theorem dX8_tenantBetter_31 : decode cX8_tenantBetter 31 = .ok (.iastore, 1) := by decide +kernel
theorem dX8_tenantBetter_32 : decode cX8_tenantBetter 32 = .ok (.aload_n 0, 1) := by decide +kernel
theorem dX8_tenantBetter_33 : decode cX8_tenantBetter 33 = .ok (.invokevirtual 226, 3) := by decide +kernel
theorem dX8_tenantBetter_36 : decode cX8_tenantBetter 36 = .ok (.istore 8, 2) := by decide +kernel
theorem dX8_tenantBetter_38 : decode cX8_tenantBetter 38 = .ok (.iload 8, 2) := by decide +kernel
theorem dX8_tenantBetter_40 : decode cX8_tenantBetter 40 = .ok (.iload 6, 2) := by decide +kernel
theorem dX8_tenantBetter_42 : decode cX8_tenantBetter 42 = .ok (.if_icmp .ge 8, 3) := by decide +kernel
theorem dX8_tenantBetter_45 : decode cX8_tenantBetter 45 = .ok (.iload 7, 2) := by decide +kernel
theorem dX8_tenantBetter_47 : decode cX8_tenantBetter 47 = .ok (.goto 5, 3) := by decide +kernel
theorem dX8_tenantBetter_50 : decode cX8_tenantBetter 50 = .ok (.iload 5, 2) := by decide +kernel
theorem dX8_tenantBetter_52 : decode cX8_tenantBetter 52 = .ok (.istore 5, 2) := by decide +kernel
theorem dX8_tenantBetter_54 : decode cX8_tenantBetter 54 = .ok (.iload 8, 2) := by decide +kernel
theorem dX8_tenantBetter_56 : decode cX8_tenantBetter 56 = .ok (.iload 6, 2) := by decide +kernel
theorem dX8_tenantBetter_58 : decode cX8_tenantBetter 58 = .ok (.invokestatic 152, 3) := by decide +kernel
theorem dX8_tenantBetter_61 : decode cX8_tenantBetter 61 = .ok (.istore 6, 2) := by decide +kernel
theorem dX8_tenantBetter_63 : decode cX8_tenantBetter 63 = .ok (.iinc 7 1, 3) := by decide +kernel
theorem dX8_tenantBetter_66 : decode cX8_tenantBetter 66 = .ok (.goto (-48), 3) := by decide +kernel
theorem dX8_tenantBetter_69 : decode cX8_tenantBetter 69 = .ok (.aload_n 0, 1) := by decide +kernel
theorem dX8_tenantBetter_70 : decode cX8_tenantBetter 70 = .ok (.getfield 25, 3) := by decide +kernel
theorem dX8_tenantBetter_73 : decode cX8_tenantBetter 73 = .ok (.iload_n 1, 1) := by decide +kernel
theorem dX8_tenantBetter_74 : decode cX8_tenantBetter 74 = .ok (.iload 4, 2) := by decide +kernel
theorem dX8_tenantBetter_76 : decode cX8_tenantBetter 76 = .ok (.iastore, 1) := by decide +kernel
theorem dX8_tenantBetter_77 : decode cX8_tenantBetter 77 = .ok (.iload_n 3, 1) := by decide +kernel
theorem dX8_tenantBetter_78 : decode cX8_tenantBetter 78 = .ok (.ifCond .ne 8, 3) := by decide +kernel
theorem dX8_tenantBetter_81 : decode cX8_tenantBetter 81 = .ok (.iload 5, 2) := by decide +kernel
theorem dX8_tenantBetter_83 : decode cX8_tenantBetter 83 = .ok (.goto 23, 3) := by decide +kernel
theorem dX8_tenantBetter_86 : decode cX8_tenantBetter 86 = .ok (.iload_n 3, 1) := by decide +kernel
theorem dX8_tenantBetter_87 : decode cX8_tenantBetter 87 = .ok (.iconst 1, 1) := by decide +kernel
theorem dX8_tenantBetter_88 : decode cX8_tenantBetter 88 = .ok (.if_icmp .ne 12, 3) := by decide +kernel
theorem dX8_tenantBetter_91 : decode cX8_tenantBetter 91 = .ok (.iload 6, 2) := by decide +kernel
theorem dX8_tenantBetter_93 : decode cX8_tenantBetter 93 = .ok (.sipush 1000, 3) := by decide +kernel
theorem dX8_tenantBetter_96 : decode cX8_tenantBetter 96 = .ok (.idiv, 1) := by decide +kernel
theorem dX8_tenantBetter_97 : decode cX8_tenantBetter 97 = .ok (.goto 9, 3) := by decide +kernel
theorem dX8_tenantBetter_100 : decode cX8_tenantBetter 100 = .ok (.iload 6, 2) := by decide +kernel
theorem dX8_tenantBetter_102 : decode cX8_tenantBetter 102 = .ok (.sipush 1000, 3) := by decide +kernel
theorem dX8_tenantBetter_105 : decode cX8_tenantBetter 105 = .ok (.irem, 1) := by decide +kernel
theorem dX8_tenantBetter_106 : decode cX8_tenantBetter 106 = .ok (.ireturn, 1) := by decide +kernel
set_option maxRecDepth 20000 in
theorem ggX8_earn_X8_find : GoodIn wsX8_earn wsX8_find := goodIn_r _ [6, 7, 8, 9, 5, 10, 11, 12, 13, 14, 15, 16, 17, 18, 19, 20, 21, 22, 23, 24, 25, 26, 27, 28, 29, 30, 31, 32, 33, 34, 35, 36, 37, 38, 39, 40, 41, 42, 43, 44, 45, 46, 47, 48, 49, 50, 51, 52, 53, 54, 55, 56, 57, 58, 59, 60, 61, 62, 63, 64, 65, 66, 67, 68, 69, 70, 71, 72, 73, 74, 75, 76, 77, 78, 79, 97, 98, 99, 100, 101, 102, 103, 104, 105, 106, 107, 108, 109, 110, 111, 112, 113, 114, 115, 116, 117, 118, 119, 120, 121, 122, 123, 124, 125] (by decide +kernel) (by decide +kernel)
set_option maxRecDepth 20000 in
theorem gX8_earn_X8_find : GoodIn wsX8_earn (wsV RX8 187 RX8 yX8_find wsX8_find) := goodIn_app (goodIn_of _ (by decide +kernel)) ggX8_earn_X8_find
set_option maxRecDepth 20000 in
theorem ggX8_earn_X8_isTenant : GoodIn wsX8_earn wsX8_isTenant := goodIn_r _ [55, 11, 20, 21, 5, 22, 97, 98, 99, 100, 101, 102, 103, 104, 105, 106, 107, 108, 109, 110, 111, 112, 113, 114, 115, 116, 117, 118, 119, 120, 121, 122, 123, 124, 125] (by decide +kernel) (by decide +kernel)
set_option maxRecDepth 20000 in
theorem gX8_earn_X8_isTenant : GoodIn wsX8_earn (wsV RX8 126 RX8 yX8_isTenant wsX8_isTenant) := goodIn_app (goodIn_of _ (by decide +kernel)) ggX8_earn_X8_isTenant
set_option maxRecDepth 20000 in
theorem ggX8_earn_X8_in : GoodIn wsX8_earn wsX8_in := goodIn_r _ [22] (by decide +kernel) (by decide +kernel)
set_option maxRecDepth 20000 in
theorem gX8_earn_X8_in : GoodIn wsX8_earn (va_wsS RX8 77 yX8_in wsX8_in) := goodIn_app (goodIn_of _ (by decide +kernel)) ggX8_earn_X8_in
set_option maxRecDepth 20000 in
theorem ggX8_earn_X8_tenantBetter : GoodIn wsX8_earn wsX8_tenantBetter := goodIn_r _ [83, 14, 84, 85, 86, 87, 5, 88, 23, 24, 25, 26, 11, 27, 28, 29, 30, 31, 32, 33, 34, 35, 36, 37, 38, 39, 40, 41, 42, 43, 44, 45, 46, 47, 48, 49, 50, 51, 52, 53, 54, 55, 20, 21, 22, 56, 57, 58, 59, 60, 61, 62, 63, 64, 65, 66, 67, 68, 69, 70, 71, 72, 73, 74, 75, 76, 77, 78, 79, 89, 90, 91, 92, 93, 94, 95, 96, 97, 98, 99, 100, 101, 102, 103, 104, 105, 106, 107, 108, 109, 110, 111, 112, 113, 114, 115, 116, 117, 118, 119, 120, 121, 122, 123, 124, 125] (by decide +kernel) (by decide +kernel)
set_option maxRecDepth 20000 in
theorem gX8_earn_X8_tenantBetter : GoodIn wsX8_earn (wsV RX8 229 RX8 yX8_tenantBetter wsX8_tenantBetter) := goodIn_app (goodIn_of _ (by decide +kernel)) ggX8_earn_X8_tenantBetter
theorem dX8_earn_0 : decode cX8_earn 0 = .ok (.aload_n 0, 1) := by decide +kernel
theorem dX8_earn_1 : decode cX8_earn 1 = .ok (.invokevirtual 187, 3) := by decide +kernel
theorem dX8_earn_4 : decode cX8_earn 4 = .ok (.aload_n 0, 1) := by decide +kernel
theorem dX8_earn_5 : decode cX8_earn 5 = .ok (.iload_n 1, 1) := by decide +kernel
theorem dX8_earn_6 : decode cX8_earn 6 = .ok (.invokevirtual 126, 3) := by decide +kernel
theorem dX8_earn_9 : decode cX8_earn 9 = .ok (.ifCond .eq 30, 3) := by decide +kernel
theorem dX8_earn_12 : decode cX8_earn 12 = .ok (.iload_n 2, 1) := by decide +kernel
theorem dX8_earn_13 : decode cX8_earn 13 = .ok (.i2l, 1) := by decide +kernel
theorem dX8_earn_14 : decode cX8_earn 14 = .ok (.lconst 0, 1) := by decide +kernel
theorem dX8_earn_15 : decode cX8_earn 15 = .ok (.ldc2_w 90, 3) := by decide +kernel
theorem dX8_earn_18 : decode cX8_earn 18 = .ok (.invokestatic 77, 3) := by decide +kernel
theorem dX8_earn_21 : decode cX8_earn 21 = .ok (.ifCond .eq 18, 3) := by decide +kernel
theorem dX8_earn_24 : decode cX8_earn 24 = .ok (.aload_n 0, 1) := by decide +kernel
theorem dX8_earn_25 : decode cX8_earn 25 = .ok (.iconst 3, 1) := by decide +kernel
theorem dX8_earn_26 : decode cX8_earn 26 = .ok (.iload_n 1, 1) := by decide +kernel
theorem dX8_earn_27 : decode cX8_earn 27 = .ok (.imul, 1) := by decide +kernel
theorem dX8_earn_28 : decode cX8_earn 28 = .ok (.iconst 2, 1) := by decide +kernel
theorem dX8_earn_29 : decode cX8_earn 29 = .ok (.iadd, 1) := by decide +kernel
theorem dX8_earn_30 : decode cX8_earn 30 = .ok (.bipush 10, 2) := by decide +kernel
theorem dX8_earn_32 : decode cX8_earn 32 = .ok (.iload_n 2, 1) := by decide +kernel
theorem dX8_earn_33 : decode cX8_earn 33 = .ok (.invokevirtual 229, 3) := by decide +kernel
theorem dX8_earn_36 : decode cX8_earn 36 = .ok (.goto 5, 3) := by decide +kernel
theorem dX8_earn_39 : decode cX8_earn 39 = .ok (.bipush (-2), 2) := by decide +kernel
theorem dX8_earn_41 : decode cX8_earn 41 = .ok (.ireturn, 1) := by decide +kernel
set_option maxRecDepth 20000 in
theorem ggX8_be_X8_find : GoodIn wsX8_be wsX8_find := goodIn_r _ [6, 7, 8, 9, 5, 10, 11, 12, 13, 14, 15, 16, 17, 18, 19, 20, 21, 22, 23, 24, 25, 26, 27, 28, 29, 30, 31, 32, 33, 34, 35, 36, 37, 38, 39, 40, 41, 42, 43, 44, 45, 46, 47, 48, 49, 50, 51, 52, 53, 54, 55, 56, 57, 58, 59, 60, 61, 62, 63, 64, 65, 66, 67, 68, 69, 70, 71, 72, 73, 74, 75, 76, 77, 78, 79, 97, 98, 99, 100, 101, 102, 103, 104, 105, 106, 107, 108, 109, 110, 111, 112, 113, 114, 115, 116, 117, 118, 119, 120, 121, 122, 123, 124, 125] (by decide +kernel) (by decide +kernel)
set_option maxRecDepth 20000 in
theorem gX8_be_X8_find : GoodIn wsX8_be (wsV RX8 187 RX8 yX8_find wsX8_find) := goodIn_app (goodIn_of _ (by decide +kernel)) ggX8_be_X8_find
set_option maxRecDepth 20000 in
theorem ggX8_be_X8_isTenant : GoodIn wsX8_be wsX8_isTenant := goodIn_r _ [55, 11, 20, 21, 5, 22, 97, 98, 99, 100, 101, 102, 103, 104, 105, 106, 107, 108, 109, 110, 111, 112, 113, 114, 115, 116, 117, 118, 119, 120, 121, 122, 123, 124, 125] (by decide +kernel) (by decide +kernel)
set_option maxRecDepth 20000 in
theorem gX8_be_X8_isTenant : GoodIn wsX8_be (wsV RX8 126 RX8 yX8_isTenant wsX8_isTenant) := goodIn_app (goodIn_of _ (by decide +kernel)) ggX8_be_X8_isTenant
set_option maxRecDepth 20000 in
theorem ggX8_be_X8_in : GoodIn wsX8_be wsX8_in := goodIn_r _ [22] (by decide +kernel) (by decide +kernel)
set_option maxRecDepth 20000 in
theorem gX8_be_X8_in : GoodIn wsX8_be (va_wsS RX8 77 yX8_in wsX8_in) := goodIn_app (goodIn_of _ (by decide +kernel)) ggX8_be_X8_in
set_option maxRecDepth 20000 in
theorem ggX8_be_X8_tenantBetter : GoodIn wsX8_be wsX8_tenantBetter := goodIn_r _ [83, 14, 84, 85, 86, 87, 5, 88, 23, 24, 25, 26, 11, 27, 28, 29, 30, 31, 32, 33, 34, 35, 36, 37, 38, 39, 40, 41, 42, 43, 44, 45, 46, 47, 48, 49, 50, 51, 52, 53, 54, 55, 20, 21, 22, 56, 57, 58, 59, 60, 61, 62, 63, 64, 65, 66, 67, 68, 69, 70, 71, 72, 73, 74, 75, 76, 77, 78, 79, 89, 90, 91, 92, 93, 94, 95, 96, 97, 98, 99, 100, 101, 102, 103, 104, 105, 106, 107, 108, 109, 110, 111, 112, 113, 114, 115, 116, 117, 118, 119, 120, 121, 122, 123, 124, 125] (by decide +kernel) (by decide +kernel)
set_option maxRecDepth 20000 in
theorem gX8_be_X8_tenantBetter : GoodIn wsX8_be (wsV RX8 229 RX8 yX8_tenantBetter wsX8_tenantBetter) := goodIn_app (goodIn_of _ (by decide +kernel)) ggX8_be_X8_tenantBetter
theorem dX8_be_0 : decode cX8_be 0 = .ok (.aload_n 0, 1) := by decide +kernel
theorem dX8_be_1 : decode cX8_be 1 = .ok (.invokevirtual 187, 3) := by decide +kernel
theorem dX8_be_4 : decode cX8_be 4 = .ok (.aload_n 0, 1) := by decide +kernel
theorem dX8_be_5 : decode cX8_be 5 = .ok (.iload_n 1, 1) := by decide +kernel
theorem dX8_be_6 : decode cX8_be 6 = .ok (.invokevirtual 126, 3) := by decide +kernel
theorem dX8_be_9 : decode cX8_be 9 = .ok (.ifCond .eq 27, 3) := by decide +kernel
theorem dX8_be_12 : decode cX8_be 12 = .ok (.iload_n 2, 1) := by decide +kernel
theorem dX8_be_13 : decode cX8_be 13 = .ok (.i2l, 1) := by decide +kernel
theorem dX8_be_14 : decode cX8_be 14 = .ok (.lconst 0, 1) := by decide +kernel
theorem dX8_be_15 : decode cX8_be 15 = .ok (.ldc2_w 90, 3) := by decide +kernel
theorem dX8_be_18 : decode cX8_be 18 = .ok (.invokestatic 77, 3) := by decide +kernel
theorem dX8_be_21 : decode cX8_be 21 = .ok (.ifCond .eq 15, 3) := by decide +kernel
theorem dX8_be_24 : decode cX8_be 24 = .ok (.aload_n 0, 1) := by decide +kernel
theorem dX8_be_25 : decode cX8_be 25 = .ok (.iconst 3, 1) := by decide +kernel
theorem dX8_be_26 : decode cX8_be 26 = .ok (.iload_n 1, 1) := by decide +kernel
theorem dX8_be_27 : decode cX8_be 27 = .ok (.imul, 1) := by decide +kernel
theorem dX8_be_28 : decode cX8_be 28 = .ok (.iconst 4, 1) := by decide +kernel
theorem dX8_be_29 : decode cX8_be 29 = .ok (.iload_n 2, 1) := by decide +kernel
theorem dX8_be_30 : decode cX8_be 30 = .ok (.invokevirtual 229, 3) := by decide +kernel
theorem dX8_be_33 : decode cX8_be 33 = .ok (.goto 5, 3) := by decide +kernel
theorem dX8_be_36 : decode cX8_be 36 = .ok (.bipush (-2), 2) := by decide +kernel
theorem dX8_be_38 : decode cX8_be 38 = .ok (.ireturn, 1) := by decide +kernel
set_option maxRecDepth 20000 in
theorem ggX8_widenBy_X8_cost : GoodIn wsX8_widenBy wsX8_cost := goodIn_r _ [7, 8, 9, 10, 6, 11, 12, 13, 14, 15, 16, 17, 18, 19, 20, 21, 22, 23, 24, 25, 26, 27, 28, 29, 30, 31, 32, 33, 34, 35, 36, 37, 38, 39, 40, 41, 42, 43, 44, 45, 46, 47, 48, 49, 50, 51, 52, 53, 54, 55, 56, 57, 1, 58, 59, 60, 61, 62, 63, 64, 65, 66, 67, 68, 69, 70, 71, 72, 73, 74, 75, 76, 77, 78, 79, 80, 81, 82, 83, 84, 85, 86, 87, 88, 89, 90, 91, 92, 93, 94, 95, 96, 97, 98, 99, 100, 101, 102, 103, 104, 105] (by decide +kernel) (by decide +kernel)
set_option maxRecDepth 20000 in
theorem gX8_widenBy_X8_cost : GoodIn wsX8_widenBy (wsV RX8 226 RX8 yX8_cost wsX8_cost) := goodIn_app (goodIn_of _ (by decide +kernel)) ggX8_widenBy_X8_cost
set_option maxRecDepth 20000 in
theorem ggX8_widenBy_X8_lesser : GoodIn wsX8_widenBy wsX8_lesser := goodIn_r _ [52] (by decide +kernel) (by decide +kernel)
set_option maxRecDepth 20000 in
theorem gX8_widenBy_X8_lesser : GoodIn wsX8_widenBy (va_wsS RX8 152 yX8_lesser wsX8_lesser) := goodIn_app (goodIn_of _ (by decide +kernel)) ggX8_widenBy_X8_lesser
theorem dX8_widenBy_0 : decode cX8_widenBy 0 = .ok (.aload_n 0, 1) := by decide +kernel
theorem dX8_widenBy_1 : decode cX8_widenBy 1 = .ok (.getfield 71, 3) := by decide +kernel
theorem dX8_widenBy_4 : decode cX8_widenBy 4 = .ok (.istore_n 2, 1) := by decide +kernel
theorem dX8_widenBy_5 : decode cX8_widenBy 5 = .ok (.iconst (-1), 1) := by decide +kernel
theorem dX8_widenBy_6 : decode cX8_widenBy 6 = .ok (.istore_n 3, 1) := by decide +kernel
theorem dX8_widenBy_7 : decode cX8_widenBy 7 = .ok (.ldc 225, 2) := by decide +kernel
theorem dX8_widenBy_9 : decode cX8_widenBy 9 = .ok (.istore 4, 2) := by decide +kernel
theorem dX8_widenBy_11 : decode cX8_widenBy 11 = .ok (.iconst 1, 1) := by decide +kernel
theorem dX8_widenBy_12 : decode cX8_widenBy 12 = .ok (.istore 5, 2) := by decide +kernel
theorem dX8_widenBy_14 : decode cX8_widenBy 14 = .ok (.iload 5, 2) := by decide +kernel
theorem dX8_widenBy_16 : decode cX8_widenBy 16 = .ok (.bipush 9, 2) := by decide +kernel
theorem dX8_widenBy_18 : decode cX8_widenBy 18 = .ok (.if_icmp .ge 44, 3) := by decide +kernel
theorem dX8_widenBy_21 : decode cX8_widenBy 21 = .ok (.aload_n 0, 1) := by decide +kernel
theorem dX8_widenBy_22 : decode cX8_widenBy 22 = .ok (.iload 5, 2) := by decide +kernel
theorem dX8_widenBy_24 : decode cX8_widenBy 24 = .ok (.putfield 71, 3) := by decide +kernel
theorem dX8_widenBy_27 : decode cX8_widenBy 27 = .ok (.aload_n 0, 1) := by decide +kernel
theorem dX8_widenBy_28 : decode cX8_widenBy 28 = .ok (.invokevirtual 226, 3) := by decide +kernel
theorem dX8_widenBy_31 : decode cX8_widenBy 31 = .ok (.istore 6, 2) := by decide +kernel
theorem dX8_widenBy_33 : decode cX8_widenBy 33 = .ok (.iload 6, 2) := by decide +kernel
theorem dX8_widenBy_35 : decode cX8_widenBy 35 = .ok (.iload 4, 2) := by decide +kernel
theorem dX8_widenBy_37 : decode cX8_widenBy 37 = .ok (.if_icmp .ge 8, 3) := by decide +kernel
theorem dX8_widenBy_40 : decode cX8_widenBy 40 = .ok (.iload 5, 2) := by decide +kernel
theorem dX8_widenBy_42 : decode cX8_widenBy 42 = .ok (.goto 4, 3) := by decide +kernel
theorem dX8_widenBy_45 : decode cX8_widenBy 45 = .ok (.iload_n 3, 1) := by decide +kernel
theorem dX8_widenBy_46 : decode cX8_widenBy 46 = .ok (.istore_n 3, 1) := by decide +kernel
theorem dX8_widenBy_47 : decode cX8_widenBy 47 = .ok (.iload 6, 2) := by decide +kernel
theorem dX8_widenBy_49 : decode cX8_widenBy 49 = .ok (.iload 4, 2) := by decide +kernel
theorem dX8_widenBy_51 : decode cX8_widenBy 51 = .ok (.invokestatic 152, 3) := by decide +kernel
theorem dX8_widenBy_54 : decode cX8_widenBy 54 = .ok (.istore 4, 2) := by decide +kernel
theorem dX8_widenBy_56 : decode cX8_widenBy 56 = .ok (.iinc 5 1, 3) := by decide +kernel
theorem dX8_widenBy_59 : decode cX8_widenBy 59 = .ok (.goto (-45), 3) := by decide +kernel
theorem dX8_widenBy_62 : decode cX8_widenBy 62 = .ok (.aload_n 0, 1) := by decide +kernel
theorem dX8_widenBy_63 : decode cX8_widenBy 63 = .ok (.iload_n 2, 1) := by decide +kernel
theorem dX8_widenBy_64 : decode cX8_widenBy 64 = .ok (.putfield 71, 3) := by decide +kernel
theorem dX8_widenBy_67 : decode cX8_widenBy 67 = .ok (.iload_n 1, 1) := by decide +kernel
theorem dX8_widenBy_68 : decode cX8_widenBy 68 = .ok (.ifCond .ne 7, 3) := by decide +kernel
theorem dX8_widenBy_71 : decode cX8_widenBy 71 = .ok (.iload_n 3, 1) := by decide +kernel
theorem dX8_widenBy_72 : decode cX8_widenBy 72 = .ok (.goto 23, 3) := by decide +kernel
theorem dX8_widenBy_75 : decode cX8_widenBy 75 = .ok (.iload_n 1, 1) := by decide +kernel
theorem dX8_widenBy_76 : decode cX8_widenBy 76 = .ok (.iconst 1, 1) := by decide +kernel
theorem dX8_widenBy_77 : decode cX8_widenBy 77 = .ok (.if_icmp .ne 12, 3) := by decide +kernel
theorem dX8_widenBy_80 : decode cX8_widenBy 80 = .ok (.iload 4, 2) := by decide +kernel
theorem dX8_widenBy_82 : decode cX8_widenBy 82 = .ok (.sipush 1000, 3) := by decide +kernel
theorem dX8_widenBy_85 : decode cX8_widenBy 85 = .ok (.idiv, 1) := by decide +kernel
theorem dX8_widenBy_86 : decode cX8_widenBy 86 = .ok (.goto 9, 3) := by decide +kernel
theorem dX8_widenBy_89 : decode cX8_widenBy 89 = .ok (.iload 4, 2) := by decide +kernel
theorem dX8_widenBy_91 : decode cX8_widenBy 91 = .ok (.sipush 1000, 3) := by decide +kernel
theorem dX8_widenBy_94 : decode cX8_widenBy 94 = .ok (.irem, 1) := by decide +kernel
theorem dX8_widenBy_95 : decode cX8_widenBy 95 = .ok (.ireturn, 1) := by decide +kernel
set_option maxRecDepth 20000 in
theorem ggX8_widen_X8_find : GoodIn wsX8_widen wsX8_find := goodIn_r _ [6, 7, 8, 9, 5, 10, 11, 12, 13, 14, 15, 16, 17, 18, 19, 20, 21, 22, 23, 24, 25, 26, 27, 28, 29, 30, 31, 32, 33, 34, 35, 36, 37, 38, 39, 40, 41, 42, 43, 44, 45, 46, 47, 48, 49, 50, 51, 52, 53, 54, 55, 56, 57, 58, 59, 60, 61, 62, 63, 64, 65, 66, 67, 68, 69, 70, 71, 72, 73, 74, 75, 76, 77, 78, 79, 97, 98, 99, 100, 101, 102, 103, 104, 105, 106, 107, 108, 109, 110, 111, 112, 113, 114, 115, 116, 117, 118, 119, 120, 121, 122, 123, 124, 125] (by decide +kernel) (by decide +kernel)
set_option maxRecDepth 20000 in
theorem gX8_widen_X8_find : GoodIn wsX8_widen (wsV RX8 187 RX8 yX8_find wsX8_find) := goodIn_app (goodIn_of _ (by decide +kernel)) ggX8_widen_X8_find
set_option maxRecDepth 20000 in
theorem ggX8_widen_X8_in : GoodIn wsX8_widen wsX8_in := goodIn_r _ [22] (by decide +kernel) (by decide +kernel)
set_option maxRecDepth 20000 in
theorem gX8_widen_X8_in : GoodIn wsX8_widen (va_wsS RX8 77 yX8_in wsX8_in) := goodIn_app (goodIn_of _ (by decide +kernel)) ggX8_widen_X8_in
set_option maxRecDepth 20000 in
theorem ggX8_widen_X8_widenBy : GoodIn wsX8_widen wsX8_widenBy := goodIn_r _ [83, 68, 84, 85, 86, 87, 5, 88, 23, 24, 25, 26, 11, 27, 28, 14, 29, 30, 31, 32, 33, 34, 35, 36, 37, 38, 39, 40, 41, 42, 43, 44, 45, 46, 47, 48, 49, 50, 51, 52, 53, 54, 55, 20, 21, 22, 56, 57, 58, 59, 60, 61, 62, 63, 64, 65, 66, 67, 69, 70, 71, 72, 73, 74, 75, 76, 77, 78, 79, 89, 90, 91, 92, 93, 94, 95, 96, 97, 98, 99, 100, 101, 102, 103, 104, 105, 106, 107, 108, 109, 110, 111, 112, 113, 114, 115, 116, 117, 118, 119, 120, 121, 122, 123, 124, 125] (by decide +kernel) (by decide +kernel)
set_option maxRecDepth 20000 in
theorem gX8_widen_X8_widenBy : GoodIn wsX8_widen (wsV RX8 232 RX8 yX8_widenBy wsX8_widenBy) := goodIn_app (goodIn_of _ (by decide +kernel)) ggX8_widen_X8_widenBy
theorem dX8_widen_0 : decode cX8_widen 0 = .ok (.aload_n 0, 1) := by decide +kernel
theorem dX8_widen_1 : decode cX8_widen 1 = .ok (.invokevirtual 187, 3) := by decide +kernel
theorem dX8_widen_4 : decode cX8_widen 4 = .ok (.iload_n 1, 1) := by decide +kernel
theorem dX8_widen_5 : decode cX8_widen 5 = .ok (.i2l, 1) := by decide +kernel
theorem dX8_widen_6 : decode cX8_widen 6 = .ok (.lconst 0, 1) := by decide +kernel
theorem dX8_widen_7 : decode cX8_widen 7 = .ok (.ldc2_w 90, 3) := by decide +kernel
theorem dX8_widen_10 : decode cX8_widen 10 = .ok (.invokestatic 77, 3) := by decide +kernel
theorem dX8_widen_13 : decode cX8_widen 13 = .ok (.ifCond .eq 11, 3) := by decide +kernel
theorem dX8_widen_16 : decode cX8_widen 16 = .ok (.aload_n 0, 1) := by decide +kernel
theorem dX8_widen_17 : decode cX8_widen 17 = .ok (.iload_n 1, 1) := by decide +kernel
theorem dX8_widen_18 : decode cX8_widen 18 = .ok (.invokevirtual 232, 3) := by decide +kernel
theorem dX8_widen_21 : decode cX8_widen 21 = .ok (.goto 5, 3) := by decide +kernel
theorem dX8_widen_24 : decode cX8_widen 24 = .ok (.bipush (-2), 2) := by decide +kernel
theorem dX8_widen_26 : decode cX8_widen 26 = .ok (.ireturn, 1) := by decide +kernel
set_option maxRecDepth 20000 in
theorem ggX8_isSpared_X8_lives : GoodIn wsX8_isSpared wsX8_lives := goodIn_r _ [6, 7, 8, 9, 10, 11, 12, 13, 14, 15, 16, 17, 5, 18, 19, 20, 21, 22, 23, 24, 25, 26, 27, 28, 29, 1, 30, 31, 32, 33, 34, 35, 36, 37, 38, 39, 40, 41, 42, 43, 44, 45, 46, 47, 48, 49, 50, 51, 52, 53, 54, 55, 56, 57, 58, 59, 60, 61, 62, 63, 68, 69, 70, 71, 72, 73, 74, 75, 76, 77, 78, 79, 80, 81, 82, 83, 84, 85, 86, 87, 88, 89, 90, 91, 92, 93, 94, 95, 96] (by decide +kernel) (by decide +kernel)
set_option maxRecDepth 20000 in
theorem gX8_isSpared_X8_lives : GoodIn wsX8_isSpared (wsV RX8 178 RX8 yX8_lives wsX8_lives) := goodIn_app (goodIn_of _ (by decide +kernel)) ggX8_isSpared_X8_lives
set_option maxRecDepth 20000 in
theorem ggX8_isSpared_X8_manySettled : GoodIn wsX8_isSpared wsX8_manySettled := goodIn_r _ [67, 7, 11, 68, 69, 70, 71, 72, 73, 74, 75, 76, 77, 78, 79, 80, 81, 82, 83, 84, 85, 86, 87, 88, 89, 90, 91, 92, 93, 94, 95, 96] (by decide +kernel) (by decide +kernel)
set_option maxRecDepth 20000 in
theorem gX8_isSpared_X8_manySettled : GoodIn wsX8_isSpared (wsV RX8 204 RX8 yX8_manySettled wsX8_manySettled) := goodIn_app (goodIn_of _ (by decide +kernel)) ggX8_isSpared_X8_manySettled
theorem dX8_isSpared_0 : decode cX8_isSpared 0 = .ok (.aload_n 0, 1) := by decide +kernel
theorem dX8_isSpared_1 : decode cX8_isSpared 1 = .ok (.iload_n 1, 1) := by decide +kernel
theorem dX8_isSpared_2 : decode cX8_isSpared 2 = .ok (.putfield 145, 3) := by decide +kernel
theorem dX8_isSpared_5 : decode cX8_isSpared 5 = .ok (.aload_n 0, 1) := by decide +kernel
theorem dX8_isSpared_6 : decode cX8_isSpared 6 = .ok (.invokevirtual 178, 3) := by decide +kernel
theorem dX8_isSpared_9 : decode cX8_isSpared 9 = .ok (.aload_n 0, 1) := by decide +kernel
theorem dX8_isSpared_10 : decode cX8_isSpared 10 = .ok (.iconst 0, 1) := by decide +kernel
theorem dX8_isSpared_11 : decode cX8_isSpared 11 = .ok (.putfield 145, 3) := by decide +kernel
theorem dX8_isSpared_14 : decode cX8_isSpared 14 = .ok (.aload_n 0, 1) := by decide +kernel
theorem dX8_isSpared_15 : decode cX8_isSpared 15 = .ok (.invokevirtual 204, 3) := by decide +kernel
theorem dX8_isSpared_18 : decode cX8_isSpared 18 = .ok (.ifCond .ne 7, 3) := by decide +kernel
theorem dX8_isSpared_21 : decode cX8_isSpared 21 = .ok (.iconst 1, 1) := by decide +kernel
theorem dX8_isSpared_22 : decode cX8_isSpared 22 = .ok (.goto 4, 3) := by decide +kernel
theorem dX8_isSpared_25 : decode cX8_isSpared 25 = .ok (.iconst 0, 1) := by decide +kernel
theorem dX8_isSpared_26 : decode cX8_isSpared 26 = .ok (.ireturn, 1) := by decide +kernel
set_option maxRecDepth 20000 in
theorem ggX8_spareBy_X8_isSpared : GoodIn wsX8_spareBy wsX8_isSpared := goodIn_r _ [6, 7, 8, 9, 10, 5, 11, 12, 13, 14, 15, 16, 17, 18, 19, 20, 21, 22, 23, 24, 25, 26, 27, 28, 29, 30, 31, 32, 1, 33, 34, 35, 36, 37, 38, 39, 40, 41, 42, 43, 44, 45, 46, 47, 48, 49, 50, 51, 52, 53, 54, 55, 56, 57, 58, 59, 60, 61, 62, 63, 64, 65, 66, 67, 68, 69, 70, 71, 72, 73, 74, 75, 76, 77, 78, 79, 80, 81, 82, 83, 84, 85, 86, 87, 88, 89, 90, 91, 92, 93, 94, 95, 96, 97, 98, 99, 100] (by decide +kernel) (by decide +kernel)
set_option maxRecDepth 20000 in
theorem gX8_spareBy_X8_isSpared : GoodIn wsX8_spareBy (wsV RX8 235 RX8 yX8_isSpared wsX8_isSpared) := goodIn_app (goodIn_of _ (by decide +kernel)) ggX8_spareBy_X8_isSpared
theorem dX8_spareBy_0 : decode cX8_spareBy 0 = .ok (.aload_n 0, 1) := by decide +kernel
theorem dX8_spareBy_1 : decode cX8_spareBy 1 = .ok (.iconst 0, 1) := by decide +kernel
theorem dX8_spareBy_2 : decode cX8_spareBy 2 = .ok (.invokevirtual 235, 3) := by decide +kernel
theorem dX8_spareBy_5 : decode cX8_spareBy 5 = .ok (.ifCond .eq 14, 3) := by decide +kernel
theorem dX8_spareBy_8 : decode cX8_spareBy 8 = .ok (.iload_n 1, 1) := by decide +kernel
theorem dX8_spareBy_9 : decode cX8_spareBy 9 = .ok (.iconst (-1), 1) := by decide +kernel
theorem dX8_spareBy_10 : decode cX8_spareBy 10 = .ok (.if_icmp .ne 7, 3) := by decide +kernel
theorem dX8_spareBy_13 : decode cX8_spareBy 13 = .ok (.iconst 0, 1) := by decide +kernel
theorem dX8_spareBy_14 : decode cX8_spareBy 14 = .ok (.goto 4, 3) := by decide +kernel
theorem dX8_spareBy_17 : decode cX8_spareBy 17 = .ok (.iconst (-1), 1) := by decide +kernel
theorem dX8_spareBy_18 : decode cX8_spareBy 18 = .ok (.ireturn, 1) := by decide +kernel
theorem dX8_spareBy_19 : decode cX8_spareBy 19 = .ok (.iconst 0, 1) := by decide +kernel
theorem dX8_spareBy_20 : decode cX8_spareBy 20 = .ok (.istore_n 2, 1) := by decide +kernel
theorem dX8_spareBy_21 : decode cX8_spareBy 21 = .ok (.iload_n 2, 1) := by decide +kernel
theorem dX8_spareBy_22 : decode cX8_spareBy 22 = .ok (.aload_n 0, 1) := by decide +kernel
theorem dX8_spareBy_23 : decode cX8_spareBy 23 = .ok (.getfield 136, 3) := by decide +kernel
theorem dX8_spareBy_26 : decode cX8_spareBy 26 = .ok (.if_icmp .ge 38, 3) := by decide +kernel
theorem dX8_spareBy_29 : decode cX8_spareBy 29 = .ok (.aload_n 0, 1) := by decide +kernel
theorem dX8_spareBy_30 : decode cX8_spareBy 30 = .ok (.iconst 1, 1) := by decide +kernel
theorem dX8_spareBy_31 : decode cX8_spareBy 31 = .ok (.iload_n 2, 1) := by decide +kernel
theorem dX8_spareBy_32 : decode cX8_spareBy 32 = .ok (.ishl, 1) := by decide +kernel
theorem dX8_spareBy_33 : decode cX8_spareBy 33 = .ok (.invokevirtual 235, 3) := by decide +kernel
theorem dX8_spareBy_36 : decode cX8_spareBy 36 = .ok (.ifCond .eq 22, 3) := by decide +kernel
theorem dX8_spareBy_39 : decode cX8_spareBy 39 = .ok (.iload_n 1, 1) := by decide +kernel
theorem dX8_spareBy_40 : decode cX8_spareBy 40 = .ok (.iconst (-1), 1) := by decide +kernel
theorem dX8_spareBy_41 : decode cX8_spareBy 41 = .ok (.if_icmp .ne 7, 3) := by decide +kernel
theorem dX8_spareBy_44 : decode cX8_spareBy 44 = .ok (.iconst 1, 1) := by decide +kernel
theorem dX8_spareBy_45 : decode cX8_spareBy 45 = .ok (.goto 12, 3) := by decide +kernel
theorem dX8_spareBy_48 : decode cX8_spareBy 48 = .ok (.iload_n 1, 1) := by decide +kernel
theorem dX8_spareBy_49 : decode cX8_spareBy 49 = .ok (.ifCond .ne 7, 3) := by decide +kernel
theorem dX8_spareBy_52 : decode cX8_spareBy 52 = .ok (.iload_n 2, 1) := by decide +kernel
theorem dX8_spareBy_53 : decode cX8_spareBy 53 = .ok (.goto 4, 3) := by decide +kernel
theorem dX8_spareBy_56 : decode cX8_spareBy 56 = .ok (.iconst (-1), 1) := by decide +kernel
theorem dX8_spareBy_57 : decode cX8_spareBy 57 = .ok (.ireturn, 1) := by decide +kernel
theorem dX8_spareBy_58 : decode cX8_spareBy 58 = .ok (.iinc 2 1, 3) := by decide +kernel
theorem dX8_spareBy_61 : decode cX8_spareBy 61 = .ok (.goto (-40), 3) := by decide +kernel
theorem dX8_spareBy_64 : decode cX8_spareBy 64 = .ok (.iconst 0, 1) := by decide +kernel
theorem dX8_spareBy_65 : decode cX8_spareBy 65 = .ok (.istore_n 2, 1) := by decide +kernel
theorem dX8_spareBy_66 : decode cX8_spareBy 66 = .ok (.iload_n 2, 1) := by decide +kernel
theorem dX8_spareBy_67 : decode cX8_spareBy 67 = .ok (.aload_n 0, 1) := by decide +kernel
theorem dX8_spareBy_68 : decode cX8_spareBy 68 = .ok (.getfield 136, 3) := by decide +kernel
theorem dX8_spareBy_71 : decode cX8_spareBy 71 = .ok (.if_icmp .ge 60, 3) := by decide +kernel
theorem dX8_spareBy_74 : decode cX8_spareBy 74 = .ok (.iload_n 2, 1) := by decide +kernel
theorem dX8_spareBy_75 : decode cX8_spareBy 75 = .ok (.iconst 1, 1) := by decide +kernel
theorem dX8_spareBy_76 : decode cX8_spareBy 76 = .ok (.iadd, 1) := by decide +kernel
theorem dX8_spareBy_77 : decode cX8_spareBy 77 = .ok (.istore_n 3, 1) := by decide +kernel
theorem dX8_spareBy_78 : decode cX8_spareBy 78 = .ok (.iload_n 3, 1) := by decide +kernel
theorem dX8_spareBy_79 : decode cX8_spareBy 79 = .ok (.aload_n 0, 1) := by decide +kernel
theorem dX8_spareBy_80 : decode cX8_spareBy 80 = .ok (.getfield 136, 3) := by decide +kernel
theorem dX8_spareBy_83 : decode cX8_spareBy 83 = .ok (.if_icmp .ge 42, 3) := by decide +kernel
theorem dX8_spareBy_86 : decode cX8_spareBy 86 = .ok (.aload_n 0, 1) := by decide +kernel
theorem dX8_spareBy_87 : decode cX8_spareBy 87 = .ok (.iconst 1, 1) := by decide +kernel
theorem dX8_spareBy_88 : decode cX8_spareBy 88 = .ok (.iload_n 2, 1) := by decide +kernel
theorem dX8_spareBy_89 : decode cX8_spareBy 89 = .ok (.ishl, 1) := by decide +kernel
theorem dX8_spareBy_90 : decode cX8_spareBy 90 = .ok (.iconst 1, 1) := by decide +kernel
theorem dX8_spareBy_91 : decode cX8_spareBy 91 = .ok (.iload_n 3, 1) := by decide +kernel
theorem dX8_spareBy_92 : decode cX8_spareBy 92 = .ok (.ishl, 1) := by decide +kernel
theorem dX8_spareBy_93 : decode cX8_spareBy 93 = .ok (.ior, 1) := by decide +kernel
theorem dX8_spareBy_94 : decode cX8_spareBy 94 = .ok (.invokevirtual 235, 3) := by decide +kernel
theorem dX8_spareBy_97 : decode cX8_spareBy 97 = .ok (.ifCond .eq 22, 3) := by decide +kernel
theorem dX8_spareBy_100 : decode cX8_spareBy 100 = .ok (.iload_n 1, 1) := by decide +kernel
theorem dX8_spareBy_101 : decode cX8_spareBy 101 = .ok (.iconst (-1), 1) := by decide +kernel
theorem dX8_spareBy_102 : decode cX8_spareBy 102 = .ok (.if_icmp .ne 7, 3) := by decide +kernel
theorem dX8_spareBy_105 : decode cX8_spareBy 105 = .ok (.iconst 2, 1) := by decide +kernel
theorem dX8_spareBy_106 : decode cX8_spareBy 106 = .ok (.goto 12, 3) := by decide +kernel
theorem dX8_spareBy_109 : decode cX8_spareBy 109 = .ok (.iload_n 1, 1) := by decide +kernel
theorem dX8_spareBy_110 : decode cX8_spareBy 110 = .ok (.ifCond .ne 7, 3) := by decide +kernel
theorem dX8_spareBy_113 : decode cX8_spareBy 113 = .ok (.iload_n 2, 1) := by decide +kernel
theorem dX8_spareBy_114 : decode cX8_spareBy 114 = .ok (.goto 4, 3) := by decide +kernel
theorem dX8_spareBy_117 : decode cX8_spareBy 117 = .ok (.iload_n 3, 1) := by decide +kernel
theorem dX8_spareBy_118 : decode cX8_spareBy 118 = .ok (.ireturn, 1) := by decide +kernel
theorem dX8_spareBy_119 : decode cX8_spareBy 119 = .ok (.iinc 3 1, 3) := by decide +kernel
theorem dX8_spareBy_122 : decode cX8_spareBy 122 = .ok (.goto (-44), 3) := by decide +kernel
theorem dX8_spareBy_125 : decode cX8_spareBy 125 = .ok (.iinc 2 1, 3) := by decide +kernel
theorem dX8_spareBy_128 : decode cX8_spareBy 128 = .ok (.goto (-62), 3) := by decide +kernel
theorem dX8_spareBy_131 : decode cX8_spareBy 131 = .ok (.iconst (-1), 1) := by decide +kernel
theorem dX8_spareBy_132 : decode cX8_spareBy 132 = .ok (.ireturn, 1) := by decide +kernel
set_option maxRecDepth 20000 in
theorem ggX8_spare_X8_find : GoodIn wsX8_spare wsX8_find := goodIn_r _ [6, 7, 8, 9, 5, 10, 11, 12, 13, 14, 15, 16, 17, 18, 19, 20, 21, 22, 23, 24, 25, 26, 27, 28, 29, 30, 31, 32, 33, 34, 35, 36, 37, 38, 39, 40, 41, 42, 43, 44, 45, 46, 47, 48, 49, 50, 51, 52, 53, 54, 55, 56, 57, 58, 59, 60, 61, 62, 63, 64, 65, 66, 67, 68, 69, 70, 71, 72, 73, 74, 75, 76, 77, 78, 79, 92, 93, 94, 95, 96, 97, 98, 99, 100, 101, 102, 103, 104, 105, 106, 107, 108, 109, 110, 111, 112, 113, 114, 115, 116, 117, 118, 119, 120] (by decide +kernel) (by decide +kernel)
set_option maxRecDepth 20000 in
theorem gX8_spare_X8_find : GoodIn wsX8_spare (wsV RX8 187 RX8 yX8_find wsX8_find) := goodIn_app (goodIn_of _ (by decide +kernel)) ggX8_spare_X8_find
set_option maxRecDepth 20000 in
theorem ggX8_spare_X8_in : GoodIn wsX8_spare wsX8_in := goodIn_r _ [22] (by decide +kernel) (by decide +kernel)
set_option maxRecDepth 20000 in
theorem gX8_spare_X8_in : GoodIn wsX8_spare (va_wsS RX8 77 yX8_in wsX8_in) := goodIn_app (goodIn_of _ (by decide +kernel)) ggX8_spare_X8_in
set_option maxRecDepth 20000 in
theorem ggX8_spare_X8_spareBy : GoodIn wsX8_spare wsX8_spareBy := goodIn_r _ [83, 46, 84, 85, 86, 5, 87, 48, 23, 24, 25, 26, 11, 27, 28, 14, 29, 30, 31, 32, 33, 34, 35, 36, 37, 38, 39, 40, 41, 42, 43, 44, 45, 47, 49, 50, 51, 52, 53, 54, 55, 20, 21, 22, 56, 57, 58, 59, 60, 61, 62, 63, 64, 65, 66, 67, 68, 69, 70, 71, 72, 73, 74, 75, 76, 77, 78, 79, 88, 89, 90, 91, 92, 93, 94, 95, 96, 97, 98, 99, 100, 101, 102, 103, 104, 105, 106, 107, 108, 109, 110, 111, 112, 113, 114, 115, 116, 117, 118, 119, 120] (by decide +kernel) (by decide +kernel)
set_option maxRecDepth 20000 in
theorem gX8_spare_X8_spareBy : GoodIn wsX8_spare (wsV RX8 240 RX8 yX8_spareBy wsX8_spareBy) := goodIn_app (goodIn_of _ (by decide +kernel)) ggX8_spare_X8_spareBy
theorem dX8_spare_0 : decode cX8_spare 0 = .ok (.aload_n 0, 1) := by decide +kernel
theorem dX8_spare_1 : decode cX8_spare 1 = .ok (.invokevirtual 187, 3) := by decide +kernel
theorem dX8_spare_4 : decode cX8_spare 4 = .ok (.iload_n 1, 1) := by decide +kernel
theorem dX8_spare_5 : decode cX8_spare 5 = .ok (.i2l, 1) := by decide +kernel
theorem dX8_spare_6 : decode cX8_spare 6 = .ok (.ldc2_w 238, 3) := by decide +kernel
theorem dX8_spare_9 : decode cX8_spare 9 = .ok (.lconst 1, 1) := by decide +kernel
theorem dX8_spare_10 : decode cX8_spare 10 = .ok (.invokestatic 77, 3) := by decide +kernel
theorem dX8_spare_13 : decode cX8_spare 13 = .ok (.ifCond .eq 11, 3) := by decide +kernel
theorem dX8_spare_16 : decode cX8_spare 16 = .ok (.aload_n 0, 1) := by decide +kernel
theorem dX8_spare_17 : decode cX8_spare 17 = .ok (.iload_n 1, 1) := by decide +kernel
theorem dX8_spare_18 : decode cX8_spare 18 = .ok (.invokevirtual 240, 3) := by decide +kernel
theorem dX8_spare_21 : decode cX8_spare 21 = .ok (.goto 5, 3) := by decide +kernel
theorem dX8_spare_24 : decode cX8_spare 24 = .ok (.bipush (-2), 2) := by decide +kernel
theorem dX8_spare_26 : decode cX8_spare 26 = .ok (.ireturn, 1) := by decide +kernel
set_option maxRecDepth 20000 in
theorem ggX8_seen_X8_isMonth : GoodIn wsX8_seen wsX8_isMonth := goodIn_r _ [9, 10, 11, 12, 8, 13] (by decide +kernel) (by decide +kernel)
set_option maxRecDepth 20000 in
theorem gX8_seen_X8_isMonth : GoodIn wsX8_seen (va_wsS RX8 131 yX8_isMonth wsX8_isMonth) := goodIn_app (goodIn_of _ (by decide +kernel)) ggX8_seen_X8_isMonth
set_option maxRecDepth 20000 in
theorem ggX8_seen_X8_in : GoodIn wsX8_seen wsX8_in := goodIn_r _ [13] (by decide +kernel) (by decide +kernel)
set_option maxRecDepth 20000 in
theorem gX8_seen_X8_in : GoodIn wsX8_seen (va_wsS RX8 77 yX8_in wsX8_in) := goodIn_app (goodIn_of _ (by decide +kernel)) ggX8_seen_X8_in
theorem dX8_seen_0 : decode cX8_seen 0 = .ok (.iload_n 1, 1) := by decide +kernel
theorem dX8_seen_1 : decode cX8_seen 1 = .ok (.invokestatic 131, 3) := by decide +kernel
theorem dX8_seen_4 : decode cX8_seen 4 = .ok (.ifCond .eq 29, 3) := by decide +kernel
theorem dX8_seen_7 : decode cX8_seen 7 = .ok (.iload_n 2, 1) := by decide +kernel
theorem dX8_seen_8 : decode cX8_seen 8 = .ok (.i2l, 1) := by decide +kernel
theorem dX8_seen_9 : decode cX8_seen 9 = .ok (.lconst 0, 1) := by decide +kernel
theorem dX8_seen_10 : decode cX8_seen 10 = .ok (.ldc2_w 134, 3) := by decide +kernel
theorem dX8_seen_13 : decode cX8_seen 13 = .ok (.invokestatic 77, 3) := by decide +kernel
theorem dX8_seen_16 : decode cX8_seen 16 = .ok (.ifCond .eq 17, 3) := by decide +kernel
theorem dX8_seen_19 : decode cX8_seen 19 = .ok (.iload_n 3, 1) := by decide +kernel
theorem dX8_seen_20 : decode cX8_seen 20 = .ok (.i2l, 1) := by decide +kernel
theorem dX8_seen_21 : decode cX8_seen 21 = .ok (.ldc2_w 238, 3) := by decide +kernel
theorem dX8_seen_24 : decode cX8_seen 24 = .ok (.ldc2_w 193, 3) := by decide +kernel
theorem dX8_seen_27 : decode cX8_seen 27 = .ok (.invokestatic 77, 3) := by decide +kernel
theorem dX8_seen_30 : decode cX8_seen 30 = .ok (.ifCond .ne 6, 3) := by decide +kernel
theorem dX8_seen_33 : decode cX8_seen 33 = .ok (.bipush (-2), 2) := by decide +kernel
theorem dX8_seen_35 : decode cX8_seen 35 = .ok (.ireturn, 1) := by decide +kernel
theorem dX8_seen_36 : decode cX8_seen 36 = .ok (.aload_n 0, 1) := by decide +kernel
theorem dX8_seen_37 : decode cX8_seen 37 = .ok (.getfield 243, 3) := by decide +kernel
theorem dX8_seen_40 : decode cX8_seen 40 = .ok (.bipush 8, 2) := by decide +kernel
theorem dX8_seen_42 : decode cX8_seen 42 = .ok (.if_icmp .ne 6, 3) := by decide +kernel
theorem dX8_seen_45 : decode cX8_seen 45 = .ok (.bipush (-4), 2) := by decide +kernel
theorem dX8_seen_47 : decode cX8_seen 47 = .ok (.ireturn, 1) := by decide +kernel
theorem dX8_seen_48 : decode cX8_seen 48 = .ok (.aload_n 0, 1) := by decide +kernel
theorem dX8_seen_49 : decode cX8_seen 49 = .ok (.getfield 64, 3) := by decide +kernel
theorem dX8_seen_52 : decode cX8_seen 52 = .ok (.iconst 3, 1) := by decide +kernel
theorem dX8_seen_53 : decode cX8_seen 53 = .ok (.aload_n 0, 1) := by decide +kernel
theorem dX8_seen_54 : decode cX8_seen 54 = .ok (.getfield 243, 3) := by decide +kernel
theorem dX8_seen_57 : decode cX8_seen 57 = .ok (.imul, 1) := by decide +kernel
theorem dX8_seen_58 : decode cX8_seen 58 = .ok (.iload_n 1, 1) := by decide +kernel
theorem dX8_seen_59 : decode cX8_seen 59 = .ok (.iastore, 1) := by decide +kernel
theorem dX8_seen_60 : decode cX8_seen 60 = .ok (.aload_n 0, 1) := by decide +kernel
theorem dX8_seen_61 : decode cX8_seen 61 = .ok (.getfield 64, 3) := by decide +kernel
theorem dX8_seen_64 : decode cX8_seen 64 = .ok (.iconst 3, 1) := by decide +kernel
theorem dX8_seen_65 : decode cX8_seen 65 = .ok (.aload_n 0, 1) := by decide +kernel
theorem dX8_seen_66 : decode cX8_seen 66 = .ok (.getfield 243, 3) := by decide +kernel
theorem dX8_seen_69 : decode cX8_seen 69 = .ok (.imul, 1) := by decide +kernel
theorem dX8_seen_70 : decode cX8_seen 70 = .ok (.iconst 1, 1) := by decide +kernel
theorem dX8_seen_71 : decode cX8_seen 71 = .ok (.iadd, 1) := by decide +kernel
theorem dX8_seen_72 : decode cX8_seen 72 = .ok (.iload_n 2, 1) := by decide +kernel
theorem dX8_seen_73 : decode cX8_seen 73 = .ok (.iastore, 1) := by decide +kernel
theorem dX8_seen_74 : decode cX8_seen 74 = .ok (.aload_n 0, 1) := by decide +kernel
theorem dX8_seen_75 : decode cX8_seen 75 = .ok (.getfield 64, 3) := by decide +kernel
theorem dX8_seen_78 : decode cX8_seen 78 = .ok (.iconst 3, 1) := by decide +kernel
theorem dX8_seen_79 : decode cX8_seen 79 = .ok (.aload_n 0, 1) := by decide +kernel
theorem dX8_seen_80 : decode cX8_seen 80 = .ok (.getfield 243, 3) := by decide +kernel
theorem dX8_seen_83 : decode cX8_seen 83 = .ok (.imul, 1) := by decide +kernel
theorem dX8_seen_84 : decode cX8_seen 84 = .ok (.iconst 2, 1) := by decide +kernel
theorem dX8_seen_85 : decode cX8_seen 85 = .ok (.iadd, 1) := by decide +kernel
theorem dX8_seen_86 : decode cX8_seen 86 = .ok (.iload_n 3, 1) := by decide +kernel
theorem dX8_seen_87 : decode cX8_seen 87 = .ok (.iastore, 1) := by decide +kernel
theorem dX8_seen_88 : decode cX8_seen 88 = .ok (.aload_n 0, 1) := by decide +kernel
theorem dX8_seen_89 : decode cX8_seen 89 = .ok (.dup, 1) := by decide +kernel
theorem dX8_seen_90 : decode cX8_seen 90 = .ok (.getfield 243, 3) := by decide +kernel
theorem dX8_seen_93 : decode cX8_seen 93 = .ok (.iconst 1, 1) := by decide +kernel
theorem dX8_seen_94 : decode cX8_seen 94 = .ok (.iadd, 1) := by decide +kernel
theorem dX8_seen_95 : decode cX8_seen 95 = .ok (.putfield 243, 3) := by decide +kernel
theorem dX8_seen_98 : decode cX8_seen 98 = .ok (.aload_n 0, 1) := by decide +kernel
theorem dX8_seen_99 : decode cX8_seen 99 = .ok (.getfield 243, 3) := by decide +kernel
theorem dX8_seen_102 : decode cX8_seen 102 = .ok (.ireturn, 1) := by decide +kernel
theorem dX8_forget_0 : decode cX8_forget 0 = .ok (.aload_n 0, 1) := by decide +kernel
theorem dX8_forget_1 : decode cX8_forget 1 = .ok (.getfield 243, 3) := by decide +kernel
theorem dX8_forget_4 : decode cX8_forget 4 = .ok (.istore_n 1, 1) := by decide +kernel
theorem dX8_forget_5 : decode cX8_forget 5 = .ok (.aload_n 0, 1) := by decide +kernel
theorem dX8_forget_6 : decode cX8_forget 6 = .ok (.iconst 0, 1) := by decide +kernel
theorem dX8_forget_7 : decode cX8_forget 7 = .ok (.putfield 243, 3) := by decide +kernel
theorem dX8_forget_10 : decode cX8_forget 10 = .ok (.iload_n 1, 1) := by decide +kernel
theorem dX8_forget_11 : decode cX8_forget 11 = .ok (.ireturn, 1) := by decide +kernel
set_option maxRecDepth 20000 in
theorem ggX8_isSeen_X8_lives : GoodIn wsX8_isSeen wsX8_lives := goodIn_r _ [8, 9, 10, 11, 12, 13, 14, 15, 16, 17, 18, 19, 7, 20, 21, 3, 22, 23, 24, 25, 26, 27, 28, 29, 30, 31, 32, 33, 34, 35, 36, 37, 38, 39, 40, 41, 42, 43, 44, 45, 46, 47, 48, 49, 50, 51, 52, 53, 54, 55, 56, 57, 58, 59, 60, 61, 62, 63, 64, 65, 66, 67, 68, 69, 70, 71, 72, 73, 74, 75, 76, 77, 78, 79, 80, 81, 82, 83, 84, 85, 86, 87, 88, 89, 90, 91, 92, 93, 94] (by decide +kernel) (by decide +kernel)
set_option maxRecDepth 20000 in
theorem gX8_isSeen_X8_lives : GoodIn wsX8_isSeen (wsV RX8 178 RX8 yX8_lives wsX8_lives) := goodIn_app (goodIn_of _ (by decide +kernel)) ggX8_isSeen_X8_lives
set_option maxRecDepth 20000 in
theorem ggX8_isSeen_X8_isTenant : GoodIn wsX8_isSeen wsX8_isTenant := goodIn_r _ [38, 9, 39, 40, 7, 41, 66, 67, 68, 69, 70, 71, 72, 73, 74, 75, 76, 77, 78, 79, 80, 81, 82, 83, 84, 85, 86, 87, 88, 89, 90, 91, 92, 93, 94] (by decide +kernel) (by decide +kernel)
set_option maxRecDepth 20000 in
theorem gX8_isSeen_X8_isTenant : GoodIn wsX8_isSeen (wsV RX8 126 RX8 yX8_isTenant wsX8_isTenant) := goodIn_app (goodIn_of _ (by decide +kernel)) ggX8_isSeen_X8_isTenant
theorem dX8_isSeen_0 : decode cX8_isSeen 0 = .ok (.aload_n 0, 1) := by decide +kernel
theorem dX8_isSeen_1 : decode cX8_isSeen 1 = .ok (.invokevirtual 178, 3) := by decide +kernel
theorem dX8_isSeen_4 : decode cX8_isSeen 4 = .ok (.iconst 1, 1) := by decide +kernel
theorem dX8_isSeen_5 : decode cX8_isSeen 5 = .ok (.istore_n 1, 1) := by decide +kernel
theorem dX8_isSeen_6 : decode cX8_isSeen 6 = .ok (.iconst 0, 1) := by decide +kernel
theorem dX8_isSeen_7 : decode cX8_isSeen 7 = .ok (.istore_n 2, 1) := by decide +kernel
theorem dX8_isSeen_8 : decode cX8_isSeen 8 = .ok (.iload_n 2, 1) := by decide +kernel
theorem dX8_isSeen_9 : decode cX8_isSeen 9 = .ok (.aload_n 0, 1) := by decide +kernel
theorem dX8_isSeen_10 : decode cX8_isSeen 10 = .ok (.getfield 243, 3) := by decide +kernel
theorem dX8_isSeen_13 : decode cX8_isSeen 13 = .ok (.if_icmp .ge 69, 3) := by decide +kernel
theorem dX8_isSeen_16 : decode cX8_isSeen 16 = .ok (.aload_n 0, 1) := by decide +kernel
theorem dX8_isSeen_17 : decode cX8_isSeen 17 = .ok (.getfield 64, 3) := by decide +kernel
theorem dX8_isSeen_20 : decode cX8_isSeen 20 = .ok (.iconst 3, 1) := by decide +kernel
theorem dX8_isSeen_21 : decode cX8_isSeen 21 = .ok (.iload_n 2, 1) := by decide +kernel
theorem dX8_isSeen_22 : decode cX8_isSeen 22 = .ok (.imul, 1) := by decide +kernel
theorem dX8_isSeen_23 : decode cX8_isSeen 23 = .ok (.iconst 1, 1) := by decide +kernel
theorem dX8_isSeen_24 : decode cX8_isSeen 24 = .ok (.iadd, 1) := by decide +kernel
theorem dX8_isSeen_25 : decode cX8_isSeen 25 = .ok (.iaload, 1) := by decide +kernel
theorem dX8_isSeen_26 : decode cX8_isSeen 26 = .ok (.istore_n 3, 1) := by decide +kernel
theorem dX8_isSeen_27 : decode cX8_isSeen 27 = .ok (.iload_n 1, 1) := by decide +kernel
theorem dX8_isSeen_28 : decode cX8_isSeen 28 = .ok (.ifCond .eq 46, 3) := by decide +kernel
theorem dX8_isSeen_31 : decode cX8_isSeen 31 = .ok (.aload_n 0, 1) := by decide +kernel
theorem dX8_isSeen_32 : decode cX8_isSeen 32 = .ok (.iload_n 3, 1) := by decide +kernel
theorem dX8_isSeen_33 : decode cX8_isSeen 33 = .ok (.invokevirtual 126, 3) := by decide +kernel
theorem dX8_isSeen_36 : decode cX8_isSeen 36 = .ok (.ifCond .eq 38, 3) := by decide +kernel
theorem dX8_isSeen_39 : decode cX8_isSeen 39 = .ok (.aload_n 0, 1) := by decide +kernel
theorem dX8_isSeen_40 : decode cX8_isSeen 40 = .ok (.getfield 55, 3) := by decide +kernel
theorem dX8_isSeen_43 : decode cX8_isSeen 43 = .ok (.bipush 8, 2) := by decide +kernel
theorem dX8_isSeen_45 : decode cX8_isSeen 45 = .ok (.aload_n 0, 1) := by decide +kernel
theorem dX8_isSeen_46 : decode cX8_isSeen 46 = .ok (.getfield 64, 3) := by decide +kernel
theorem dX8_isSeen_49 : decode cX8_isSeen 49 = .ok (.iconst 3, 1) := by decide +kernel
theorem dX8_isSeen_50 : decode cX8_isSeen 50 = .ok (.iload_n 2, 1) := by decide +kernel
theorem dX8_isSeen_51 : decode cX8_isSeen 51 = .ok (.imul, 1) := by decide +kernel
theorem dX8_isSeen_52 : decode cX8_isSeen 52 = .ok (.iaload, 1) := by decide +kernel
theorem dX8_isSeen_53 : decode cX8_isSeen 53 = .ok (.imul, 1) := by decide +kernel
theorem dX8_isSeen_54 : decode cX8_isSeen 54 = .ok (.iload_n 3, 1) := by decide +kernel
theorem dX8_isSeen_55 : decode cX8_isSeen 55 = .ok (.iadd, 1) := by decide +kernel
theorem dX8_isSeen_56 : decode cX8_isSeen 56 = .ok (.iaload, 1) := by decide +kernel
theorem dX8_isSeen_57 : decode cX8_isSeen 57 = .ok (.aload_n 0, 1) := by decide +kernel
theorem dX8_isSeen_58 : decode cX8_isSeen 58 = .ok (.getfield 64, 3) := by decide +kernel
theorem dX8_isSeen_61 : decode cX8_isSeen 61 = .ok (.iconst 3, 1) := by decide +kernel
theorem dX8_isSeen_62 : decode cX8_isSeen 62 = .ok (.iload_n 2, 1) := by decide +kernel
theorem dX8_isSeen_63 : decode cX8_isSeen 63 = .ok (.imul, 1) := by decide +kernel
theorem dX8_isSeen_64 : decode cX8_isSeen 64 = .ok (.iconst 2, 1) := by decide +kernel
theorem dX8_isSeen_65 : decode cX8_isSeen 65 = .ok (.iadd, 1) := by decide +kernel
theorem dX8_isSeen_66 : decode cX8_isSeen 66 = .ok (.iaload, 1) := by decide +kernel
theorem dX8_isSeen_67 : decode cX8_isSeen 67 = .ok (.if_icmp .ne 7, 3) := by decide +kernel
theorem dX8_isSeen_70 : decode cX8_isSeen 70 = .ok (.iconst 1, 1) := by decide +kernel
theorem dX8_isSeen_71 : decode cX8_isSeen 71 = .ok (.goto 4, 3) := by decide +kernel
theorem dX8_isSeen_74 : decode cX8_isSeen 74 = .ok (.iconst 0, 1) := by decide +kernel
theorem dX8_isSeen_75 : decode cX8_isSeen 75 = .ok (.istore_n 1, 1) := by decide +kernel
theorem dX8_isSeen_76 : decode cX8_isSeen 76 = .ok (.iinc 2 1, 3) := by decide +kernel
theorem dX8_isSeen_79 : decode cX8_isSeen 79 = .ok (.goto (-71), 3) := by decide +kernel
theorem dX8_isSeen_82 : decode cX8_isSeen 82 = .ok (.iload_n 1, 1) := by decide +kernel
theorem dX8_isSeen_83 : decode cX8_isSeen 83 = .ok (.ireturn, 1) := by decide +kernel
set_option maxRecDepth 20000 in
theorem ggX8_neverNow_X8_isSeen : GoodIn wsX8_neverNow wsX8_isSeen := goodIn_r _ [7, 8, 9, 10, 11, 12, 13, 6, 14, 15, 16, 17, 18, 19, 20, 21, 22, 23, 24, 25, 26, 27, 28, 29, 30, 31, 32, 33, 34, 1, 35, 2, 36, 37, 38, 39, 40, 41, 42, 43, 44, 45, 46, 47, 48, 49, 50, 51, 52, 53, 54, 55, 56, 57, 58, 59, 60, 61, 62, 63, 64, 65, 66, 67, 68, 69, 70, 71, 72, 73, 74, 75, 76, 77, 78, 79, 80, 81, 82, 83, 84, 85, 86, 87, 88, 89, 90, 91, 92, 93, 94, 95, 96, 97, 98] (by decide +kernel) (by decide +kernel)
set_option maxRecDepth 20000 in
theorem gX8_neverNow_X8_isSeen : GoodIn wsX8_neverNow (wsV RX8 246 RX8 yX8_isSeen wsX8_isSeen) := goodIn_app (goodIn_of _ (by decide +kernel)) ggX8_neverNow_X8_isSeen
theorem dX8_neverNow_0 : decode cX8_neverNow 0 = .ok (.iconst 0, 1) := by decide +kernel
theorem dX8_neverNow_1 : decode cX8_neverNow 1 = .ok (.istore_n 1, 1) := by decide +kernel
theorem dX8_neverNow_2 : decode cX8_neverNow 2 = .ok (.iconst 0, 1) := by decide +kernel
theorem dX8_neverNow_3 : decode cX8_neverNow 3 = .ok (.istore_n 2, 1) := by decide +kernel
theorem dX8_neverNow_4 : decode cX8_neverNow 4 = .ok (.iload_n 2, 1) := by decide +kernel
theorem dX8_neverNow_5 : decode cX8_neverNow 5 = .ok (.aload_n 0, 1) := by decide +kernel
theorem dX8_neverNow_6 : decode cX8_neverNow 6 = .ok (.getfield 136, 3) := by decide +kernel
theorem dX8_neverNow_9 : decode cX8_neverNow 9 = .ok (.if_icmp .ge 33, 3) := by decide +kernel
theorem dX8_neverNow_12 : decode cX8_neverNow 12 = .ok (.aload_n 0, 1) := by decide +kernel
theorem dX8_neverNow_13 : decode cX8_neverNow 13 = .ok (.iconst 1, 1) := by decide +kernel
theorem dX8_neverNow_14 : decode cX8_neverNow 14 = .ok (.iload_n 2, 1) := by decide +kernel
theorem dX8_neverNow_15 : decode cX8_neverNow 15 = .ok (.ishl, 1) := by decide +kernel
theorem dX8_neverNow_16 : decode cX8_neverNow 16 = .ok (.putfield 145, 3) := by decide +kernel
theorem dX8_neverNow_19 : decode cX8_neverNow 19 = .ok (.iload_n 1, 1) := by decide +kernel
theorem dX8_neverNow_20 : decode cX8_neverNow 20 = .ok (.aload_n 0, 1) := by decide +kernel
theorem dX8_neverNow_21 : decode cX8_neverNow 21 = .ok (.invokevirtual 246, 3) := by decide +kernel
theorem dX8_neverNow_24 : decode cX8_neverNow 24 = .ok (.ifCond .eq 9, 3) := by decide +kernel
theorem dX8_neverNow_27 : decode cX8_neverNow 27 = .ok (.iconst 1, 1) := by decide +kernel
theorem dX8_neverNow_28 : decode cX8_neverNow 28 = .ok (.iload_n 2, 1) := by decide +kernel
theorem dX8_neverNow_29 : decode cX8_neverNow 29 = .ok (.ishl, 1) := by decide +kernel
theorem dX8_neverNow_30 : decode cX8_neverNow 30 = .ok (.goto 4, 3) := by decide +kernel
theorem dX8_neverNow_33 : decode cX8_neverNow 33 = .ok (.iconst 0, 1) := by decide +kernel
theorem dX8_neverNow_34 : decode cX8_neverNow 34 = .ok (.ior, 1) := by decide +kernel
theorem dX8_neverNow_35 : decode cX8_neverNow 35 = .ok (.istore_n 1, 1) := by decide +kernel
theorem dX8_neverNow_36 : decode cX8_neverNow 36 = .ok (.iinc 2 1, 3) := by decide +kernel
theorem dX8_neverNow_39 : decode cX8_neverNow 39 = .ok (.goto (-35), 3) := by decide +kernel
theorem dX8_neverNow_42 : decode cX8_neverNow 42 = .ok (.aload_n 0, 1) := by decide +kernel
theorem dX8_neverNow_43 : decode cX8_neverNow 43 = .ok (.iconst 0, 1) := by decide +kernel
theorem dX8_neverNow_44 : decode cX8_neverNow 44 = .ok (.putfield 145, 3) := by decide +kernel
theorem dX8_neverNow_47 : decode cX8_neverNow 47 = .ok (.iload_n 1, 1) := by decide +kernel
theorem dX8_neverNow_48 : decode cX8_neverNow 48 = .ok (.ireturn, 1) := by decide +kernel
set_option maxRecDepth 20000 in
theorem ggX8_never_X8_find : GoodIn wsX8_never wsX8_find := goodIn_r _ [5, 6, 7, 8, 4, 9, 10, 11, 12, 13, 14, 15, 16, 17, 18, 19, 20, 21, 22, 23, 24, 25, 26, 27, 28, 29, 30, 31, 32, 33, 34, 35, 36, 37, 38, 39, 40, 41, 42, 43, 44, 45, 46, 47, 48, 49, 50, 51, 52, 53, 54, 55, 56, 57, 58, 59, 60, 61, 62, 63, 64, 65, 66, 67, 68, 69, 70, 71, 72, 73, 74, 75, 76, 77, 78, 89, 90, 91, 92, 93, 94, 95, 96, 97, 98, 99, 100, 101, 102, 103, 104, 105, 106, 107, 108, 109, 110, 111, 112, 113, 114, 115, 116, 117] (by decide +kernel) (by decide +kernel)
set_option maxRecDepth 20000 in
theorem gX8_never_X8_find : GoodIn wsX8_never (wsV RX8 187 RX8 yX8_find wsX8_find) := goodIn_app (goodIn_of _ (by decide +kernel)) ggX8_never_X8_find
set_option maxRecDepth 20000 in
theorem ggX8_never_X8_neverNow : GoodIn wsX8_never wsX8_neverNow := goodIn_r _ [82, 45, 47, 83, 84, 85, 4, 86, 87, 88, 37, 22, 23, 24, 25, 10, 26, 27, 13, 28, 29, 30, 31, 32, 33, 34, 35, 36, 38, 39, 40, 41, 42, 43, 44, 46, 48, 49, 50, 51, 52, 53, 54, 19, 20, 21, 55, 56, 57, 58, 59, 60, 61, 62, 63, 64, 65, 66, 67, 68, 69, 70, 71, 72, 73, 74, 75, 76, 77, 78, 89, 90, 91, 92, 93, 94, 95, 96, 97, 98, 99, 100, 101, 102, 103, 104, 105, 106, 107, 108, 109, 110, 111, 112, 113, 114, 115, 116, 117] (by decide +kernel) (by decide +kernel)
set_option maxRecDepth 20000 in
theorem gX8_never_X8_neverNow : GoodIn wsX8_never (wsV RX8 250 RX8 yX8_neverNow wsX8_neverNow) := goodIn_app (goodIn_of _ (by decide +kernel)) ggX8_never_X8_neverNow
theorem dX8_never_0 : decode cX8_never 0 = .ok (.aload_n 0, 1) := by decide +kernel
theorem dX8_never_1 : decode cX8_never 1 = .ok (.invokevirtual 187, 3) := by decide +kernel
theorem dX8_never_4 : decode cX8_never 4 = .ok (.aload_n 0, 1) := by decide +kernel
theorem dX8_never_5 : decode cX8_never 5 = .ok (.invokevirtual 250, 3) := by decide +kernel
theorem dX8_never_8 : decode cX8_never 8 = .ok (.ireturn, 1) := by decide +kernel
theorem dX8_rowOf_0 : decode cX8_rowOf 0 = .ok (.lconst 0, 1) := by decide +kernel
theorem dX8_rowOf_1 : decode cX8_rowOf 1 = .ok (.lstore_n 2, 1) := by decide +kernel
theorem dX8_rowOf_2 : decode cX8_rowOf 2 = .ok (.iconst 0, 1) := by decide +kernel
theorem dX8_rowOf_3 : decode cX8_rowOf 3 = .ok (.istore 4, 2) := by decide +kernel
theorem dX8_rowOf_5 : decode cX8_rowOf 5 = .ok (.iload 4, 2) := by decide +kernel
theorem dX8_rowOf_7 : decode cX8_rowOf 7 = .ok (.aload_n 0, 1) := by decide +kernel
theorem dX8_rowOf_8 : decode cX8_rowOf 8 = .ok (.getfield 114, 3) := by decide +kernel
theorem dX8_rowOf_11 : decode cX8_rowOf 11 = .ok (.if_icmp .ge 31, 3) := by decide +kernel
theorem dX8_rowOf_14 : decode cX8_rowOf 14 = .ok (.ldc2_w 253, 3) := by decide +kernel
theorem dX8_rowOf_17 : decode cX8_rowOf 17 = .ok (.lload_n 2, 1) := by decide +kernel
theorem dX8_rowOf_18 : decode cX8_rowOf 18 = .ok (.lmul, 1) := by decide +kernel
theorem dX8_rowOf_19 : decode cX8_rowOf 19 = .ok (.aload_n 0, 1) := by decide +kernel
theorem dX8_rowOf_20 : decode cX8_rowOf 20 = .ok (.getfield 55, 3) := by decide +kernel
theorem dX8_rowOf_23 : decode cX8_rowOf 23 = .ok (.bipush 8, 2) := by decide +kernel
theorem dX8_rowOf_25 : decode cX8_rowOf 25 = .ok (.iload_n 1, 1) := by decide +kernel
theorem dX8_rowOf_26 : decode cX8_rowOf 26 = .ok (.imul, 1) := by decide +kernel
theorem dX8_rowOf_27 : decode cX8_rowOf 27 = .ok (.iload 4, 2) := by decide +kernel
theorem dX8_rowOf_29 : decode cX8_rowOf 29 = .ok (.iadd, 1) := by decide +kernel
theorem dX8_rowOf_30 : decode cX8_rowOf 30 = .ok (.iaload, 1) := by decide +kernel
theorem dX8_rowOf_31 : decode cX8_rowOf 31 = .ok (.i2l, 1) := by decide +kernel
theorem dX8_rowOf_32 : decode cX8_rowOf 32 = .ok (.ladd, 1) := by decide +kernel
theorem dX8_rowOf_33 : decode cX8_rowOf 33 = .ok (.lconst 1, 1) := by decide +kernel
theorem dX8_rowOf_34 : decode cX8_rowOf 34 = .ok (.ladd, 1) := by decide +kernel
theorem dX8_rowOf_35 : decode cX8_rowOf 35 = .ok (.lstore_n 2, 1) := by decide +kernel
theorem dX8_rowOf_36 : decode cX8_rowOf 36 = .ok (.iinc 4 1, 3) := by decide +kernel
theorem dX8_rowOf_39 : decode cX8_rowOf 39 = .ok (.goto (-34), 3) := by decide +kernel
theorem dX8_rowOf_42 : decode cX8_rowOf 42 = .ok (.lload_n 2, 1) := by decide +kernel
theorem dX8_rowOf_43 : decode cX8_rowOf 43 = .ok (.lreturn, 1) := by decide +kernel
set_option maxRecDepth 20000 in
theorem ggX8_wagesOf_X8_isSeen : GoodIn wsX8_wagesOf wsX8_isSeen := goodIn_r _ [7, 8, 9, 10, 11, 12, 13, 6, 14, 15, 16, 17, 1, 18, 19, 20, 21, 22, 23, 24, 25, 26, 27, 28, 29, 30, 31, 32, 33, 34, 35, 36, 37, 38, 39, 40, 41, 42, 43, 44, 45, 46, 47, 48, 49, 50, 51, 52, 53, 54, 55, 56, 57, 58, 59, 60, 61, 62, 63, 64, 65, 66, 67, 68, 69, 70, 76, 77, 78, 79, 80, 81, 82, 83, 84, 85, 86, 87, 88, 89, 90, 91, 92, 93, 94, 95, 96, 97, 98, 99, 100, 101, 102, 103, 104] (by decide +kernel) (by decide +kernel)
set_option maxRecDepth 20000 in
theorem gX8_wagesOf_X8_isSeen : GoodIn wsX8_wagesOf (wsV RX8 246 RX8 yX8_isSeen wsX8_isSeen) := goodIn_app (goodIn_of _ (by decide +kernel)) ggX8_wagesOf_X8_isSeen
set_option maxRecDepth 20000 in
theorem ggX8_wagesOf_X8_rowOf : GoodIn wsX8_wagesOf wsX8_rowOf := goodIn_r _ [74, 15, 75, 10, 76, 77, 78, 79, 80, 81, 82, 83, 84, 85, 86, 87, 88, 89, 90, 91, 92, 93, 94, 95, 96, 97, 98, 99, 100, 101, 102, 103, 104] (by decide +kernel) (by decide +kernel)
set_option maxRecDepth 20000 in
theorem gX8_wagesOf_X8_rowOf : GoodIn wsX8_wagesOf (wsV RX8 255 RX8 yX8_rowOf wsX8_rowOf) := goodIn_app (goodIn_of _ (by decide +kernel)) ggX8_wagesOf_X8_rowOf
theorem dX8_wagesOf_0 : decode cX8_wagesOf 0 = .ok (.iconst 3, 1) := by decide +kernel
theorem dX8_wagesOf_1 : decode cX8_wagesOf 1 = .ok (.iload_n 1, 1) := by decide +kernel
theorem dX8_wagesOf_2 : decode cX8_wagesOf 2 = .ok (.imul, 1) := by decide +kernel
theorem dX8_wagesOf_3 : decode cX8_wagesOf 3 = .ok (.iconst 2, 1) := by decide +kernel
theorem dX8_wagesOf_4 : decode cX8_wagesOf 4 = .ok (.iadd, 1) := by decide +kernel
theorem dX8_wagesOf_5 : decode cX8_wagesOf 5 = .ok (.istore_n 2, 1) := by decide +kernel
theorem dX8_wagesOf_6 : decode cX8_wagesOf 6 = .ok (.aload_n 0, 1) := by decide +kernel
theorem dX8_wagesOf_7 : decode cX8_wagesOf 7 = .ok (.getfield 25, 3) := by decide +kernel
theorem dX8_wagesOf_10 : decode cX8_wagesOf 10 = .ok (.iload_n 2, 1) := by decide +kernel
theorem dX8_wagesOf_11 : decode cX8_wagesOf 11 = .ok (.iaload, 1) := by decide +kernel
theorem dX8_wagesOf_12 : decode cX8_wagesOf 12 = .ok (.istore_n 3, 1) := by decide +kernel
theorem dX8_wagesOf_13 : decode cX8_wagesOf 13 = .ok (.iconst 0, 1) := by decide +kernel
theorem dX8_wagesOf_14 : decode cX8_wagesOf 14 = .ok (.istore 4, 2) := by decide +kernel
theorem dX8_wagesOf_16 : decode cX8_wagesOf 16 = .ok (.iconst 0, 1) := by decide +kernel
theorem dX8_wagesOf_17 : decode cX8_wagesOf 17 = .ok (.istore 5, 2) := by decide +kernel
theorem dX8_wagesOf_19 : decode cX8_wagesOf 19 = .ok (.iload 5, 2) := by decide +kernel
theorem dX8_wagesOf_21 : decode cX8_wagesOf 21 = .ok (.bipush 10, 2) := by decide +kernel
theorem dX8_wagesOf_23 : decode cX8_wagesOf 23 = .ok (.if_icmp .ge 72, 3) := by decide +kernel
theorem dX8_wagesOf_26 : decode cX8_wagesOf 26 = .ok (.aload_n 0, 1) := by decide +kernel
theorem dX8_wagesOf_27 : decode cX8_wagesOf 27 = .ok (.getfield 25, 3) := by decide +kernel
theorem dX8_wagesOf_30 : decode cX8_wagesOf 30 = .ok (.iload_n 2, 1) := by decide +kernel
theorem dX8_wagesOf_31 : decode cX8_wagesOf 31 = .ok (.iload 5, 2) := by decide +kernel
theorem dX8_wagesOf_33 : decode cX8_wagesOf 33 = .ok (.iastore, 1) := by decide +kernel
theorem dX8_wagesOf_34 : decode cX8_wagesOf 34 = .ok (.iload 4, 2) := by decide +kernel
theorem dX8_wagesOf_36 : decode cX8_wagesOf 36 = .ok (.aload_n 0, 1) := by decide +kernel
theorem dX8_wagesOf_37 : decode cX8_wagesOf 37 = .ok (.invokevirtual 246, 3) := by decide +kernel
theorem dX8_wagesOf_40 : decode cX8_wagesOf 40 = .ok (.ifCond .eq 10, 3) := by decide +kernel
theorem dX8_wagesOf_43 : decode cX8_wagesOf 43 = .ok (.iconst 1, 1) := by decide +kernel
theorem dX8_wagesOf_44 : decode cX8_wagesOf 44 = .ok (.iload 5, 2) := by decide +kernel
theorem dX8_wagesOf_46 : decode cX8_wagesOf 46 = .ok (.ishl, 1) := by decide +kernel
theorem dX8_wagesOf_47 : decode cX8_wagesOf 47 = .ok (.goto 4, 3) := by decide +kernel
theorem dX8_wagesOf_50 : decode cX8_wagesOf 50 = .ok (.iconst 0, 1) := by decide +kernel
theorem dX8_wagesOf_51 : decode cX8_wagesOf 51 = .ok (.ior, 1) := by decide +kernel
theorem dX8_wagesOf_52 : decode cX8_wagesOf 52 = .ok (.istore 4, 2) := by decide +kernel
theorem dX8_wagesOf_54 : decode cX8_wagesOf 54 = .ok (.iconst 0, 1) := by decide +kernel
theorem dX8_wagesOf_55 : decode cX8_wagesOf 55 = .ok (.istore 6, 2) := by decide +kernel
theorem dX8_wagesOf_57 : decode cX8_wagesOf 57 = .ok (.iload 6, 2) := by decide +kernel
theorem dX8_wagesOf_59 : decode cX8_wagesOf 59 = .ok (.bipush 24, 2) := by decide +kernel
theorem dX8_wagesOf_61 : decode cX8_wagesOf 61 = .ok (.if_icmp .ge 28, 3) := by decide +kernel
theorem dX8_wagesOf_64 : decode cX8_wagesOf 64 = .ok (.aload_n 0, 1) := by decide +kernel
theorem dX8_wagesOf_65 : decode cX8_wagesOf 65 = .ok (.getfield 67, 3) := by decide +kernel
theorem dX8_wagesOf_68 : decode cX8_wagesOf 68 = .ok (.bipush 24, 2) := by decide +kernel
theorem dX8_wagesOf_70 : decode cX8_wagesOf 70 = .ok (.iload 5, 2) := by decide +kernel
theorem dX8_wagesOf_72 : decode cX8_wagesOf 72 = .ok (.imul, 1) := by decide +kernel
theorem dX8_wagesOf_73 : decode cX8_wagesOf 73 = .ok (.iload 6, 2) := by decide +kernel
theorem dX8_wagesOf_75 : decode cX8_wagesOf 75 = .ok (.iadd, 1) := by decide +kernel
theorem dX8_wagesOf_76 : decode cX8_wagesOf 76 = .ok (.aload_n 0, 1) := by decide +kernel
theorem dX8_wagesOf_77 : decode cX8_wagesOf 77 = .ok (.iload 6, 2) := by decide +kernel
theorem dX8_wagesOf_79 : decode cX8_wagesOf 79 = .ok (.invokevirtual 255, 3) := by decide +kernel
theorem dX8_wagesOf_82 : decode cX8_wagesOf 82 = .ok (.lastore, 1) := by decide +kernel
theorem dX8_wagesOf_83 : decode cX8_wagesOf 83 = .ok (.iinc 6 1, 3) := by decide +kernel
theorem dX8_wagesOf_86 : decode cX8_wagesOf 86 = .ok (.goto (-29), 3) := by decide +kernel
theorem dX8_wagesOf_89 : decode cX8_wagesOf 89 = .ok (.iinc 5 1, 3) := by decide +kernel
theorem dX8_wagesOf_92 : decode cX8_wagesOf 92 = .ok (.goto (-73), 3) := by decide +kernel
theorem dX8_wagesOf_95 : decode cX8_wagesOf 95 = .ok (.aload_n 0, 1) := by decide +kernel
theorem dX8_wagesOf_96 : decode cX8_wagesOf 96 = .ok (.getfield 25, 3) := by decide +kernel
theorem dX8_wagesOf_99 : decode cX8_wagesOf 99 = .ok (.iload_n 2, 1) := by decide +kernel
theorem dX8_wagesOf_100 : decode cX8_wagesOf 100 = .ok (.iload_n 3, 1) := by decide +kernel
theorem dX8_wagesOf_101 : decode cX8_wagesOf 101 = .ok (.iastore, 1) := by decide +kernel
theorem dX8_wagesOf_102 : decode cX8_wagesOf 102 = .ok (.iload 4, 2) := by decide +kernel
theorem dX8_wagesOf_104 : decode cX8_wagesOf 104 = .ok (.ireturn, 1) := by decide +kernel
set_option maxRecDepth 20000 in
theorem ggX8_sortOf_X8_isSeen : GoodIn wsX8_sortOf wsX8_isSeen := goodIn_r _ [6, 7, 8, 9, 10, 11, 12, 5, 13, 14, 15, 16, 1, 17, 18, 19, 20, 21, 22, 23, 24, 25, 26, 27, 28, 29, 30, 31, 32, 33, 34, 35, 36, 37, 38, 39, 40, 41, 42, 43, 44, 45, 46, 47, 48, 49, 50, 51, 52, 53, 54, 55, 56, 57, 58, 59, 60, 61, 62, 63, 64, 65, 66, 67, 68, 69, 70, 71, 72, 73, 74, 75, 76, 77, 78, 79, 80, 81, 82, 83, 84, 85, 86, 87, 88, 89, 90, 91, 92, 93, 94, 95, 96, 97, 98] (by decide +kernel) (by decide +kernel)
set_option maxRecDepth 20000 in
theorem gX8_sortOf_X8_isSeen : GoodIn wsX8_sortOf (wsV RX8 246 RX8 yX8_isSeen wsX8_isSeen) := goodIn_app (goodIn_of _ (by decide +kernel)) ggX8_sortOf_X8_isSeen
theorem dX8_sortOf_0 : decode cX8_sortOf 0 = .ok (.aload_n 0, 1) := by decide +kernel
theorem dX8_sortOf_1 : decode cX8_sortOf 1 = .ok (.getfield 25, 3) := by decide +kernel
theorem dX8_sortOf_4 : decode cX8_sortOf 4 = .ok (.iconst 3, 1) := by decide +kernel
theorem dX8_sortOf_5 : decode cX8_sortOf 5 = .ok (.iload_n 1, 1) := by decide +kernel
theorem dX8_sortOf_6 : decode cX8_sortOf 6 = .ok (.imul, 1) := by decide +kernel
theorem dX8_sortOf_7 : decode cX8_sortOf 7 = .ok (.iaload, 1) := by decide +kernel
theorem dX8_sortOf_8 : decode cX8_sortOf 8 = .ok (.istore_n 2, 1) := by decide +kernel
theorem dX8_sortOf_9 : decode cX8_sortOf 9 = .ok (.iconst 0, 1) := by decide +kernel
theorem dX8_sortOf_10 : decode cX8_sortOf 10 = .ok (.istore_n 3, 1) := by decide +kernel
theorem dX8_sortOf_11 : decode cX8_sortOf 11 = .ok (.iconst 0, 1) := by decide +kernel
theorem dX8_sortOf_12 : decode cX8_sortOf 12 = .ok (.istore 4, 2) := by decide +kernel
theorem dX8_sortOf_14 : decode cX8_sortOf 14 = .ok (.iload 4, 2) := by decide +kernel
theorem dX8_sortOf_16 : decode cX8_sortOf 16 = .ok (.iconst 4, 1) := by decide +kernel
theorem dX8_sortOf_17 : decode cX8_sortOf 17 = .ok (.if_icmp .ge 37, 3) := by decide +kernel
theorem dX8_sortOf_20 : decode cX8_sortOf 20 = .ok (.aload_n 0, 1) := by decide +kernel
theorem dX8_sortOf_21 : decode cX8_sortOf 21 = .ok (.getfield 25, 3) := by decide +kernel
theorem dX8_sortOf_24 : decode cX8_sortOf 24 = .ok (.iconst 3, 1) := by decide +kernel
theorem dX8_sortOf_25 : decode cX8_sortOf 25 = .ok (.iload_n 1, 1) := by decide +kernel
theorem dX8_sortOf_26 : decode cX8_sortOf 26 = .ok (.imul, 1) := by decide +kernel
theorem dX8_sortOf_27 : decode cX8_sortOf 27 = .ok (.iload 4, 2) := by decide +kernel
theorem dX8_sortOf_29 : decode cX8_sortOf 29 = .ok (.iastore, 1) := by decide +kernel
theorem dX8_sortOf_30 : decode cX8_sortOf 30 = .ok (.iload_n 3, 1) := by decide +kernel
theorem dX8_sortOf_31 : decode cX8_sortOf 31 = .ok (.aload_n 0, 1) := by decide +kernel
theorem dX8_sortOf_32 : decode cX8_sortOf 32 = .ok (.invokevirtual 246, 3) := by decide +kernel
theorem dX8_sortOf_35 : decode cX8_sortOf 35 = .ok (.ifCond .eq 10, 3) := by decide +kernel
theorem dX8_sortOf_38 : decode cX8_sortOf 38 = .ok (.iconst 1, 1) := by decide +kernel
theorem dX8_sortOf_39 : decode cX8_sortOf 39 = .ok (.iload 4, 2) := by decide +kernel
theorem dX8_sortOf_41 : decode cX8_sortOf 41 = .ok (.ishl, 1) := by decide +kernel
theorem dX8_sortOf_42 : decode cX8_sortOf 42 = .ok (.goto 4, 3) := by decide +kernel
theorem dX8_sortOf_45 : decode cX8_sortOf 45 = .ok (.iconst 0, 1) := by decide +kernel
theorem dX8_sortOf_46 : decode cX8_sortOf 46 = .ok (.ior, 1) := by decide +kernel
theorem dX8_sortOf_47 : decode cX8_sortOf 47 = .ok (.istore_n 3, 1) := by decide +kernel
theorem dX8_sortOf_48 : decode cX8_sortOf 48 = .ok (.iinc 4 1, 3) := by decide +kernel
theorem dX8_sortOf_51 : decode cX8_sortOf 51 = .ok (.goto (-37), 3) := by decide +kernel
theorem dX8_sortOf_54 : decode cX8_sortOf 54 = .ok (.aload_n 0, 1) := by decide +kernel
theorem dX8_sortOf_55 : decode cX8_sortOf 55 = .ok (.getfield 25, 3) := by decide +kernel
theorem dX8_sortOf_58 : decode cX8_sortOf 58 = .ok (.iconst 3, 1) := by decide +kernel
theorem dX8_sortOf_59 : decode cX8_sortOf 59 = .ok (.iload_n 1, 1) := by decide +kernel
theorem dX8_sortOf_60 : decode cX8_sortOf 60 = .ok (.imul, 1) := by decide +kernel
theorem dX8_sortOf_61 : decode cX8_sortOf 61 = .ok (.iload_n 2, 1) := by decide +kernel
theorem dX8_sortOf_62 : decode cX8_sortOf 62 = .ok (.iastore, 1) := by decide +kernel
theorem dX8_sortOf_63 : decode cX8_sortOf 63 = .ok (.iload_n 3, 1) := by decide +kernel
theorem dX8_sortOf_64 : decode cX8_sortOf 64 = .ok (.ireturn, 1) := by decide +kernel
set_option maxRecDepth 20000 in
theorem ggX8_wasOf_X8_wagesOf : GoodIn wsX8_wasOf wsX8_wagesOf := goodIn_r _ [5, 6, 7, 8, 9, 10, 4, 11, 12, 13, 14, 15, 16, 17, 18, 19, 20, 21, 22, 23, 24, 25, 26, 27, 28, 29, 30, 31, 32, 33, 34, 35, 36, 37, 38, 39, 40, 41, 42, 43, 44, 45, 46, 47, 48, 49, 50, 51, 52, 53, 54, 55, 56, 57, 58, 59, 60, 61, 62, 63, 64, 65, 66, 67, 68, 69, 70, 71, 72, 73, 74, 75, 76, 77, 78, 79, 84, 85, 86, 87, 88, 89, 90, 91, 92, 93, 94, 95, 96, 97, 98, 99, 100, 101, 102, 103, 104, 105, 106, 107, 108, 109, 110, 111, 112] (by decide +kernel) (by decide +kernel)
set_option maxRecDepth 20000 in
theorem gX8_wasOf_X8_wagesOf : GoodIn wsX8_wasOf (wsV RX8 259 RX8 yX8_wagesOf wsX8_wagesOf) := goodIn_app (goodIn_of _ (by decide +kernel)) ggX8_wasOf_X8_wagesOf
set_option maxRecDepth 20000 in
theorem ggX8_wasOf_X8_sortOf : GoodIn wsX8_wasOf wsX8_sortOf := goodIn_r _ [83, 6, 8, 9, 10, 4, 11, 12, 13, 14, 15, 16, 17, 18, 19, 20, 21, 22, 23, 24, 25, 26, 27, 28, 29, 30, 31, 32, 33, 34, 35, 36, 37, 38, 39, 40, 41, 42, 43, 44, 45, 46, 47, 48, 49, 50, 51, 52, 53, 54, 55, 56, 57, 58, 59, 60, 61, 62, 63, 64, 65, 66, 67, 68, 69, 70, 71, 72, 73, 74, 84, 85, 86, 87, 88, 89, 90, 91, 92, 93, 94, 95, 96, 97, 98, 99, 100, 101, 102, 103, 104, 105, 106, 107, 108, 109, 110, 111, 112] (by decide +kernel) (by decide +kernel)
set_option maxRecDepth 20000 in
theorem gX8_wasOf_X8_sortOf : GoodIn wsX8_wasOf (wsV RX8 262 RX8 yX8_sortOf wsX8_sortOf) := goodIn_app (goodIn_of _ (by decide +kernel)) ggX8_wasOf_X8_sortOf
theorem dX8_wasOf_0 : decode cX8_wasOf 0 = .ok (.iload_n 2, 1) := by decide +kernel
theorem dX8_wasOf_1 : decode cX8_wasOf 1 = .ok (.ifCond .ne 11, 3) := by decide +kernel
theorem dX8_wasOf_4 : decode cX8_wasOf 4 = .ok (.aload_n 0, 1) := by decide +kernel
theorem dX8_wasOf_5 : decode cX8_wasOf 5 = .ok (.iload_n 1, 1) := by decide +kernel
theorem dX8_wasOf_6 : decode cX8_wasOf 6 = .ok (.invokevirtual 259, 3) := by decide +kernel
theorem dX8_wasOf_9 : decode cX8_wasOf 9 = .ok (.goto 8, 3) := by decide +kernel
theorem dX8_wasOf_12 : decode cX8_wasOf 12 = .ok (.aload_n 0, 1) := by decide +kernel
theorem dX8_wasOf_13 : decode cX8_wasOf 13 = .ok (.iload_n 1, 1) := by decide +kernel
theorem dX8_wasOf_14 : decode cX8_wasOf 14 = .ok (.invokevirtual 262, 3) := by decide +kernel
theorem dX8_wasOf_17 : decode cX8_wasOf 17 = .ok (.ireturn, 1) := by decide +kernel
set_option maxRecDepth 20000 in
theorem ggX8_was_X8_find : GoodIn wsX8_was wsX8_find := goodIn_r _ [5, 6, 7, 8, 4, 9, 10, 11, 12, 13, 14, 15, 16, 17, 18, 19, 20, 21, 22, 23, 24, 25, 26, 27, 28, 29, 30, 31, 32, 33, 34, 35, 36, 37, 38, 39, 40, 41, 42, 43, 44, 45, 46, 47, 48, 49, 50, 51, 52, 53, 54, 55, 56, 57, 58, 59, 60, 61, 62, 63, 64, 65, 66, 67, 68, 69, 70, 71, 72, 73, 74, 75, 76, 77, 78, 106, 107, 108, 109, 110, 111, 112, 113, 114, 115, 116, 117, 118, 119, 120, 121, 122, 123, 124, 125, 126, 127, 128, 129, 130, 131, 132, 133, 134] (by decide +kernel) (by decide +kernel)
set_option maxRecDepth 20000 in
theorem gX8_was_X8_find : GoodIn wsX8_was (wsV RX8 187 RX8 yX8_find wsX8_find) := goodIn_app (goodIn_of _ (by decide +kernel)) ggX8_was_X8_find
set_option maxRecDepth 20000 in
theorem ggX8_was_X8_isTenant : GoodIn wsX8_was wsX8_isTenant := goodIn_r _ [54, 10, 19, 20, 4, 21, 106, 107, 108, 109, 110, 111, 112, 113, 114, 115, 116, 117, 118, 119, 120, 121, 122, 123, 124, 125, 126, 127, 128, 129, 130, 131, 132, 133, 134] (by decide +kernel) (by decide +kernel)
set_option maxRecDepth 20000 in
theorem gX8_was_X8_isTenant : GoodIn wsX8_was (wsV RX8 126 RX8 yX8_isTenant wsX8_isTenant) := goodIn_app (goodIn_of _ (by decide +kernel)) ggX8_was_X8_isTenant
set_option maxRecDepth 20000 in
theorem ggX8_was_X8_isTwo : GoodIn wsX8_was wsX8_isTwo := goodIn_r _ [81, 19, 20, 4, 21] (by decide +kernel) (by decide +kernel)
set_option maxRecDepth 20000 in
theorem gX8_was_X8_isTwo : GoodIn wsX8_was (va_wsS RX8 265 yX8_isTwo wsX8_isTwo) := goodIn_app (goodIn_of _ (by decide +kernel)) ggX8_was_X8_isTwo
set_option maxRecDepth 20000 in
theorem ggX8_was_X8_wasOf : GoodIn wsX8_was wsX8_wasOf := goodIn_r _ [85, 86, 87, 88, 4, 89, 13, 90, 91, 92, 93, 94, 95, 96, 37, 22, 23, 24, 25, 10, 26, 27, 28, 29, 30, 31, 32, 33, 34, 35, 36, 38, 39, 40, 41, 42, 43, 44, 45, 46, 47, 48, 49, 50, 51, 52, 53, 54, 19, 20, 21, 55, 56, 57, 58, 59, 60, 61, 62, 63, 64, 65, 66, 67, 68, 69, 70, 71, 72, 73, 74, 75, 76, 77, 78, 97, 98, 99, 100, 101, 102, 103, 104, 105, 106, 107, 108, 109, 110, 111, 112, 113, 114, 115, 116, 117, 118, 119, 120, 121, 122, 123, 124, 125, 126, 127, 128, 129, 130, 131, 132, 133, 134] (by decide +kernel) (by decide +kernel)
set_option maxRecDepth 20000 in
theorem gX8_was_X8_wasOf : GoodIn wsX8_was (wsV RX8 268 RX8 yX8_wasOf wsX8_wasOf) := goodIn_app (goodIn_of _ (by decide +kernel)) ggX8_was_X8_wasOf
theorem dX8_was_0 : decode cX8_was 0 = .ok (.aload_n 0, 1) := by decide +kernel
theorem dX8_was_1 : decode cX8_was 1 = .ok (.invokevirtual 187, 3) := by decide +kernel
theorem dX8_was_4 : decode cX8_was 4 = .ok (.aload_n 0, 1) := by decide +kernel
theorem dX8_was_5 : decode cX8_was 5 = .ok (.iload_n 1, 1) := by decide +kernel
theorem dX8_was_6 : decode cX8_was 6 = .ok (.invokevirtual 126, 3) := by decide +kernel
theorem dX8_was_9 : decode cX8_was 9 = .ok (.ifCond .eq 19, 3) := by decide +kernel
theorem dX8_was_12 : decode cX8_was 12 = .ok (.iload_n 2, 1) := by decide +kernel
theorem dX8_was_13 : decode cX8_was 13 = .ok (.invokestatic 265, 3) := by decide +kernel
theorem dX8_was_16 : decode cX8_was 16 = .ok (.ifCond .eq 12, 3) := by decide +kernel
theorem dX8_was_19 : decode cX8_was 19 = .ok (.aload_n 0, 1) := by decide +kernel
theorem dX8_was_20 : decode cX8_was 20 = .ok (.iload_n 1, 1) := by decide +kernel
theorem dX8_was_21 : decode cX8_was 21 = .ok (.iload_n 2, 1) := by decide +kernel
theorem dX8_was_22 : decode cX8_was 22 = .ok (.invokevirtual 268, 3) := by decide +kernel
theorem dX8_was_25 : decode cX8_was 25 = .ok (.goto 5, 3) := by decide +kernel
theorem dX8_was_28 : decode cX8_was 28 = .ok (.bipush (-2), 2) := by decide +kernel
theorem dX8_was_30 : decode cX8_was 30 = .ok (.ireturn, 1) := by decide +kernel
set_option maxRecDepth 20000 in
theorem ggX8_alike_X8_isIn : GoodIn wsX8_alike wsX8_isIn := goodIn_r _ [5] (by decide +kernel) (by decide +kernel)
set_option maxRecDepth 20000 in
theorem gX8_alike_X8_isIn : GoodIn wsX8_alike (va_wsS RX8 148 yX8_isIn wsX8_isIn) := goodIn_app (goodIn_of _ (by decide +kernel)) ggX8_alike_X8_isIn
set_option maxRecDepth 20000 in
theorem ggX8_alike_X8_greater : GoodIn wsX8_alike wsX8_greater := goodIn_r _ [8] (by decide +kernel) (by decide +kernel)
set_option maxRecDepth 20000 in
theorem gX8_alike_X8_greater : GoodIn wsX8_alike (va_wsS RX8 172 yX8_greater wsX8_greater) := goodIn_app (goodIn_of _ (by decide +kernel)) ggX8_alike_X8_greater
theorem dX8_alike_0 : decode cX8_alike 0 = .ok (.iconst 0, 1) := by decide +kernel
theorem dX8_alike_1 : decode cX8_alike 1 = .ok (.istore_n 3, 1) := by decide +kernel
theorem dX8_alike_2 : decode cX8_alike 2 = .ok (.iconst 0, 1) := by decide +kernel
theorem dX8_alike_3 : decode cX8_alike 3 = .ok (.istore 4, 2) := by decide +kernel
theorem dX8_alike_5 : decode cX8_alike 5 = .ok (.iload 4, 2) := by decide +kernel
theorem dX8_alike_7 : decode cX8_alike 7 = .ok (.bipush 10, 2) := by decide +kernel
theorem dX8_alike_9 : decode cX8_alike 9 = .ok (.if_icmp .ge 91, 3) := by decide +kernel
theorem dX8_alike_12 : decode cX8_alike 12 = .ok (.iconst 0, 1) := by decide +kernel
theorem dX8_alike_13 : decode cX8_alike 13 = .ok (.istore 5, 2) := by decide +kernel
theorem dX8_alike_15 : decode cX8_alike 15 = .ok (.iconst 0, 1) := by decide +kernel
theorem dX8_alike_16 : decode cX8_alike 16 = .ok (.istore 6, 2) := by decide +kernel
theorem dX8_alike_18 : decode cX8_alike 18 = .ok (.iload 6, 2) := by decide +kernel
theorem dX8_alike_20 : decode cX8_alike 20 = .ok (.bipush 10, 2) := by decide +kernel
theorem dX8_alike_22 : decode cX8_alike 22 = .ok (.if_icmp .ge 65, 3) := by decide +kernel
theorem dX8_alike_25 : decode cX8_alike 25 = .ok (.iload 5, 2) := by decide +kernel
theorem dX8_alike_27 : decode cX8_alike 27 = .ok (.iload_n 1, 1) := by decide +kernel
theorem dX8_alike_28 : decode cX8_alike 28 = .ok (.iload 4, 2) := by decide +kernel
theorem dX8_alike_30 : decode cX8_alike 30 = .ok (.invokestatic 148, 3) := by decide +kernel
theorem dX8_alike_33 : decode cX8_alike 33 = .ok (.ifCond .eq 44, 3) := by decide +kernel
theorem dX8_alike_36 : decode cX8_alike 36 = .ok (.iload_n 1, 1) := by decide +kernel
theorem dX8_alike_37 : decode cX8_alike 37 = .ok (.iload 6, 2) := by decide +kernel
theorem dX8_alike_39 : decode cX8_alike 39 = .ok (.invokestatic 148, 3) := by decide +kernel
theorem dX8_alike_42 : decode cX8_alike 42 = .ok (.ifCond .eq 35, 3) := by decide +kernel
theorem dX8_alike_45 : decode cX8_alike 45 = .ok (.aload_n 0, 1) := by decide +kernel
theorem dX8_alike_46 : decode cX8_alike 46 = .ok (.getfield 67, 3) := by decide +kernel
theorem dX8_alike_49 : decode cX8_alike 49 = .ok (.bipush 24, 2) := by decide +kernel
theorem dX8_alike_51 : decode cX8_alike 51 = .ok (.iload 4, 2) := by decide +kernel
theorem dX8_alike_53 : decode cX8_alike 53 = .ok (.imul, 1) := by decide +kernel
theorem dX8_alike_54 : decode cX8_alike 54 = .ok (.iload_n 2, 1) := by decide +kernel
theorem dX8_alike_55 : decode cX8_alike 55 = .ok (.iadd, 1) := by decide +kernel
theorem dX8_alike_56 : decode cX8_alike 56 = .ok (.laload, 1) := by decide +kernel
theorem dX8_alike_57 : decode cX8_alike 57 = .ok (.aload_n 0, 1) := by decide +kernel
theorem dX8_alike_58 : decode cX8_alike 58 = .ok (.getfield 67, 3) := by decide +kernel
theorem dX8_alike_61 : decode cX8_alike 61 = .ok (.bipush 24, 2) := by decide +kernel
theorem dX8_alike_63 : decode cX8_alike 63 = .ok (.iload 6, 2) := by decide +kernel
theorem dX8_alike_65 : decode cX8_alike 65 = .ok (.imul, 1) := by decide +kernel
theorem dX8_alike_66 : decode cX8_alike 66 = .ok (.iload_n 2, 1) := by decide +kernel
theorem dX8_alike_67 : decode cX8_alike 67 = .ok (.iadd, 1) := by decide +kernel
theorem dX8_alike_68 : decode cX8_alike 68 = .ok (.laload, 1) := by decide +kernel
theorem dX8_alike_69 : decode cX8_alike 69 = .ok (.lcmp, 1) := by decide +kernel
theorem dX8_alike_70 : decode cX8_alike 70 = .ok (.ifCond .ne 7, 3) := by decide +kernel
theorem dX8_alike_73 : decode cX8_alike 73 = .ok (.iconst 1, 1) := by decide +kernel
theorem dX8_alike_74 : decode cX8_alike 74 = .ok (.goto 4, 3) := by decide +kernel
theorem dX8_alike_77 : decode cX8_alike 77 = .ok (.iconst 0, 1) := by decide +kernel
theorem dX8_alike_78 : decode cX8_alike 78 = .ok (.iadd, 1) := by decide +kernel
theorem dX8_alike_79 : decode cX8_alike 79 = .ok (.istore 5, 2) := by decide +kernel
theorem dX8_alike_81 : decode cX8_alike 81 = .ok (.iinc 6 1, 3) := by decide +kernel
theorem dX8_alike_84 : decode cX8_alike 84 = .ok (.goto (-66), 3) := by decide +kernel
theorem dX8_alike_87 : decode cX8_alike 87 = .ok (.iload 5, 2) := by decide +kernel
theorem dX8_alike_89 : decode cX8_alike 89 = .ok (.iload_n 3, 1) := by decide +kernel
theorem dX8_alike_90 : decode cX8_alike 90 = .ok (.invokestatic 172, 3) := by decide +kernel
theorem dX8_alike_93 : decode cX8_alike 93 = .ok (.istore_n 3, 1) := by decide +kernel
theorem dX8_alike_94 : decode cX8_alike 94 = .ok (.iinc 4 1, 3) := by decide +kernel
theorem dX8_alike_97 : decode cX8_alike 97 = .ok (.goto (-92), 3) := by decide +kernel
theorem dX8_alike_100 : decode cX8_alike 100 = .ok (.iload_n 3, 1) := by decide +kernel
theorem dX8_alike_101 : decode cX8_alike 101 = .ok (.ireturn, 1) := by decide +kernel
set_option maxRecDepth 20000 in
theorem ggX8_askOf_X8_wagesOf : GoodIn wsX8_askOf wsX8_wagesOf := goodIn_r _ [5, 6, 7, 8, 9, 10, 4, 11, 12, 13, 14, 15, 16, 17, 18, 19, 20, 21, 22, 23, 24, 25, 26, 27, 28, 29, 30, 31, 32, 33, 34, 35, 36, 37, 38, 39, 40, 41, 42, 43, 44, 45, 46, 47, 48, 49, 50, 51, 52, 53, 54, 55, 56, 57, 58, 59, 60, 61, 62, 63, 64, 65, 66, 67, 68, 69, 70, 71, 72, 73, 74, 75, 76, 77, 78, 79, 84, 85, 86, 87, 88, 89, 90, 91, 92, 93, 94, 95, 96, 97, 98, 99, 100, 101, 102, 103, 104, 105, 106, 107, 108, 109, 110, 111, 112] (by decide +kernel) (by decide +kernel)
set_option maxRecDepth 20000 in
theorem gX8_askOf_X8_wagesOf : GoodIn wsX8_askOf (wsV RX8 259 RX8 yX8_wagesOf wsX8_wagesOf) := goodIn_app (goodIn_of _ (by decide +kernel)) ggX8_askOf_X8_wagesOf
set_option maxRecDepth 20000 in
theorem ggX8_askOf_X8_alike : GoodIn wsX8_askOf wsX8_alike := goodIn_r _ [83, 7, 41, 42, 4, 43, 72, 73, 74, 84, 85, 86, 87, 88, 89, 90, 91, 92, 93, 94, 95, 96, 97, 98, 99, 100, 101, 102, 103, 104, 105, 106, 107, 108, 109, 110, 111, 112] (by decide +kernel) (by decide +kernel)
set_option maxRecDepth 20000 in
theorem gX8_askOf_X8_alike : GoodIn wsX8_askOf (wsV RX8 271 RX8 yX8_alike wsX8_alike) := goodIn_app (goodIn_of _ (by decide +kernel)) ggX8_askOf_X8_alike
theorem dX8_askOf_0 : decode cX8_askOf 0 = .ok (.aload_n 0, 1) := by decide +kernel
theorem dX8_askOf_1 : decode cX8_askOf 1 = .ok (.iload_n 1, 1) := by decide +kernel
theorem dX8_askOf_2 : decode cX8_askOf 2 = .ok (.invokevirtual 259, 3) := by decide +kernel
theorem dX8_askOf_5 : decode cX8_askOf 5 = .ok (.istore_n 2, 1) := by decide +kernel
theorem dX8_askOf_6 : decode cX8_askOf 6 = .ok (.iconst 0, 1) := by decide +kernel
theorem dX8_askOf_7 : decode cX8_askOf 7 = .ok (.istore_n 3, 1) := by decide +kernel
theorem dX8_askOf_8 : decode cX8_askOf 8 = .ok (.iconst 1, 1) := by decide +kernel
theorem dX8_askOf_9 : decode cX8_askOf 9 = .ok (.istore 4, 2) := by decide +kernel
theorem dX8_askOf_11 : decode cX8_askOf 11 = .ok (.iload 4, 2) := by decide +kernel
theorem dX8_askOf_13 : decode cX8_askOf 13 = .ok (.bipush 24, 2) := by decide +kernel
theorem dX8_askOf_15 : decode cX8_askOf 15 = .ok (.if_icmp .ge 32, 3) := by decide +kernel
theorem dX8_askOf_18 : decode cX8_askOf 18 = .ok (.aload_n 0, 1) := by decide +kernel
theorem dX8_askOf_19 : decode cX8_askOf 19 = .ok (.iload_n 2, 1) := by decide +kernel
theorem dX8_askOf_20 : decode cX8_askOf 20 = .ok (.iload 4, 2) := by decide +kernel
theorem dX8_askOf_22 : decode cX8_askOf 22 = .ok (.invokevirtual 271, 3) := by decide +kernel
theorem dX8_askOf_25 : decode cX8_askOf 25 = .ok (.aload_n 0, 1) := by decide +kernel
theorem dX8_askOf_26 : decode cX8_askOf 26 = .ok (.iload_n 2, 1) := by decide +kernel
theorem dX8_askOf_27 : decode cX8_askOf 27 = .ok (.iload_n 3, 1) := by decide +kernel
theorem dX8_askOf_28 : decode cX8_askOf 28 = .ok (.invokevirtual 271, 3) := by decide +kernel
theorem dX8_askOf_31 : decode cX8_askOf 31 = .ok (.if_icmp .ge 8, 3) := by decide +kernel
theorem dX8_askOf_34 : decode cX8_askOf 34 = .ok (.iload 4, 2) := by decide +kernel
theorem dX8_askOf_36 : decode cX8_askOf 36 = .ok (.goto 4, 3) := by decide +kernel
theorem dX8_askOf_39 : decode cX8_askOf 39 = .ok (.iload_n 3, 1) := by decide +kernel
theorem dX8_askOf_40 : decode cX8_askOf 40 = .ok (.istore_n 3, 1) := by decide +kernel
theorem dX8_askOf_41 : decode cX8_askOf 41 = .ok (.iinc 4 1, 3) := by decide +kernel
theorem dX8_askOf_44 : decode cX8_askOf 44 = .ok (.goto (-33), 3) := by decide +kernel
theorem dX8_askOf_47 : decode cX8_askOf 47 = .ok (.iload_n 3, 1) := by decide +kernel
theorem dX8_askOf_48 : decode cX8_askOf 48 = .ok (.ireturn, 1) := by decide +kernel
set_option maxRecDepth 20000 in
theorem ggX8_ask_X8_find : GoodIn wsX8_ask wsX8_find := goodIn_r _ [5, 6, 7, 8, 4, 9, 10, 11, 12, 13, 14, 15, 16, 17, 18, 19, 20, 21, 22, 23, 24, 25, 26, 27, 28, 29, 30, 31, 32, 33, 34, 35, 36, 37, 38, 39, 40, 41, 42, 43, 44, 45, 46, 47, 48, 49, 50, 51, 52, 53, 54, 55, 56, 57, 58, 59, 60, 61, 62, 63, 64, 65, 66, 67, 68, 69, 70, 71, 72, 73, 74, 75, 76, 77, 78, 103, 104, 105, 106, 107, 108, 109, 110, 111, 112, 113, 114, 115, 116, 117, 118, 119, 120, 121, 122, 123, 124, 125, 126, 127, 128, 129, 130, 131] (by decide +kernel) (by decide +kernel)
set_option maxRecDepth 20000 in
theorem gX8_ask_X8_find : GoodIn wsX8_ask (wsV RX8 187 RX8 yX8_find wsX8_find) := goodIn_app (goodIn_of _ (by decide +kernel)) ggX8_ask_X8_find
set_option maxRecDepth 20000 in
theorem ggX8_ask_X8_isTenant : GoodIn wsX8_ask wsX8_isTenant := goodIn_r _ [54, 10, 19, 20, 4, 21, 103, 104, 105, 106, 107, 108, 109, 110, 111, 112, 113, 114, 115, 116, 117, 118, 119, 120, 121, 122, 123, 124, 125, 126, 127, 128, 129, 130, 131] (by decide +kernel) (by decide +kernel)
set_option maxRecDepth 20000 in
theorem gX8_ask_X8_isTenant : GoodIn wsX8_ask (wsV RX8 126 RX8 yX8_isTenant wsX8_isTenant) := goodIn_app (goodIn_of _ (by decide +kernel)) ggX8_ask_X8_isTenant
set_option maxRecDepth 20000 in
theorem ggX8_ask_X8_askOf : GoodIn wsX8_ask wsX8_askOf := goodIn_r _ [82, 83, 84, 85, 4, 86, 13, 87, 88, 89, 90, 91, 92, 93, 37, 22, 23, 24, 25, 10, 26, 27, 28, 29, 30, 31, 32, 33, 34, 35, 36, 38, 39, 40, 41, 42, 43, 44, 45, 46, 47, 48, 49, 50, 51, 52, 53, 54, 19, 20, 21, 55, 56, 57, 58, 59, 60, 61, 62, 63, 64, 65, 66, 67, 68, 69, 70, 71, 72, 73, 74, 75, 76, 77, 78, 94, 95, 96, 97, 98, 99, 100, 101, 102, 103, 104, 105, 106, 107, 108, 109, 110, 111, 112, 113, 114, 115, 116, 117, 118, 119, 120, 121, 122, 123, 124, 125, 126, 127, 128, 129, 130, 131] (by decide +kernel) (by decide +kernel)
set_option maxRecDepth 20000 in
theorem gX8_ask_X8_askOf : GoodIn wsX8_ask (wsV RX8 274 RX8 yX8_askOf wsX8_askOf) := goodIn_app (goodIn_of _ (by decide +kernel)) ggX8_ask_X8_askOf
theorem dX8_ask_0 : decode cX8_ask 0 = .ok (.aload_n 0, 1) := by decide +kernel
theorem dX8_ask_1 : decode cX8_ask 1 = .ok (.invokevirtual 187, 3) := by decide +kernel
theorem dX8_ask_4 : decode cX8_ask 4 = .ok (.aload_n 0, 1) := by decide +kernel
theorem dX8_ask_5 : decode cX8_ask 5 = .ok (.iload_n 1, 1) := by decide +kernel
theorem dX8_ask_6 : decode cX8_ask 6 = .ok (.invokevirtual 126, 3) := by decide +kernel
theorem dX8_ask_9 : decode cX8_ask 9 = .ok (.ifCond .eq 11, 3) := by decide +kernel
theorem dX8_ask_12 : decode cX8_ask 12 = .ok (.aload_n 0, 1) := by decide +kernel
theorem dX8_ask_13 : decode cX8_ask 13 = .ok (.iload_n 1, 1) := by decide +kernel
theorem dX8_ask_14 : decode cX8_ask 14 = .ok (.invokevirtual 274, 3) := by decide +kernel
theorem dX8_ask_17 : decode cX8_ask 17 = .ok (.goto 5, 3) := by decide +kernel
theorem dX8_ask_20 : decode cX8_ask 20 = .ok (.bipush (-2), 2) := by decide +kernel
theorem dX8_ask_22 : decode cX8_ask 22 = .ok (.ireturn, 1) := by decide +kernel
set_option maxRecDepth 20000 in
theorem ggX8_chanceOf_X8_lives : GoodIn wsX8_chanceOf wsX8_lives := goodIn_r _ [8, 9, 10, 11, 12, 3, 13, 14, 15, 16, 17, 18, 7, 19, 20, 21, 22, 23, 24, 25, 26, 27, 28, 1, 29, 2, 30, 31, 32, 33, 34, 35, 36, 37, 38, 39, 40, 41, 42, 43, 44, 45, 46, 47, 48, 49, 50, 51, 52, 53, 54, 55, 56, 57, 58, 59, 60, 61, 62, 63, 67, 68, 69, 70, 71, 72, 73, 74, 75, 76, 77, 78, 79, 80, 81, 82, 83, 84, 85, 86, 87, 88, 89, 90, 91, 92, 93, 94, 95] (by decide +kernel) (by decide +kernel)
set_option maxRecDepth 20000 in
theorem gX8_chanceOf_X8_lives : GoodIn wsX8_chanceOf (wsV RX8 178 RX8 yX8_lives wsX8_lives) := goodIn_app (goodIn_of _ (by decide +kernel)) ggX8_chanceOf_X8_lives
set_option maxRecDepth 20000 in
theorem ggX8_chanceOf_X8_isIn : GoodIn wsX8_chanceOf wsX8_isIn := goodIn_r _ [32] (by decide +kernel) (by decide +kernel)
set_option maxRecDepth 20000 in
theorem gX8_chanceOf_X8_isIn : GoodIn wsX8_chanceOf (va_wsS RX8 148 yX8_isIn wsX8_isIn) := goodIn_app (goodIn_of _ (by decide +kernel)) ggX8_chanceOf_X8_isIn
set_option maxRecDepth 20000 in
theorem ggX8_chanceOf_X8_part : GoodIn wsX8_chanceOf wsX8_part := goodIn_r _ [66] (by decide +kernel) (by decide +kernel)
set_option maxRecDepth 20000 in
theorem gX8_chanceOf_X8_part : GoodIn wsX8_chanceOf (va_wsS RX8 277 yX8_part wsX8_part) := goodIn_app (goodIn_of _ (by decide +kernel)) ggX8_chanceOf_X8_part
theorem dX8_chanceOf_0 : decode cX8_chanceOf 0 = .ok (.lconst 0, 1) := by decide +kernel
theorem dX8_chanceOf_1 : decode cX8_chanceOf 1 = .ok (.lstore 4, 2) := by decide +kernel
theorem dX8_chanceOf_3 : decode cX8_chanceOf 3 = .ok (.iconst 0, 1) := by decide +kernel
theorem dX8_chanceOf_4 : decode cX8_chanceOf 4 = .ok (.istore 6, 2) := by decide +kernel
theorem dX8_chanceOf_6 : decode cX8_chanceOf 6 = .ok (.iload 6, 2) := by decide +kernel
theorem dX8_chanceOf_8 : decode cX8_chanceOf 8 = .ok (.iconst 1, 1) := by decide +kernel
theorem dX8_chanceOf_9 : decode cX8_chanceOf 9 = .ok (.aload_n 0, 1) := by decide +kernel
theorem dX8_chanceOf_10 : decode cX8_chanceOf 10 = .ok (.getfield 136, 3) := by decide +kernel
theorem dX8_chanceOf_13 : decode cX8_chanceOf 13 = .ok (.ishl, 1) := by decide +kernel
theorem dX8_chanceOf_14 : decode cX8_chanceOf 14 = .ok (.if_icmp .ge 86, 3) := by decide +kernel
theorem dX8_chanceOf_17 : decode cX8_chanceOf 17 = .ok (.aload_n 0, 1) := by decide +kernel
theorem dX8_chanceOf_18 : decode cX8_chanceOf 18 = .ok (.iload 6, 2) := by decide +kernel
theorem dX8_chanceOf_20 : decode cX8_chanceOf 20 = .ok (.putfield 145, 3) := by decide +kernel
theorem dX8_chanceOf_23 : decode cX8_chanceOf 23 = .ok (.aload_n 0, 1) := by decide +kernel
theorem dX8_chanceOf_24 : decode cX8_chanceOf 24 = .ok (.invokevirtual 178, 3) := by decide +kernel
theorem dX8_chanceOf_27 : decode cX8_chanceOf 27 = .ok (.aload_n 0, 1) := by decide +kernel
theorem dX8_chanceOf_28 : decode cX8_chanceOf 28 = .ok (.getfield 40, 3) := by decide +kernel
theorem dX8_chanceOf_31 : decode cX8_chanceOf 31 = .ok (.iload_n 2, 1) := by decide +kernel
theorem dX8_chanceOf_32 : decode cX8_chanceOf 32 = .ok (.iaload, 1) := by decide +kernel
theorem dX8_chanceOf_33 : decode cX8_chanceOf 33 = .ok (.iconst (-1), 1) := by decide +kernel
theorem dX8_chanceOf_34 : decode cX8_chanceOf 34 = .ok (.if_icmp .eq 7, 3) := by decide +kernel
theorem dX8_chanceOf_37 : decode cX8_chanceOf 37 = .ok (.lconst 1, 1) := by decide +kernel
theorem dX8_chanceOf_38 : decode cX8_chanceOf 38 = .ok (.goto 4, 3) := by decide +kernel
theorem dX8_chanceOf_41 : decode cX8_chanceOf 41 = .ok (.lconst 0, 1) := by decide +kernel
theorem dX8_chanceOf_42 : decode cX8_chanceOf 42 = .ok (.lstore 7, 2) := by decide +kernel
theorem dX8_chanceOf_44 : decode cX8_chanceOf 44 = .ok (.iconst 0, 1) := by decide +kernel
theorem dX8_chanceOf_45 : decode cX8_chanceOf 45 = .ok (.istore 9, 2) := by decide +kernel
theorem dX8_chanceOf_47 : decode cX8_chanceOf 47 = .ok (.iload 9, 2) := by decide +kernel
theorem dX8_chanceOf_49 : decode cX8_chanceOf 49 = .ok (.aload_n 0, 1) := by decide +kernel
theorem dX8_chanceOf_50 : decode cX8_chanceOf 50 = .ok (.getfield 136, 3) := by decide +kernel
theorem dX8_chanceOf_53 : decode cX8_chanceOf 53 = .ok (.if_icmp .ge 34, 3) := by decide +kernel
theorem dX8_chanceOf_56 : decode cX8_chanceOf 56 = .ok (.lload 7, 2) := by decide +kernel
theorem dX8_chanceOf_58 : decode cX8_chanceOf 58 = .ok (.iload 6, 2) := by decide +kernel
theorem dX8_chanceOf_60 : decode cX8_chanceOf 60 = .ok (.iload 9, 2) := by decide +kernel
theorem dX8_chanceOf_62 : decode cX8_chanceOf 62 = .ok (.invokestatic 148, 3) := by decide +kernel
theorem dX8_chanceOf_65 : decode cX8_chanceOf 65 = .ok (.ifCond .eq 11, 3) := by decide +kernel
theorem dX8_chanceOf_68 : decode cX8_chanceOf 68 = .ok (.bipush 16, 2) := by decide +kernel
theorem dX8_chanceOf_70 : decode cX8_chanceOf 70 = .ok (.iload_n 1, 1) := by decide +kernel
theorem dX8_chanceOf_71 : decode cX8_chanceOf 71 = .ok (.isub, 1) := by decide +kernel
theorem dX8_chanceOf_72 : decode cX8_chanceOf 72 = .ok (.i2l, 1) := by decide +kernel
theorem dX8_chanceOf_73 : decode cX8_chanceOf 73 = .ok (.goto 5, 3) := by decide +kernel
theorem dX8_chanceOf_76 : decode cX8_chanceOf 76 = .ok (.iload_n 1, 1) := by decide +kernel
theorem dX8_chanceOf_77 : decode cX8_chanceOf 77 = .ok (.i2l, 1) := by decide +kernel
theorem dX8_chanceOf_78 : decode cX8_chanceOf 78 = .ok (.lmul, 1) := by decide +kernel
theorem dX8_chanceOf_79 : decode cX8_chanceOf 79 = .ok (.lstore 7, 2) := by decide +kernel
theorem dX8_chanceOf_81 : decode cX8_chanceOf 81 = .ok (.iinc 9 1, 3) := by decide +kernel
theorem dX8_chanceOf_84 : decode cX8_chanceOf 84 = .ok (.goto (-37), 3) := by decide +kernel
theorem dX8_chanceOf_87 : decode cX8_chanceOf 87 = .ok (.lload 4, 2) := by decide +kernel
theorem dX8_chanceOf_89 : decode cX8_chanceOf 89 = .ok (.lload 7, 2) := by decide +kernel
theorem dX8_chanceOf_91 : decode cX8_chanceOf 91 = .ok (.ladd, 1) := by decide +kernel
theorem dX8_chanceOf_92 : decode cX8_chanceOf 92 = .ok (.lstore 4, 2) := by decide +kernel
theorem dX8_chanceOf_94 : decode cX8_chanceOf 94 = .ok (.iinc 6 1, 3) := by decide +kernel
theorem dX8_chanceOf_97 : decode cX8_chanceOf 97 = .ok (.goto (-91), 3) := by decide +kernel
theorem dX8_chanceOf_100 : decode cX8_chanceOf 100 = .ok (.aload_n 0, 1) := by decide +kernel
theorem dX8_chanceOf_101 : decode cX8_chanceOf 101 = .ok (.iconst 0, 1) := by decide +kernel
theorem dX8_chanceOf_102 : decode cX8_chanceOf 102 = .ok (.putfield 145, 3) := by decide +kernel
theorem dX8_chanceOf_105 : decode cX8_chanceOf 105 = .ok (.lload 4, 2) := by decide +kernel
theorem dX8_chanceOf_107 : decode cX8_chanceOf 107 = .ok (.lconst 1, 1) := by decide +kernel
theorem dX8_chanceOf_108 : decode cX8_chanceOf 108 = .ok (.iconst 4, 1) := by decide +kernel
theorem dX8_chanceOf_109 : decode cX8_chanceOf 109 = .ok (.aload_n 0, 1) := by decide +kernel
theorem dX8_chanceOf_110 : decode cX8_chanceOf 110 = .ok (.getfield 136, 3) := by decide +kernel
theorem dX8_chanceOf_113 : decode cX8_chanceOf 113 = .ok (.imul, 1) := by decide +kernel
theorem dX8_chanceOf_114 : decode cX8_chanceOf 114 = .ok (.lshl, 1) := by decide +kernel
theorem dX8_chanceOf_115 : decode cX8_chanceOf 115 = .ok (.iload_n 3, 1) := by decide +kernel
theorem dX8_chanceOf_116 : decode cX8_chanceOf 116 = .ok (.invokestatic 277, 3) := by decide +kernel
theorem dX8_chanceOf_119 : decode cX8_chanceOf 119 = .ok (.lreturn, 1) := by decide +kernel
set_option maxRecDepth 20000 in
theorem ggX8_chance_X8_find : GoodIn wsX8_chance wsX8_find := goodIn_r _ [6, 7, 8, 9, 5, 10, 11, 12, 13, 14, 15, 16, 17, 18, 19, 20, 21, 22, 23, 24, 25, 26, 27, 28, 29, 30, 31, 32, 33, 34, 35, 36, 37, 38, 39, 40, 41, 42, 43, 44, 45, 46, 47, 48, 49, 50, 51, 52, 53, 54, 55, 56, 57, 58, 59, 60, 61, 62, 63, 64, 65, 66, 67, 68, 69, 70, 71, 72, 73, 74, 75, 76, 77, 78, 79, 94, 95, 96, 97, 98, 99, 100, 101, 102, 103, 104, 105, 106, 107, 108, 109, 110, 111, 112, 113, 114, 115, 116, 117, 118, 119, 120, 121, 122] (by decide +kernel) (by decide +kernel)
set_option maxRecDepth 20000 in
theorem gX8_chance_X8_find : GoodIn wsX8_chance (wsV RX8 187 RX8 yX8_find wsX8_find) := goodIn_app (goodIn_of _ (by decide +kernel)) ggX8_chance_X8_find
set_option maxRecDepth 20000 in
theorem ggX8_chance_X8_in : GoodIn wsX8_chance wsX8_in := goodIn_r _ [22] (by decide +kernel) (by decide +kernel)
set_option maxRecDepth 20000 in
theorem gX8_chance_X8_in : GoodIn wsX8_chance (va_wsS RX8 77 yX8_in wsX8_in) := goodIn_app (goodIn_of _ (by decide +kernel)) ggX8_chance_X8_in
set_option maxRecDepth 20000 in
theorem ggX8_chance_X8_isTenant : GoodIn wsX8_chance wsX8_isTenant := goodIn_r _ [55, 11, 20, 21, 5, 22, 94, 95, 96, 97, 98, 99, 100, 101, 102, 103, 104, 105, 106, 107, 108, 109, 110, 111, 112, 113, 114, 115, 116, 117, 118, 119, 120, 121, 122] (by decide +kernel) (by decide +kernel)
set_option maxRecDepth 20000 in
theorem gX8_chance_X8_isTenant : GoodIn wsX8_chance (wsV RX8 126 RX8 yX8_isTenant wsX8_isTenant) := goodIn_app (goodIn_of _ (by decide +kernel)) ggX8_chance_X8_isTenant
set_option maxRecDepth 20000 in
theorem ggX8_chance_X8_isTwo : GoodIn wsX8_chance wsX8_isTwo := goodIn_r _ [82, 20, 21, 5, 22] (by decide +kernel) (by decide +kernel)
set_option maxRecDepth 20000 in
theorem gX8_chance_X8_isTwo : GoodIn wsX8_chance (va_wsS RX8 265 yX8_isTwo wsX8_isTwo) := goodIn_app (goodIn_of _ (by decide +kernel)) ggX8_chance_X8_isTwo
set_option maxRecDepth 20000 in
theorem ggX8_chance_X8_chanceOf : GoodIn wsX8_chance wsX8_chanceOf := goodIn_r _ [86, 46, 48, 29, 23, 24, 25, 5, 26, 11, 27, 28, 14, 30, 31, 32, 33, 34, 35, 36, 37, 38, 39, 40, 41, 42, 43, 44, 45, 47, 49, 50, 51, 52, 53, 54, 55, 20, 21, 22, 56, 57, 58, 59, 60, 61, 62, 63, 64, 65, 66, 67, 68, 69, 70, 71, 72, 73, 74, 75, 76, 77, 78, 79, 87, 88, 89, 94, 95, 96, 97, 98, 99, 100, 101, 102, 103, 104, 105, 106, 107, 108, 109, 110, 111, 112, 113, 114, 115, 116, 117, 118, 119, 120, 121, 122] (by decide +kernel) (by decide +kernel)
set_option maxRecDepth 20000 in
theorem gX8_chance_X8_chanceOf : GoodIn wsX8_chance (wsV RX8 283 RX8 yX8_chanceOf wsX8_chanceOf) := goodIn_app (goodIn_of _ (by decide +kernel)) ggX8_chance_X8_chanceOf
set_option maxRecDepth 20000 in
theorem ggX8_chance_X8_no : GoodIn wsX8_chance wsX8_no := goodIn_r _ [92, 93] (by decide +kernel) (by decide +kernel)
set_option maxRecDepth 20000 in
theorem gX8_chance_X8_no : GoodIn wsX8_chance (va_wsS RX8 287 yX8_no wsX8_no) := goodIn_app (goodIn_of _ (by decide +kernel)) ggX8_chance_X8_no
theorem dX8_chance_0 : decode cX8_chance 0 = .ok (.aload_n 0, 1) := by decide +kernel
theorem dX8_chance_1 : decode cX8_chance 1 = .ok (.invokevirtual 187, 3) := by decide +kernel
theorem dX8_chance_4 : decode cX8_chance 4 = .ok (.iload_n 1, 1) := by decide +kernel
theorem dX8_chance_5 : decode cX8_chance 5 = .ok (.i2l, 1) := by decide +kernel
theorem dX8_chance_6 : decode cX8_chance 6 = .ok (.lconst 0, 1) := by decide +kernel
theorem dX8_chance_7 : decode cX8_chance 7 = .ok (.ldc2_w 281, 3) := by decide +kernel
theorem dX8_chance_10 : decode cX8_chance 10 = .ok (.invokestatic 77, 3) := by decide +kernel
theorem dX8_chance_13 : decode cX8_chance 13 = .ok (.ifCond .eq 28, 3) := by decide +kernel
theorem dX8_chance_16 : decode cX8_chance 16 = .ok (.aload_n 0, 1) := by decide +kernel
theorem dX8_chance_17 : decode cX8_chance 17 = .ok (.iload_n 2, 1) := by decide +kernel
theorem dX8_chance_18 : decode cX8_chance 18 = .ok (.invokevirtual 126, 3) := by decide +kernel
theorem dX8_chance_21 : decode cX8_chance 21 = .ok (.ifCond .eq 20, 3) := by decide +kernel
theorem dX8_chance_24 : decode cX8_chance 24 = .ok (.iload_n 3, 1) := by decide +kernel
theorem dX8_chance_25 : decode cX8_chance 25 = .ok (.invokestatic 265, 3) := by decide +kernel
theorem dX8_chance_28 : decode cX8_chance 28 = .ok (.ifCond .eq 13, 3) := by decide +kernel
theorem dX8_chance_31 : decode cX8_chance 31 = .ok (.aload_n 0, 1) := by decide +kernel
theorem dX8_chance_32 : decode cX8_chance 32 = .ok (.iload_n 1, 1) := by decide +kernel
theorem dX8_chance_33 : decode cX8_chance 33 = .ok (.iload_n 2, 1) := by decide +kernel
theorem dX8_chance_34 : decode cX8_chance 34 = .ok (.iload_n 3, 1) := by decide +kernel
theorem dX8_chance_35 : decode cX8_chance 35 = .ok (.invokevirtual 283, 3) := by decide +kernel
theorem dX8_chance_38 : decode cX8_chance 38 = .ok (.goto 8, 3) := by decide +kernel
theorem dX8_chance_41 : decode cX8_chance 41 = .ok (.bipush (-2), 2) := by decide +kernel
theorem dX8_chance_43 : decode cX8_chance 43 = .ok (.invokestatic 287, 3) := by decide +kernel
theorem dX8_chance_46 : decode cX8_chance 46 = .ok (.lreturn, 1) := by decide +kernel
theorem dX8_lot_0 : decode cX8_lot 0 = .ok (.aload_n 0, 1) := by decide +kernel
theorem dX8_lot_1 : decode cX8_lot 1 = .ok (.ldc_w 290, 3) := by decide +kernel
theorem dX8_lot_4 : decode cX8_lot 4 = .ok (.aload_n 0, 1) := by decide +kernel
theorem dX8_lot_5 : decode cX8_lot 5 = .ok (.getfield 291, 3) := by decide +kernel
theorem dX8_lot_8 : decode cX8_lot 8 = .ok (.imul, 1) := by decide +kernel
theorem dX8_lot_9 : decode cX8_lot 9 = .ok (.sipush 12345, 3) := by decide +kernel
theorem dX8_lot_12 : decode cX8_lot 12 = .ok (.iadd, 1) := by decide +kernel
theorem dX8_lot_13 : decode cX8_lot 13 = .ok (.putfield 291, 3) := by decide +kernel
theorem dX8_lot_16 : decode cX8_lot 16 = .ok (.aload_n 0, 1) := by decide +kernel
theorem dX8_lot_17 : decode cX8_lot 17 = .ok (.getfield 291, 3) := by decide +kernel
theorem dX8_lot_20 : decode cX8_lot 20 = .ok (.bipush 16, 2) := by decide +kernel
theorem dX8_lot_22 : decode cX8_lot 22 = .ok (.iushr, 1) := by decide +kernel
theorem dX8_lot_23 : decode cX8_lot 23 = .ok (.iload_n 1, 1) := by decide +kernel
theorem dX8_lot_24 : decode cX8_lot 24 = .ok (.irem, 1) := by decide +kernel
theorem dX8_lot_25 : decode cX8_lot 25 = .ok (.ireturn, 1) := by decide +kernel
set_option maxRecDepth 20000 in
theorem ggX8_housesOf_X8_lot : GoodIn wsX8_housesOf wsX8_lot := goodIn_r _ [8, 9, 1, 89, 90, 91, 92, 93, 94, 95, 96, 97, 98, 99, 100, 101, 102, 103, 104, 105, 106, 107, 108, 109, 110, 111, 112, 113, 114, 115, 116, 117] (by decide +kernel) (by decide +kernel)
set_option maxRecDepth 20000 in
theorem gX8_housesOf_X8_lot : GoodIn wsX8_housesOf (wsV RX8 294 RX8 yX8_lot wsX8_lot) := goodIn_app (goodIn_of _ (by decide +kernel)) ggX8_housesOf_X8_lot
set_option maxRecDepth 20000 in
theorem ggX8_housesOf_X8_lives : GoodIn wsX8_housesOf wsX8_lives := goodIn_r _ [13, 2, 14, 15, 3, 16, 17, 18, 19, 20, 21, 22, 7, 23, 24, 25, 26, 27, 28, 29, 30, 31, 32, 33, 34, 35, 36, 37, 38, 39, 40, 41, 42, 43, 44, 45, 46, 47, 48, 49, 50, 51, 52, 53, 54, 55, 56, 57, 58, 59, 60, 61, 62, 63, 64, 65, 66, 67, 68, 69, 89, 90, 91, 92, 93, 94, 95, 96, 97, 98, 99, 100, 101, 102, 103, 104, 105, 106, 107, 108, 109, 110, 111, 112, 113, 114, 115, 116, 117] (by decide +kernel) (by decide +kernel)
set_option maxRecDepth 20000 in
theorem gX8_housesOf_X8_lives : GoodIn wsX8_housesOf (wsV RX8 178 RX8 yX8_lives wsX8_lives) := goodIn_app (goodIn_of _ (by decide +kernel)) ggX8_housesOf_X8_lives
set_option maxRecDepth 20000 in
theorem ggX8_housesOf_X8_manySettled : GoodIn wsX8_housesOf wsX8_manySettled := goodIn_r _ [73, 2, 16, 89, 90, 91, 92, 93, 94, 95, 96, 97, 98, 99, 100, 101, 102, 103, 104, 105, 106, 107, 108, 109, 110, 111, 112, 113, 114, 115, 116, 117] (by decide +kernel) (by decide +kernel)
set_option maxRecDepth 20000 in
theorem gX8_housesOf_X8_manySettled : GoodIn wsX8_housesOf (wsV RX8 204 RX8 yX8_manySettled wsX8_manySettled) := goodIn_app (goodIn_of _ (by decide +kernel)) ggX8_housesOf_X8_manySettled
set_option maxRecDepth 20000 in
theorem ggX8_housesOf_X8_allFell : GoodIn wsX8_housesOf wsX8_allFell := goodIn_r _ [77, 2, 17, 89, 90, 91, 92, 93, 94, 95, 96, 97, 98, 99, 100, 101, 102, 103, 104, 105, 106, 107, 108, 109, 110, 111, 112, 113, 114, 115, 116, 117] (by decide +kernel) (by decide +kernel)
set_option maxRecDepth 20000 in
theorem gX8_housesOf_X8_allFell : GoodIn wsX8_housesOf (wsV RX8 207 RX8 yX8_allFell wsX8_allFell) := goodIn_app (goodIn_of _ (by decide +kernel)) ggX8_housesOf_X8_allFell
set_option maxRecDepth 20000 in
theorem ggX8_housesOf_X8_reads : GoodIn wsX8_housesOf wsX8_reads := goodIn_r _ [81, 2, 82, 83, 3, 84, 85, 7, 86, 87, 88, 43, 44, 45, 89, 90, 91, 92, 93, 94, 95, 96, 97, 98, 99, 100, 101, 102, 103, 104, 105, 106, 107, 108, 109, 110, 111, 112, 113, 114, 115, 116, 117] (by decide +kernel) (by decide +kernel)
set_option maxRecDepth 20000 in
theorem gX8_housesOf_X8_reads : GoodIn wsX8_housesOf (wsV RX8 120 RX8 yX8_reads wsX8_reads) := goodIn_app (goodIn_of _ (by decide +kernel)) ggX8_housesOf_X8_reads
theorem dX8_housesOf_0 : decode cX8_housesOf 0 = .ok (.aload_n 0, 1) := by decide +kernel
theorem dX8_housesOf_1 : decode cX8_housesOf 1 = .ok (.iload_n 1, 1) := by decide +kernel
theorem dX8_housesOf_2 : decode cX8_housesOf 2 = .ok (.putfield 291, 3) := by decide +kernel
theorem dX8_housesOf_5 : decode cX8_housesOf 5 = .ok (.aload_n 0, 1) := by decide +kernel
theorem dX8_housesOf_6 : decode cX8_housesOf 6 = .ok (.iload_n 2, 1) := by decide +kernel
theorem dX8_housesOf_7 : decode cX8_housesOf 7 = .ok (.putfield 114, 3) := by decide +kernel
theorem dX8_housesOf_10 : decode cX8_housesOf 10 = .ok (.iconst 0, 1) := by decide +kernel
theorem dX8_housesOf_11 : decode cX8_housesOf 11 = .ok (.istore 4, 2) := by decide +kernel
theorem dX8_housesOf_13 : decode cX8_housesOf 13 = .ok (.iload 4, 2) := by decide +kernel
theorem dX8_housesOf_15 : decode cX8_housesOf 15 = .ok (.iload_n 2, 1) := by decide +kernel
theorem dX8_housesOf_16 : decode cX8_housesOf 16 = .ok (.if_icmp .ge 57, 3) := by decide +kernel
theorem dX8_housesOf_19 : decode cX8_housesOf 19 = .ok (.aload_n 0, 1) := by decide +kernel
theorem dX8_housesOf_20 : decode cX8_housesOf 20 = .ok (.getfield 25, 3) := by decide +kernel
theorem dX8_housesOf_23 : decode cX8_housesOf 23 = .ok (.iconst 3, 1) := by decide +kernel
theorem dX8_housesOf_24 : decode cX8_housesOf 24 = .ok (.iload 4, 2) := by decide +kernel
theorem dX8_housesOf_26 : decode cX8_housesOf 26 = .ok (.imul, 1) := by decide +kernel
theorem dX8_housesOf_27 : decode cX8_housesOf 27 = .ok (.aload_n 0, 1) := by decide +kernel
theorem dX8_housesOf_28 : decode cX8_housesOf 28 = .ok (.iconst 4, 1) := by decide +kernel
theorem dX8_housesOf_29 : decode cX8_housesOf 29 = .ok (.invokevirtual 294, 3) := by decide +kernel
theorem dX8_housesOf_32 : decode cX8_housesOf 32 = .ok (.iastore, 1) := by decide +kernel
theorem dX8_housesOf_33 : decode cX8_housesOf 33 = .ok (.aload_n 0, 1) := by decide +kernel
theorem dX8_housesOf_34 : decode cX8_housesOf 34 = .ok (.getfield 25, 3) := by decide +kernel
theorem dX8_housesOf_37 : decode cX8_housesOf 37 = .ok (.iconst 3, 1) := by decide +kernel
theorem dX8_housesOf_38 : decode cX8_housesOf 38 = .ok (.iload 4, 2) := by decide +kernel
theorem dX8_housesOf_40 : decode cX8_housesOf 40 = .ok (.imul, 1) := by decide +kernel
theorem dX8_housesOf_41 : decode cX8_housesOf 41 = .ok (.iconst 1, 1) := by decide +kernel
theorem dX8_housesOf_42 : decode cX8_housesOf 42 = .ok (.iadd, 1) := by decide +kernel
theorem dX8_housesOf_43 : decode cX8_housesOf 43 = .ok (.aload_n 0, 1) := by decide +kernel
theorem dX8_housesOf_44 : decode cX8_housesOf 44 = .ok (.bipush 10, 2) := by decide +kernel
theorem dX8_housesOf_46 : decode cX8_housesOf 46 = .ok (.invokevirtual 294, 3) := by decide +kernel
theorem dX8_housesOf_49 : decode cX8_housesOf 49 = .ok (.iastore, 1) := by decide +kernel
theorem dX8_housesOf_50 : decode cX8_housesOf 50 = .ok (.aload_n 0, 1) := by decide +kernel
theorem dX8_housesOf_51 : decode cX8_housesOf 51 = .ok (.getfield 25, 3) := by decide +kernel
theorem dX8_housesOf_54 : decode cX8_housesOf 54 = .ok (.iconst 3, 1) := by decide +kernel
theorem dX8_housesOf_55 : decode cX8_housesOf 55 = .ok (.iload 4, 2) := by decide +kernel
