theorem dX5_drawLots_25 : decode cX5_drawLots 25 = .ok (.iload 4, 2) := by decide +kernel
theorem dX5_drawLots_27 : decode cX5_drawLots 27 = .ok (.iload_n 3, 1) := by decide +kernel
theorem dX5_drawLots_28 : decode cX5_drawLots 28 = .ok (.iconst 4, 1) := by decide +kernel
theorem dX5_drawLots_29 : decode cX5_drawLots 29 = .ok (.invokestatic 42, 3) := by decide +kernel
theorem dX5_drawLots_32 : decode cX5_drawLots 32 = .ok (.iastore, 1) := by decide +kernel
theorem dX5_drawLots_33 : decode cX5_drawLots 33 = .ok (.iload_n 3, 1) := by decide +kernel
theorem dX5_drawLots_34 : decode cX5_drawLots 34 = .ok (.invokestatic 39, 3) := by decide +kernel
theorem dX5_drawLots_37 : decode cX5_drawLots 37 = .ok (.istore_n 3, 1) := by decide +kernel
theorem dX5_drawLots_38 : decode cX5_drawLots 38 = .ok (.aload_n 0, 1) := by decide +kernel
theorem dX5_drawLots_39 : decode cX5_drawLots 39 = .ok (.getfield 15, 3) := by decide +kernel
theorem dX5_drawLots_42 : decode cX5_drawLots 42 = .ok (.iload 4, 2) := by decide +kernel
theorem dX5_drawLots_44 : decode cX5_drawLots 44 = .ok (.iload_n 3, 1) := by decide +kernel
theorem dX5_drawLots_45 : decode cX5_drawLots 45 = .ok (.bipush 10, 2) := by decide +kernel
theorem dX5_drawLots_47 : decode cX5_drawLots 47 = .ok (.invokestatic 42, 3) := by decide +kernel
theorem dX5_drawLots_50 : decode cX5_drawLots 50 = .ok (.iastore, 1) := by decide +kernel
theorem dX5_drawLots_51 : decode cX5_drawLots 51 = .ok (.iload_n 3, 1) := by decide +kernel
theorem dX5_drawLots_52 : decode cX5_drawLots 52 = .ok (.invokestatic 39, 3) := by decide +kernel
theorem dX5_drawLots_55 : decode cX5_drawLots 55 = .ok (.istore_n 3, 1) := by decide +kernel
theorem dX5_drawLots_56 : decode cX5_drawLots 56 = .ok (.aload_n 0, 1) := by decide +kernel
theorem dX5_drawLots_57 : decode cX5_drawLots 57 = .ok (.getfield 18, 3) := by decide +kernel
theorem dX5_drawLots_60 : decode cX5_drawLots 60 = .ok (.iload 4, 2) := by decide +kernel
theorem dX5_drawLots_62 : decode cX5_drawLots 62 = .ok (.iload_n 3, 1) := by decide +kernel
theorem dX5_drawLots_63 : decode cX5_drawLots 63 = .ok (.bipush 10, 2) := by decide +kernel
theorem dX5_drawLots_65 : decode cX5_drawLots 65 = .ok (.invokestatic 42, 3) := by decide +kernel
theorem dX5_drawLots_68 : decode cX5_drawLots 68 = .ok (.iastore, 1) := by decide +kernel
theorem dX5_drawLots_69 : decode cX5_drawLots 69 = .ok (.iinc 4 1, 3) := by decide +kernel
theorem dX5_drawLots_72 : decode cX5_drawLots 72 = .ok (.goto (-62), 3) := by decide +kernel
theorem dX5_drawLots_75 : decode cX5_drawLots 75 = .ok (.return_, 1) := by decide +kernel
theorem dX5_nextSeed_0 : decode cX5_nextSeed 0 = .ok (.ldc 46, 2) := by decide +kernel
theorem dX5_nextSeed_2 : decode cX5_nextSeed 2 = .ok (.iload_n 0, 1) := by decide +kernel
theorem dX5_nextSeed_3 : decode cX5_nextSeed 3 = .ok (.imul, 1) := by decide +kernel
theorem dX5_nextSeed_4 : decode cX5_nextSeed 4 = .ok (.sipush 12345, 3) := by decide +kernel
theorem dX5_nextSeed_7 : decode cX5_nextSeed 7 = .ok (.iadd, 1) := by decide +kernel
theorem dX5_nextSeed_8 : decode cX5_nextSeed 8 = .ok (.ireturn, 1) := by decide +kernel
theorem dX5_lot_0 : decode cX5_lot 0 = .ok (.iload_n 1, 1) := by decide +kernel
theorem dX5_lot_1 : decode cX5_lot 1 = .ok (.ifCond .le 12, 3) := by decide +kernel
theorem dX5_lot_4 : decode cX5_lot 4 = .ok (.iload_n 0, 1) := by decide +kernel
theorem dX5_lot_5 : decode cX5_lot 5 = .ok (.bipush 16, 2) := by decide +kernel
theorem dX5_lot_7 : decode cX5_lot 7 = .ok (.iushr, 1) := by decide +kernel
theorem dX5_lot_8 : decode cX5_lot 8 = .ok (.iload_n 1, 1) := by decide +kernel
theorem dX5_lot_9 : decode cX5_lot 9 = .ok (.irem, 1) := by decide +kernel
theorem dX5_lot_10 : decode cX5_lot 10 = .ok (.goto 4, 3) := by decide +kernel
theorem dX5_lot_13 : decode cX5_lot 13 = .ok (.iconst 0, 1) := by decide +kernel
theorem dX5_lot_14 : decode cX5_lot 14 = .ok (.ireturn, 1) := by decide +kernel
theorem dX6_init_0 : decode cX6_init 0 = .ok (.aload_n 0, 1) := by decide +kernel
theorem dX6_init_1 : decode cX6_init 1 = .ok (.invokespecial 3, 3) := by decide +kernel
theorem dX6_init_4 : decode cX6_init 4 = .ok (.aload_n 0, 1) := by decide +kernel
theorem dX6_init_5 : decode cX6_init 5 = .ok (.bipush 31, 2) := by decide +kernel
theorem dX6_init_7 : decode cX6_init 7 = .ok (.newarray .int, 2) := by decide +kernel
theorem dX6_init_9 : decode cX6_init 9 = .ok (.putfield 9, 3) := by decide +kernel
theorem dX6_init_12 : decode cX6_init 12 = .ok (.aload_n 0, 1) := by decide +kernel
theorem dX6_init_13 : decode cX6_init 13 = .ok (.iconst 0, 1) := by decide +kernel
theorem dX6_init_14 : decode cX6_init 14 = .ok (.putfield 15, 3) := by decide +kernel
theorem dX6_init_17 : decode cX6_init 17 = .ok (.return_, 1) := by decide +kernel
set_option maxRecDepth 20000 in
theorem ggX6_faultPlace_X6_goesOn : GoodIn wsX6_faultPlace wsX6_goesOn := goodIn_r _ [6, 7, 8, 5, 9] (by decide +kernel) (by decide +kernel)
set_option maxRecDepth 20000 in
theorem gX6_faultPlace_X6_goesOn : GoodIn wsX6_faultPlace (va_wsS RX6 19 yX6_goesOn wsX6_goesOn) := goodIn_app (goodIn_of _ (by decide +kernel)) ggX6_faultPlace_X6_goesOn
theorem dX6_faultPlace_0 : decode cX6_faultPlace 0 = .ok (.iconst 0, 1) := by decide +kernel
theorem dX6_faultPlace_1 : decode cX6_faultPlace 1 = .ok (.istore_n 1, 1) := by decide +kernel
theorem dX6_faultPlace_2 : decode cX6_faultPlace 2 = .ok (.iload_n 1, 1) := by decide +kernel
theorem dX6_faultPlace_3 : decode cX6_faultPlace 3 = .ok (.aload_n 0, 1) := by decide +kernel
theorem dX6_faultPlace_4 : decode cX6_faultPlace 4 = .ok (.getfield 15, 3) := by decide +kernel
theorem dX6_faultPlace_7 : decode cX6_faultPlace 7 = .ok (.if_icmp .ge 34, 3) := by decide +kernel
theorem dX6_faultPlace_10 : decode cX6_faultPlace 10 = .ok (.iload_n 1, 1) := by decide +kernel
theorem dX6_faultPlace_11 : decode cX6_faultPlace 11 = .ok (.iconst 4, 1) := by decide +kernel
theorem dX6_faultPlace_12 : decode cX6_faultPlace 12 = .ok (.idiv, 1) := by decide +kernel
theorem dX6_faultPlace_13 : decode cX6_faultPlace 13 = .ok (.bipush 8, 2) := by decide +kernel
theorem dX6_faultPlace_15 : decode cX6_faultPlace 15 = .ok (.if_icmp .ge 18, 3) := by decide +kernel
theorem dX6_faultPlace_18 : decode cX6_faultPlace 18 = .ok (.iload_n 1, 1) := by decide +kernel
theorem dX6_faultPlace_19 : decode cX6_faultPlace 19 = .ok (.iconst 4, 1) := by decide +kernel
theorem dX6_faultPlace_20 : decode cX6_faultPlace 20 = .ok (.irem, 1) := by decide +kernel
theorem dX6_faultPlace_21 : decode cX6_faultPlace 21 = .ok (.aload_n 0, 1) := by decide +kernel
theorem dX6_faultPlace_22 : decode cX6_faultPlace 22 = .ok (.getfield 9, 3) := by decide +kernel
theorem dX6_faultPlace_25 : decode cX6_faultPlace 25 = .ok (.iload_n 1, 1) := by decide +kernel
theorem dX6_faultPlace_26 : decode cX6_faultPlace 26 = .ok (.iaload, 1) := by decide +kernel
theorem dX6_faultPlace_27 : decode cX6_faultPlace 27 = .ok (.invokestatic 19, 3) := by decide +kernel
theorem dX6_faultPlace_30 : decode cX6_faultPlace 30 = .ok (.ifCond .ne 5, 3) := by decide +kernel
theorem dX6_faultPlace_33 : decode cX6_faultPlace 33 = .ok (.iload_n 1, 1) := by decide +kernel
theorem dX6_faultPlace_34 : decode cX6_faultPlace 34 = .ok (.ireturn, 1) := by decide +kernel
theorem dX6_faultPlace_35 : decode cX6_faultPlace 35 = .ok (.iinc 1 1, 3) := by decide +kernel
theorem dX6_faultPlace_38 : decode cX6_faultPlace 38 = .ok (.goto (-36), 3) := by decide +kernel
theorem dX6_faultPlace_41 : decode cX6_faultPlace 41 = .ok (.aload_n 0, 1) := by decide +kernel
theorem dX6_faultPlace_42 : decode cX6_faultPlace 42 = .ok (.getfield 15, 3) := by decide +kernel
theorem dX6_faultPlace_45 : decode cX6_faultPlace 45 = .ok (.ifCond .eq 13, 3) := by decide +kernel
theorem dX6_faultPlace_48 : decode cX6_faultPlace 48 = .ok (.aload_n 0, 1) := by decide +kernel
theorem dX6_faultPlace_49 : decode cX6_faultPlace 49 = .ok (.getfield 15, 3) := by decide +kernel
theorem dX6_faultPlace_52 : decode cX6_faultPlace 52 = .ok (.iconst 4, 1) := by decide +kernel
theorem dX6_faultPlace_53 : decode cX6_faultPlace 53 = .ok (.irem, 1) := by decide +kernel
theorem dX6_faultPlace_54 : decode cX6_faultPlace 54 = .ok (.iconst 3, 1) := by decide +kernel
theorem dX6_faultPlace_55 : decode cX6_faultPlace 55 = .ok (.if_icmp .ne 7, 3) := by decide +kernel
theorem dX6_faultPlace_58 : decode cX6_faultPlace 58 = .ok (.iconst (-1), 1) := by decide +kernel
theorem dX6_faultPlace_59 : decode cX6_faultPlace 59 = .ok (.goto 7, 3) := by decide +kernel
theorem dX6_faultPlace_62 : decode cX6_faultPlace 62 = .ok (.aload_n 0, 1) := by decide +kernel
theorem dX6_faultPlace_63 : decode cX6_faultPlace 63 = .ok (.getfield 15, 3) := by decide +kernel
theorem dX6_faultPlace_66 : decode cX6_faultPlace 66 = .ok (.ireturn, 1) := by decide +kernel
set_option maxRecDepth 20000 in
theorem ggX6_goesOn_X6_sortOf : GoodIn wsX6_goesOn wsX6_sortOf := goodIn_r _ [4] (by decide +kernel) (by decide +kernel)
set_option maxRecDepth 20000 in
theorem gX6_goesOn_X6_sortOf : GoodIn wsX6_goesOn (va_wsS RX6 23 yX6_sortOf wsX6_sortOf) := goodIn_app (goodIn_of _ (by decide +kernel)) ggX6_goesOn_X6_sortOf
theorem dX6_goesOn_0 : decode cX6_goesOn 0 = .ok (.iload_n 0, 1) := by decide +kernel
theorem dX6_goesOn_1 : decode cX6_goesOn 1 = .ok (.ifCond .ne 17, 3) := by decide +kernel
theorem dX6_goesOn_4 : decode cX6_goesOn 4 = .ok (.iload_n 1, 1) := by decide +kernel
theorem dX6_goesOn_5 : decode cX6_goesOn 5 = .ok (.invokestatic 23, 3) := by decide +kernel
theorem dX6_goesOn_8 : decode cX6_goesOn 8 = .ok (.iconst (-1), 1) := by decide +kernel
theorem dX6_goesOn_9 : decode cX6_goesOn 9 = .ok (.if_icmp .eq 7, 3) := by decide +kernel
theorem dX6_goesOn_12 : decode cX6_goesOn 12 = .ok (.iconst 1, 1) := by decide +kernel
theorem dX6_goesOn_13 : decode cX6_goesOn 13 = .ok (.goto 4, 3) := by decide +kernel
theorem dX6_goesOn_16 : decode cX6_goesOn 16 = .ok (.iconst 0, 1) := by decide +kernel
theorem dX6_goesOn_17 : decode cX6_goesOn 17 = .ok (.ireturn, 1) := by decide +kernel
theorem dX6_goesOn_18 : decode cX6_goesOn 18 = .ok (.iload_n 0, 1) := by decide +kernel
theorem dX6_goesOn_19 : decode cX6_goesOn 19 = .ok (.iconst 3, 1) := by decide +kernel
theorem dX6_goesOn_20 : decode cX6_goesOn 20 = .ok (.if_icmp .ne 17, 3) := by decide +kernel
theorem dX6_goesOn_23 : decode cX6_goesOn 23 = .ok (.iload_n 1, 1) := by decide +kernel
theorem dX6_goesOn_24 : decode cX6_goesOn 24 = .ok (.bipush 59, 2) := by decide +kernel
theorem dX6_goesOn_26 : decode cX6_goesOn 26 = .ok (.if_icmp .ne 7, 3) := by decide +kernel
theorem dX6_goesOn_29 : decode cX6_goesOn 29 = .ok (.iconst 1, 1) := by decide +kernel
theorem dX6_goesOn_30 : decode cX6_goesOn 30 = .ok (.goto 24, 3) := by decide +kernel
theorem dX6_goesOn_33 : decode cX6_goesOn 33 = .ok (.iconst 0, 1) := by decide +kernel
theorem dX6_goesOn_34 : decode cX6_goesOn 34 = .ok (.goto 20, 3) := by decide +kernel
theorem dX6_goesOn_37 : decode cX6_goesOn 37 = .ok (.iload_n 1, 1) := by decide +kernel
theorem dX6_goesOn_38 : decode cX6_goesOn 38 = .ok (.bipush 48, 2) := by decide +kernel
theorem dX6_goesOn_40 : decode cX6_goesOn 40 = .ok (.if_icmp .lt 13, 3) := by decide +kernel
theorem dX6_goesOn_43 : decode cX6_goesOn 43 = .ok (.iload_n 1, 1) := by decide +kernel
theorem dX6_goesOn_44 : decode cX6_goesOn 44 = .ok (.bipush 57, 2) := by decide +kernel
theorem dX6_goesOn_46 : decode cX6_goesOn 46 = .ok (.if_icmp .gt 7, 3) := by decide +kernel
theorem dX6_goesOn_49 : decode cX6_goesOn 49 = .ok (.iconst 1, 1) := by decide +kernel
theorem dX6_goesOn_50 : decode cX6_goesOn 50 = .ok (.goto 4, 3) := by decide +kernel
theorem dX6_goesOn_53 : decode cX6_goesOn 53 = .ok (.iconst 0, 1) := by decide +kernel
theorem dX6_goesOn_54 : decode cX6_goesOn 54 = .ok (.ireturn, 1) := by decide +kernel
theorem dX6_sortOf_0 : decode cX6_sortOf 0 = .ok (.iload_n 0, 1) := by decide +kernel
theorem dX6_sortOf_1 : decode cX6_sortOf 1 = .ok (.lookupswitch 51 #[(99, 47), (111, 43), (112, 45), (114, 49)], 43) := by decide +kernel
theorem dX6_sortOf_44 : decode cX6_sortOf 44 = .ok (.iconst 0, 1) := by decide +kernel
theorem dX6_sortOf_45 : decode cX6_sortOf 45 = .ok (.ireturn, 1) := by decide +kernel
theorem dX6_sortOf_46 : decode cX6_sortOf 46 = .ok (.iconst 1, 1) := by decide +kernel
theorem dX6_sortOf_47 : decode cX6_sortOf 47 = .ok (.ireturn, 1) := by decide +kernel
theorem dX6_sortOf_48 : decode cX6_sortOf 48 = .ok (.iconst 2, 1) := by decide +kernel
theorem dX6_sortOf_49 : decode cX6_sortOf 49 = .ok (.ireturn, 1) := by decide +kernel
theorem dX6_sortOf_50 : decode cX6_sortOf 50 = .ok (.iconst 3, 1) := by decide +kernel
theorem dX6_sortOf_51 : decode cX6_sortOf 51 = .ok (.ireturn, 1) := by decide +kernel
theorem dX6_sortOf_52 : decode cX6_sortOf 52 = .ok (.iconst (-1), 1) := by decide +kernel
theorem dX6_sortOf_53 : decode cX6_sortOf 53 = .ok (.ireturn, 1) := by decide +kernel
set_option maxRecDepth 20000 in
theorem ggX7_init_X6_init : GoodIn wsX7_init wsX6_init := goodIn_r _ [42, 43, 2, 3, 32, 44, 45, 92, 93] (by decide +kernel) (by decide +kernel)
set_option maxRecDepth 20000 in
theorem gX7_init_X6_init_n11 : GoodIn wsX7_init (wsX6_init) := ggX7_init_X6_init
set_option maxRecDepth 20000 in
theorem ggX7_init_X5_init : GoodIn wsX7_init wsX5_init := goodIn_r _ [47, 48, 2, 3, 32, 49, 50, 51, 52, 109, 110, 111, 112] (by decide +kernel) (by decide +kernel)
set_option maxRecDepth 20000 in
theorem gX7_init_X5_init_n18 : GoodIn wsX7_init (wsX5_init) := ggX7_init_X5_init
set_option maxRecDepth 20000 in
theorem ggX7_init_X2_init : GoodIn wsX7_init wsX2_init := goodIn_r _ [54, 55, 2, 3, 32, 56, 57, 58, 59, 113, 114, 115, 116] (by decide +kernel) (by decide +kernel)
set_option maxRecDepth 20000 in
theorem gX7_init_X2_init_n28 : GoodIn wsX7_init (wsX2_init) := ggX7_init_X2_init
set_option maxRecDepth 20000 in
theorem ggX7_init_X3_init : GoodIn wsX7_init wsX3_init := goodIn_r _ [61, 62, 2, 3, 32, 63, 64, 65, 66, 117, 118, 119, 120] (by decide +kernel) (by decide +kernel)
set_option maxRecDepth 20000 in
theorem gX7_init_X3_init_n35 : GoodIn wsX7_init (wsX3_init) := ggX7_init_X3_init
set_option maxRecDepth 20000 in
theorem ggX7_init_X1_init : GoodIn wsX7_init wsX1_init := goodIn_r _ [68, 69, 2, 3, 70, 32, 71, 72, 73, 74, 75, 76, 77, 78, 79, 80, 81, 121, 122, 123, 124, 125, 126, 127, 128, 129, 130, 131, 132] (by decide +kernel) (by decide +kernel)
set_option maxRecDepth 20000 in
theorem gX7_init_X1_init_n42 : GoodIn wsX7_init (wsX1_init) := ggX7_init_X1_init
set_option maxRecDepth 20000 in
theorem ggX7_init_X0_init : GoodIn wsX7_init wsX0_init := goodIn_r _ [83, 84, 2, 3] (by decide +kernel) (by decide +kernel)
set_option maxRecDepth 20000 in
theorem gX7_init_X0_init_n52 : GoodIn wsX7_init (wsX0_init) := ggX7_init_X0_init
set_option maxRecDepth 20000 in
theorem ggX7_init_X4_init : GoodIn wsX7_init wsX4_init := goodIn_r _ [86, 87, 2, 3, 32, 88, 89, 90, 91, 136, 137, 138, 139] (by decide +kernel) (by decide +kernel)
set_option maxRecDepth 20000 in
theorem gX7_init_X4_init_n84 : GoodIn wsX7_init (wsX4_init) := ggX7_init_X4_init
theorem dX7_init_0 : decode cX7_init 0 = .ok (.aload_n 0, 1) := by decide +kernel
theorem dX7_init_1 : decode cX7_init 1 = .ok (.invokespecial 3, 3) := by decide +kernel
theorem dX7_init_4 : decode cX7_init 4 = .ok (.aload_n 0, 1) := by decide +kernel
theorem dX7_init_5 : decode cX7_init 5 = .ok (.new 9, 3) := by decide +kernel
theorem dX7_init_8 : decode cX7_init 8 = .ok (.dup, 1) := by decide +kernel
theorem dX7_init_9 : decode cX7_init 9 = .ok (.invokespecial 11, 3) := by decide +kernel
theorem dX7_init_12 : decode cX7_init 12 = .ok (.putfield 12, 3) := by decide +kernel
theorem dX7_init_15 : decode cX7_init 15 = .ok (.aload_n 0, 1) := by decide +kernel
theorem dX7_init_16 : decode cX7_init 16 = .ok (.new 16, 3) := by decide +kernel
theorem dX7_init_19 : decode cX7_init 19 = .ok (.dup, 1) := by decide +kernel
theorem dX7_init_20 : decode cX7_init 20 = .ok (.invokespecial 18, 3) := by decide +kernel
theorem dX7_init_23 : decode cX7_init 23 = .ok (.putfield 19, 3) := by decide +kernel
theorem dX7_init_26 : decode cX7_init 26 = .ok (.aload_n 0, 1) := by decide +kernel
theorem dX7_init_27 : decode cX7_init 27 = .ok (.new 16, 3) := by decide +kernel
theorem dX7_init_30 : decode cX7_init 30 = .ok (.dup, 1) := by decide +kernel
theorem dX7_init_31 : decode cX7_init 31 = .ok (.invokespecial 18, 3) := by decide +kernel
theorem dX7_init_34 : decode cX7_init 34 = .ok (.putfield 23, 3) := by decide +kernel
theorem dX7_init_37 : decode cX7_init 37 = .ok (.aload_n 0, 1) := by decide +kernel
theorem dX7_init_38 : decode cX7_init 38 = .ok (.new 26, 3) := by decide +kernel
theorem dX7_init_41 : decode cX7_init 41 = .ok (.dup, 1) := by decide +kernel
theorem dX7_init_42 : decode cX7_init 42 = .ok (.invokespecial 28, 3) := by decide +kernel
theorem dX7_init_45 : decode cX7_init 45 = .ok (.putfield 29, 3) := by decide +kernel
theorem dX7_init_48 : decode cX7_init 48 = .ok (.aload_n 0, 1) := by decide +kernel
theorem dX7_init_49 : decode cX7_init 49 = .ok (.new 33, 3) := by decide +kernel
theorem dX7_init_52 : decode cX7_init 52 = .ok (.dup, 1) := by decide +kernel
theorem dX7_init_53 : decode cX7_init 53 = .ok (.invokespecial 35, 3) := by decide +kernel
theorem dX7_init_56 : decode cX7_init 56 = .ok (.putfield 36, 3) := by decide +kernel
theorem dX7_init_59 : decode cX7_init 59 = .ok (.aload_n 0, 1) := by decide +kernel
theorem dX7_init_60 : decode cX7_init 60 = .ok (.new 40, 3) := by decide +kernel
theorem dX7_init_63 : decode cX7_init 63 = .ok (.dup, 1) := by decide +kernel
theorem dX7_init_64 : decode cX7_init 64 = .ok (.invokespecial 42, 3) := by decide +kernel
theorem dX7_init_67 : decode cX7_init 67 = .ok (.putfield 43, 3) := by decide +kernel
theorem dX7_init_70 : decode cX7_init 70 = .ok (.aload_n 0, 1) := by decide +kernel
theorem dX7_init_71 : decode cX7_init 71 = .ok (.new 40, 3) := by decide +kernel
theorem dX7_init_74 : decode cX7_init 74 = .ok (.dup, 1) := by decide +kernel
theorem dX7_init_75 : decode cX7_init 75 = .ok (.invokespecial 42, 3) := by decide +kernel
theorem dX7_init_78 : decode cX7_init 78 = .ok (.putfield 47, 3) := by decide +kernel
theorem dX7_init_81 : decode cX7_init 81 = .ok (.aload_n 0, 1) := by decide +kernel
theorem dX7_init_82 : decode cX7_init 82 = .ok (.new 50, 3) := by decide +kernel
theorem dX7_init_85 : decode cX7_init 85 = .ok (.dup, 1) := by decide +kernel
theorem dX7_init_86 : decode cX7_init 86 = .ok (.invokespecial 52, 3) := by decide +kernel
theorem dX7_init_89 : decode cX7_init 89 = .ok (.putfield 53, 3) := by decide +kernel
theorem dX7_init_92 : decode cX7_init 92 = .ok (.aload_n 0, 1) := by decide +kernel
theorem dX7_init_93 : decode cX7_init 93 = .ok (.iconst 4, 1) := by decide +kernel
theorem dX7_init_94 : decode cX7_init 94 = .ok (.anewarray 57, 3) := by decide +kernel
theorem dX7_init_97 : decode cX7_init 97 = .ok (.putfield 59, 3) := by decide +kernel
theorem dX7_init_100 : decode cX7_init 100 = .ok (.aload_n 0, 1) := by decide +kernel
theorem dX7_init_101 : decode cX7_init 101 = .ok (.sipush 256, 3) := by decide +kernel
theorem dX7_init_104 : decode cX7_init 104 = .ok (.newarray .int, 2) := by decide +kernel
theorem dX7_init_106 : decode cX7_init 106 = .ok (.putfield 63, 3) := by decide +kernel
theorem dX7_init_109 : decode cX7_init 109 = .ok (.aload_n 0, 1) := by decide +kernel
theorem dX7_init_110 : decode cX7_init 110 = .ok (.sipush 240, 3) := by decide +kernel
theorem dX7_init_113 : decode cX7_init 113 = .ok (.newarray .int, 2) := by decide +kernel
theorem dX7_init_115 : decode cX7_init 115 = .ok (.putfield 67, 3) := by decide +kernel
theorem dX7_init_118 : decode cX7_init 118 = .ok (.aload_n 0, 1) := by decide +kernel
theorem dX7_init_119 : decode cX7_init 119 = .ok (.iconst 2, 1) := by decide +kernel
theorem dX7_init_120 : decode cX7_init 120 = .ok (.putfield 70, 3) := by decide +kernel
theorem dX7_init_123 : decode cX7_init 123 = .ok (.aload_n 0, 1) := by decide +kernel
theorem dX7_init_124 : decode cX7_init 124 = .ok (.iconst 0, 1) := by decide +kernel
theorem dX7_init_125 : decode cX7_init 125 = .ok (.putfield 74, 3) := by decide +kernel
theorem dX7_init_128 : decode cX7_init 128 = .ok (.aload_n 0, 1) := by decide +kernel
theorem dX7_init_129 : decode cX7_init 129 = .ok (.iconst 0, 1) := by decide +kernel
theorem dX7_init_130 : decode cX7_init 130 = .ok (.putfield 77, 3) := by decide +kernel
theorem dX7_init_133 : decode cX7_init 133 = .ok (.aload_n 0, 1) := by decide +kernel
theorem dX7_init_134 : decode cX7_init 134 = .ok (.iconst 0, 1) := by decide +kernel
theorem dX7_init_135 : decode cX7_init 135 = .ok (.putfield 81, 3) := by decide +kernel
theorem dX7_init_138 : decode cX7_init 138 = .ok (.iconst 0, 1) := by decide +kernel
theorem dX7_init_139 : decode cX7_init 139 = .ok (.istore_n 1, 1) := by decide +kernel
theorem dX7_init_140 : decode cX7_init 140 = .ok (.iload_n 1, 1) := by decide +kernel
theorem dX7_init_141 : decode cX7_init 141 = .ok (.iconst 4, 1) := by decide +kernel
theorem dX7_init_142 : decode cX7_init 142 = .ok (.if_icmp .ge 22, 3) := by decide +kernel
theorem dX7_init_145 : decode cX7_init 145 = .ok (.aload_n 0, 1) := by decide +kernel
theorem dX7_init_146 : decode cX7_init 146 = .ok (.getfield 59, 3) := by decide +kernel
theorem dX7_init_149 : decode cX7_init 149 = .ok (.iload_n 1, 1) := by decide +kernel
theorem dX7_init_150 : decode cX7_init 150 = .ok (.new 57, 3) := by decide +kernel
theorem dX7_init_153 : decode cX7_init 153 = .ok (.dup, 1) := by decide +kernel
theorem dX7_init_154 : decode cX7_init 154 = .ok (.invokespecial 84, 3) := by decide +kernel
theorem dX7_init_157 : decode cX7_init 157 = .ok (.aastore, 1) := by decide +kernel
theorem dX7_init_158 : decode cX7_init 158 = .ok (.iinc 1 1, 3) := by decide +kernel
theorem dX7_init_161 : decode cX7_init 161 = .ok (.goto (-21), 3) := by decide +kernel
theorem dX7_init_164 : decode cX7_init 164 = .ok (.return_, 1) := by decide +kernel
set_option maxRecDepth 20000 in
theorem ggX7_type_X7_within : GoodIn wsX7_type wsX7_within := goodIn_r _ [7] (by decide +kernel) (by decide +kernel)
set_option maxRecDepth 20000 in
theorem gX7_type_X7_within : GoodIn wsX7_type (va_wsS RX7 85 yX7_within wsX7_within) := goodIn_app (goodIn_of _ (by decide +kernel)) ggX7_type_X7_within
set_option maxRecDepth 20000 in
theorem ggX7_type_X7_textChanged : GoodIn wsX7_type wsX7_textChanged := goodIn_r _ [11, 12, 1, 13, 14, 15, 16, 17, 18, 19, 20, 21, 22, 23, 24, 25, 26, 27, 28, 29, 30, 31, 32, 33, 34, 35, 36, 37, 38, 39, 40, 6, 41, 42, 43, 44, 45, 46, 47, 48, 49, 50, 51, 52, 53, 54, 55, 56, 57, 58, 61, 62, 63, 64, 59, 60] (by decide +kernel) (by decide +kernel)
set_option maxRecDepth 20000 in
theorem gX7_type_X7_textChanged : GoodIn wsX7_type (wsV RX7 95 RX7 yX7_textChanged wsX7_textChanged) := goodIn_app (goodIn_of _ (by decide +kernel)) ggX7_type_X7_textChanged
theorem dX7_type_0 : decode cX7_type 0 = .ok (.iload_n 1, 1) := by decide +kernel
theorem dX7_type_1 : decode cX7_type 1 = .ok (.iconst 0, 1) := by decide +kernel
theorem dX7_type_2 : decode cX7_type 2 = .ok (.sipush 255, 3) := by decide +kernel
theorem dX7_type_5 : decode cX7_type 5 = .ok (.invokestatic 85, 3) := by decide +kernel
theorem dX7_type_8 : decode cX7_type 8 = .ok (.ifCond .ne 6, 3) := by decide +kernel
theorem dX7_type_11 : decode cX7_type 11 = .ok (.bipush (-2), 2) := by decide +kernel
theorem dX7_type_13 : decode cX7_type 13 = .ok (.ireturn, 1) := by decide +kernel
theorem dX7_type_14 : decode cX7_type 14 = .ok (.aload_n 0, 1) := by decide +kernel
theorem dX7_type_15 : decode cX7_type 15 = .ok (.getfield 12, 3) := by decide +kernel
theorem dX7_type_18 : decode cX7_type 18 = .ok (.getfield 89, 3) := by decide +kernel
theorem dX7_type_21 : decode cX7_type 21 = .ok (.bipush 31, 2) := by decide +kernel
theorem dX7_type_23 : decode cX7_type 23 = .ok (.if_icmp .lt 6, 3) := by decide +kernel
theorem dX7_type_26 : decode cX7_type 26 = .ok (.bipush (-4), 2) := by decide +kernel
theorem dX7_type_28 : decode cX7_type 28 = .ok (.ireturn, 1) := by decide +kernel
theorem dX7_type_29 : decode cX7_type 29 = .ok (.aload_n 0, 1) := by decide +kernel
theorem dX7_type_30 : decode cX7_type 30 = .ok (.getfield 12, 3) := by decide +kernel
theorem dX7_type_33 : decode cX7_type 33 = .ok (.getfield 92, 3) := by decide +kernel
theorem dX7_type_36 : decode cX7_type 36 = .ok (.aload_n 0, 1) := by decide +kernel
theorem dX7_type_37 : decode cX7_type 37 = .ok (.getfield 12, 3) := by decide +kernel
theorem dX7_type_40 : decode cX7_type 40 = .ok (.getfield 89, 3) := by decide +kernel
theorem dX7_type_43 : decode cX7_type 43 = .ok (.iload_n 1, 1) := by decide +kernel
theorem dX7_type_44 : decode cX7_type 44 = .ok (.iastore, 1) := by decide +kernel
theorem dX7_type_45 : decode cX7_type 45 = .ok (.aload_n 0, 1) := by decide +kernel
theorem dX7_type_46 : decode cX7_type 46 = .ok (.getfield 12, 3) := by decide +kernel
theorem dX7_type_49 : decode cX7_type 49 = .ok (.dup, 1) := by decide +kernel
theorem dX7_type_50 : decode cX7_type 50 = .ok (.getfield 89, 3) := by decide +kernel
theorem dX7_type_53 : decode cX7_type 53 = .ok (.iconst 1, 1) := by decide +kernel
theorem dX7_type_54 : decode cX7_type 54 = .ok (.iadd, 1) := by decide +kernel
theorem dX7_type_55 : decode cX7_type 55 = .ok (.putfield 89, 3) := by decide +kernel
theorem dX7_type_58 : decode cX7_type 58 = .ok (.aload_n 0, 1) := by decide +kernel
theorem dX7_type_59 : decode cX7_type 59 = .ok (.invokevirtual 95, 3) := by decide +kernel
theorem dX7_type_62 : decode cX7_type 62 = .ok (.aload_n 0, 1) := by decide +kernel
theorem dX7_type_63 : decode cX7_type 63 = .ok (.getfield 12, 3) := by decide +kernel
theorem dX7_type_66 : decode cX7_type 66 = .ok (.getfield 89, 3) := by decide +kernel
theorem dX7_type_69 : decode cX7_type 69 = .ok (.ireturn, 1) := by decide +kernel
set_option maxRecDepth 20000 in
theorem ggX7_wipe_X7_textChanged : GoodIn wsX7_wipe wsX7_textChanged := goodIn_r _ [7, 8, 1, 9, 10, 11, 12, 13, 14, 15, 16, 17, 18, 19, 20, 21, 22, 23, 24, 25, 26, 27, 28, 29, 30, 31, 32, 33, 34, 35, 36, 6, 37, 38, 39, 40, 41, 42, 43, 44, 45, 46, 47, 48, 49, 50, 51, 52, 53, 54, 57, 58, 59, 60, 55, 56] (by decide +kernel) (by decide +kernel)
set_option maxRecDepth 20000 in
theorem gX7_wipe_X7_textChanged : GoodIn wsX7_wipe (wsV RX7 95 RX7 yX7_textChanged wsX7_textChanged) := goodIn_app (goodIn_of _ (by decide +kernel)) ggX7_wipe_X7_textChanged
theorem dX7_wipe_0 : decode cX7_wipe 0 = .ok (.aload_n 0, 1) := by decide +kernel
theorem dX7_wipe_1 : decode cX7_wipe 1 = .ok (.getfield 12, 3) := by decide +kernel
theorem dX7_wipe_4 : decode cX7_wipe 4 = .ok (.getfield 89, 3) := by decide +kernel
theorem dX7_wipe_7 : decode cX7_wipe 7 = .ok (.istore_n 1, 1) := by decide +kernel
theorem dX7_wipe_8 : decode cX7_wipe 8 = .ok (.aload_n 0, 1) := by decide +kernel
theorem dX7_wipe_9 : decode cX7_wipe 9 = .ok (.getfield 12, 3) := by decide +kernel
theorem dX7_wipe_12 : decode cX7_wipe 12 = .ok (.iconst 0, 1) := by decide +kernel
theorem dX7_wipe_13 : decode cX7_wipe 13 = .ok (.putfield 89, 3) := by decide +kernel
theorem dX7_wipe_16 : decode cX7_wipe 16 = .ok (.aload_n 0, 1) := by decide +kernel
theorem dX7_wipe_17 : decode cX7_wipe 17 = .ok (.invokevirtual 95, 3) := by decide +kernel
theorem dX7_wipe_20 : decode cX7_wipe 20 = .ok (.iload_n 1, 1) := by decide +kernel
theorem dX7_wipe_21 : decode cX7_wipe 21 = .ok (.ireturn, 1) := by decide +kernel
set_option maxRecDepth 20000 in
theorem ggX7_undo_X7_textChanged : GoodIn wsX7_undo wsX7_textChanged := goodIn_r _ [7, 8, 1, 9, 10, 11, 12, 13, 14, 15, 16, 17, 18, 19, 20, 21, 22, 23, 24, 25, 26, 27, 28, 29, 30, 31, 32, 33, 34, 35, 36, 6, 37, 38, 39, 40, 41, 42, 43, 44, 45, 46, 47, 48, 49, 50, 51, 52, 53, 54, 57, 58, 59, 60, 55, 56] (by decide +kernel) (by decide +kernel)
set_option maxRecDepth 20000 in
theorem gX7_undo_X7_textChanged : GoodIn wsX7_undo (wsV RX7 95 RX7 yX7_textChanged wsX7_textChanged) := goodIn_app (goodIn_of _ (by decide +kernel)) ggX7_undo_X7_textChanged
theorem dX7_undo_0 : decode cX7_undo 0 = .ok (.aload_n 0, 1) := by decide +kernel
theorem dX7_undo_1 : decode cX7_undo 1 = .ok (.getfield 12, 3) := by decide +kernel
theorem dX7_undo_4 : decode cX7_undo 4 = .ok (.getfield 89, 3) := by decide +kernel
theorem dX7_undo_7 : decode cX7_undo 7 = .ok (.ifCond .ne 6, 3) := by decide +kernel
theorem dX7_undo_10 : decode cX7_undo 10 = .ok (.bipush (-3), 2) := by decide +kernel
theorem dX7_undo_12 : decode cX7_undo 12 = .ok (.ireturn, 1) := by decide +kernel
theorem dX7_undo_13 : decode cX7_undo 13 = .ok (.aload_n 0, 1) := by decide +kernel
theorem dX7_undo_14 : decode cX7_undo 14 = .ok (.getfield 12, 3) := by decide +kernel
theorem dX7_undo_17 : decode cX7_undo 17 = .ok (.dup, 1) := by decide +kernel
theorem dX7_undo_18 : decode cX7_undo 18 = .ok (.getfield 89, 3) := by decide +kernel
theorem dX7_undo_21 : decode cX7_undo 21 = .ok (.iconst 1, 1) := by decide +kernel
theorem dX7_undo_22 : decode cX7_undo 22 = .ok (.isub, 1) := by decide +kernel
theorem dX7_undo_23 : decode cX7_undo 23 = .ok (.putfield 89, 3) := by decide +kernel
theorem dX7_undo_26 : decode cX7_undo 26 = .ok (.aload_n 0, 1) := by decide +kernel
theorem dX7_undo_27 : decode cX7_undo 27 = .ok (.invokevirtual 95, 3) := by decide +kernel
theorem dX7_undo_30 : decode cX7_undo 30 = .ok (.aload_n 0, 1) := by decide +kernel
theorem dX7_undo_31 : decode cX7_undo 31 = .ok (.getfield 12, 3) := by decide +kernel
theorem dX7_undo_34 : decode cX7_undo 34 = .ok (.getfield 89, 3) := by decide +kernel
theorem dX7_undo_37 : decode cX7_undo 37 = .ok (.ireturn, 1) := by decide +kernel
set_option maxRecDepth 20000 in
theorem ggX7_fault_X6_faultPlace : GoodIn wsX7_fault wsX6_faultPlace := goodIn_r _ [6, 7, 8, 9, 10, 5, 11, 12, 13, 14, 30, 31] (by decide +kernel) (by decide +kernel)
set_option maxRecDepth 20000 in
theorem gX7_fault_X6_faultPlace : GoodIn wsX7_fault (wsV RX7 98 RX6 yX6_faultPlace wsX6_faultPlace) := goodIn_app (goodIn_of _ (by decide +kernel)) ggX7_fault_X6_faultPlace
theorem dX7_fault_0 : decode cX7_fault 0 = .ok (.aload_n 0, 1) := by decide +kernel
theorem dX7_fault_1 : decode cX7_fault 1 = .ok (.getfield 12, 3) := by decide +kernel
theorem dX7_fault_4 : decode cX7_fault 4 = .ok (.invokevirtual 98, 3) := by decide +kernel
theorem dX7_fault_7 : decode cX7_fault 7 = .ok (.ireturn, 1) := by decide +kernel
set_option maxRecDepth 20000 in
theorem ggX7_tenant_X7_isTenant : GoodIn wsX7_tenant wsX7_isTenant := goodIn_r _ [9, 1, 10, 14, 15, 16, 17, 18, 19, 20, 21, 22, 23, 24, 25, 26, 27, 28, 29, 30, 31, 32] (by decide +kernel) (by decide +kernel)
set_option maxRecDepth 20000 in
theorem gX7_tenant_X7_isTenant : GoodIn wsX7_tenant (wsV RX7 102 RX7 yX7_isTenant wsX7_isTenant) := goodIn_app (goodIn_of _ (by decide +kernel)) ggX7_tenant_X7_isTenant
set_option maxRecDepth 20000 in
theorem ggX7_tenant_X7_within : GoodIn wsX7_tenant wsX7_within := goodIn_r _ [13] (by decide +kernel) (by decide +kernel)
set_option maxRecDepth 20000 in
theorem gX7_tenant_X7_within : GoodIn wsX7_tenant (va_wsS RX7 85 yX7_within wsX7_within) := goodIn_app (goodIn_of _ (by decide +kernel)) ggX7_tenant_X7_within
theorem dX7_tenant_0 : decode cX7_tenant 0 = .ok (.aload_n 0, 1) := by decide +kernel
theorem dX7_tenant_1 : decode cX7_tenant 1 = .ok (.iload_n 1, 1) := by decide +kernel
theorem dX7_tenant_2 : decode cX7_tenant 2 = .ok (.invokevirtual 102, 3) := by decide +kernel
theorem dX7_tenant_5 : decode cX7_tenant 5 = .ok (.ifCond .eq 12, 3) := by decide +kernel
theorem dX7_tenant_8 : decode cX7_tenant 8 = .ok (.iload_n 2, 1) := by decide +kernel
theorem dX7_tenant_9 : decode cX7_tenant 9 = .ok (.iconst 0, 1) := by decide +kernel
theorem dX7_tenant_10 : decode cX7_tenant 10 = .ok (.iconst 2, 1) := by decide +kernel
theorem dX7_tenant_11 : decode cX7_tenant 11 = .ok (.invokestatic 85, 3) := by decide +kernel
theorem dX7_tenant_14 : decode cX7_tenant 14 = .ok (.ifCond .ne 6, 3) := by decide +kernel
theorem dX7_tenant_17 : decode cX7_tenant 17 = .ok (.bipush (-2), 2) := by decide +kernel
theorem dX7_tenant_19 : decode cX7_tenant 19 = .ok (.ireturn, 1) := by decide +kernel
theorem dX7_tenant_20 : decode cX7_tenant 20 = .ok (.iload_n 2, 1) := by decide +kernel
theorem dX7_tenant_21 : decode cX7_tenant 21 = .ok (.ifCond .ne 13, 3) := by decide +kernel
theorem dX7_tenant_24 : decode cX7_tenant 24 = .ok (.aload_n 0, 1) := by decide +kernel
theorem dX7_tenant_25 : decode cX7_tenant 25 = .ok (.getfield 19, 3) := by decide +kernel
theorem dX7_tenant_28 : decode cX7_tenant 28 = .ok (.getfield 106, 3) := by decide +kernel
theorem dX7_tenant_31 : decode cX7_tenant 31 = .ok (.iload_n 1, 1) := by decide +kernel
theorem dX7_tenant_32 : decode cX7_tenant 32 = .ok (.iaload, 1) := by decide +kernel
theorem dX7_tenant_33 : decode cX7_tenant 33 = .ok (.ireturn, 1) := by decide +kernel
theorem dX7_tenant_34 : decode cX7_tenant 34 = .ok (.iload_n 2, 1) := by decide +kernel
theorem dX7_tenant_35 : decode cX7_tenant 35 = .ok (.iconst 1, 1) := by decide +kernel
theorem dX7_tenant_36 : decode cX7_tenant 36 = .ok (.if_icmp .ne 15, 3) := by decide +kernel
theorem dX7_tenant_39 : decode cX7_tenant 39 = .ok (.aload_n 0, 1) := by decide +kernel
theorem dX7_tenant_40 : decode cX7_tenant 40 = .ok (.getfield 19, 3) := by decide +kernel
theorem dX7_tenant_43 : decode cX7_tenant 43 = .ok (.getfield 109, 3) := by decide +kernel
theorem dX7_tenant_46 : decode cX7_tenant 46 = .ok (.iload_n 1, 1) := by decide +kernel
theorem dX7_tenant_47 : decode cX7_tenant 47 = .ok (.iaload, 1) := by decide +kernel
theorem dX7_tenant_48 : decode cX7_tenant 48 = .ok (.goto 12, 3) := by decide +kernel
theorem dX7_tenant_51 : decode cX7_tenant 51 = .ok (.aload_n 0, 1) := by decide +kernel
theorem dX7_tenant_52 : decode cX7_tenant 52 = .ok (.getfield 19, 3) := by decide +kernel
theorem dX7_tenant_55 : decode cX7_tenant 55 = .ok (.getfield 112, 3) := by decide +kernel
theorem dX7_tenant_58 : decode cX7_tenant 58 = .ok (.iload_n 1, 1) := by decide +kernel
theorem dX7_tenant_59 : decode cX7_tenant 59 = .ok (.iaload, 1) := by decide +kernel
theorem dX7_tenant_60 : decode cX7_tenant 60 = .ok (.ireturn, 1) := by decide +kernel
set_option maxRecDepth 20000 in
theorem ggX7_room_X7_within : GoodIn wsX7_room wsX7_within := goodIn_r _ [5] (by decide +kernel) (by decide +kernel)
set_option maxRecDepth 20000 in
theorem gX7_room_X7_within : GoodIn wsX7_room (va_wsS RX7 85 yX7_within wsX7_within) := goodIn_app (goodIn_of _ (by decide +kernel)) ggX7_room_X7_within
set_option maxRecDepth 20000 in
theorem ggX7_room_X7_houseChanged : GoodIn wsX7_room wsX7_houseChanged := goodIn_r _ [9, 10, 11, 12, 13, 14, 15, 16, 17, 18, 19, 20, 21, 22, 23, 24, 25, 26] (by decide +kernel) (by decide +kernel)
set_option maxRecDepth 20000 in
theorem gX7_room_X7_houseChanged : GoodIn wsX7_room (wsV RX7 115 RX7 yX7_houseChanged wsX7_houseChanged) := goodIn_app (goodIn_of _ (by decide +kernel)) ggX7_room_X7_houseChanged
theorem dX7_room_0 : decode cX7_room 0 = .ok (.iload_n 1, 1) := by decide +kernel
theorem dX7_room_1 : decode cX7_room 1 = .ok (.iconst 1, 1) := by decide +kernel
theorem dX7_room_2 : decode cX7_room 2 = .ok (.bipush 8, 2) := by decide +kernel
theorem dX7_room_4 : decode cX7_room 4 = .ok (.invokestatic 85, 3) := by decide +kernel
theorem dX7_room_7 : decode cX7_room 7 = .ok (.ifCond .ne 6, 3) := by decide +kernel
theorem dX7_room_10 : decode cX7_room 10 = .ok (.bipush (-2), 2) := by decide +kernel
theorem dX7_room_12 : decode cX7_room 12 = .ok (.ireturn, 1) := by decide +kernel
theorem dX7_room_13 : decode cX7_room 13 = .ok (.aload_n 0, 1) := by decide +kernel
theorem dX7_room_14 : decode cX7_room 14 = .ok (.getfield 70, 3) := by decide +kernel
theorem dX7_room_17 : decode cX7_room 17 = .ok (.istore_n 2, 1) := by decide +kernel
theorem dX7_room_18 : decode cX7_room 18 = .ok (.aload_n 0, 1) := by decide +kernel
theorem dX7_room_19 : decode cX7_room 19 = .ok (.iload_n 1, 1) := by decide +kernel
theorem dX7_room_20 : decode cX7_room 20 = .ok (.putfield 70, 3) := by decide +kernel
theorem dX7_room_23 : decode cX7_room 23 = .ok (.aload_n 0, 1) := by decide +kernel
theorem dX7_room_24 : decode cX7_room 24 = .ok (.invokevirtual 115, 3) := by decide +kernel
theorem dX7_room_27 : decode cX7_room 27 = .ok (.iload_n 2, 1) := by decide +kernel
theorem dX7_room_28 : decode cX7_room 28 = .ok (.ireturn, 1) := by decide +kernel
set_option maxRecDepth 20000 in
theorem ggX7_event_X2_canBe : GoodIn wsX7_event wsX2_canBe := goodIn_r _ [6, 7, 8, 9, 10, 11, 12] (by decide +kernel) (by decide +kernel)
set_option maxRecDepth 20000 in
theorem gX7_event_X2_canBe : GoodIn wsX7_event (va_wsS RX7 118 yX2_canBe wsX2_canBe) := goodIn_app (goodIn_of _ (by decide +kernel)) ggX7_event_X2_canBe
set_option maxRecDepth 20000 in
theorem ggX7_event_X2_add : GoodIn wsX7_event wsX2_add := goodIn_r _ [16, 17, 18, 19, 20, 42, 43, 44, 45] (by decide +kernel) (by decide +kernel)
set_option maxRecDepth 20000 in
theorem gX7_event_X2_add : GoodIn wsX7_event (wsV RX7 122 RX2 yX2_add wsX2_add) := goodIn_app (goodIn_of _ (by decide +kernel)) ggX7_event_X2_add
set_option maxRecDepth 20000 in
theorem ggX7_event_X7_houseChanged : GoodIn wsX7_event wsX7_houseChanged := goodIn_r _ [24, 25, 26, 27, 28, 29, 30, 31, 32, 33, 34, 35, 36, 37, 38, 39, 40, 41] (by decide +kernel) (by decide +kernel)
set_option maxRecDepth 20000 in
theorem gX7_event_X7_houseChanged : GoodIn wsX7_event (wsV RX7 115 RX7 yX7_houseChanged wsX7_houseChanged) := goodIn_app (goodIn_of _ (by decide +kernel)) ggX7_event_X7_houseChanged
theorem dX7_event_0 : decode cX7_event 0 = .ok (.iload_n 1, 1) := by decide +kernel
theorem dX7_event_1 : decode cX7_event 1 = .ok (.iload_n 2, 1) := by decide +kernel
theorem dX7_event_2 : decode cX7_event 2 = .ok (.iload_n 3, 1) := by decide +kernel
theorem dX7_event_3 : decode cX7_event 3 = .ok (.invokestatic 118, 3) := by decide +kernel
theorem dX7_event_6 : decode cX7_event 6 = .ok (.ifCond .ne 6, 3) := by decide +kernel
theorem dX7_event_9 : decode cX7_event 9 = .ok (.bipush (-2), 2) := by decide +kernel
theorem dX7_event_11 : decode cX7_event 11 = .ok (.ireturn, 1) := by decide +kernel
theorem dX7_event_12 : decode cX7_event 12 = .ok (.aload_n 0, 1) := by decide +kernel
theorem dX7_event_13 : decode cX7_event 13 = .ok (.getfield 29, 3) := by decide +kernel
theorem dX7_event_16 : decode cX7_event 16 = .ok (.getfield 121, 3) := by decide +kernel
theorem dX7_event_19 : decode cX7_event 19 = .ok (.bipush 8, 2) := by decide +kernel
theorem dX7_event_21 : decode cX7_event 21 = .ok (.if_icmp .lt 6, 3) := by decide +kernel
theorem dX7_event_24 : decode cX7_event 24 = .ok (.bipush (-4), 2) := by decide +kernel
theorem dX7_event_26 : decode cX7_event 26 = .ok (.ireturn, 1) := by decide +kernel
theorem dX7_event_27 : decode cX7_event 27 = .ok (.aload_n 0, 1) := by decide +kernel
theorem dX7_event_28 : decode cX7_event 28 = .ok (.getfield 29, 3) := by decide +kernel
theorem dX7_event_31 : decode cX7_event 31 = .ok (.iload_n 1, 1) := by decide +kernel
theorem dX7_event_32 : decode cX7_event 32 = .ok (.iload_n 2, 1) := by decide +kernel
theorem dX7_event_33 : decode cX7_event 33 = .ok (.iload_n 3, 1) := by decide +kernel
theorem dX7_event_34 : decode cX7_event 34 = .ok (.invokevirtual 122, 3) := by decide +kernel
theorem dX7_event_37 : decode cX7_event 37 = .ok (.aload_n 0, 1) := by decide +kernel
theorem dX7_event_38 : decode cX7_event 38 = .ok (.invokevirtual 115, 3) := by decide +kernel
theorem dX7_event_41 : decode cX7_event 41 = .ok (.aload_n 0, 1) := by decide +kernel
theorem dX7_event_42 : decode cX7_event 42 = .ok (.getfield 29, 3) := by decide +kernel
theorem dX7_event_45 : decode cX7_event 45 = .ok (.getfield 121, 3) := by decide +kernel
theorem dX7_event_48 : decode cX7_event 48 = .ok (.ireturn, 1) := by decide +kernel
set_option maxRecDepth 20000 in
theorem ggX7_back_X7_houseChanged : GoodIn wsX7_back wsX7_houseChanged := goodIn_r _ [7, 8, 9, 10, 11, 12, 13, 14, 15, 16, 17, 18, 19, 20, 21, 22, 23, 24] (by decide +kernel) (by decide +kernel)
set_option maxRecDepth 20000 in
theorem gX7_back_X7_houseChanged : GoodIn wsX7_back (wsV RX7 115 RX7 yX7_houseChanged wsX7_houseChanged) := goodIn_app (goodIn_of _ (by decide +kernel)) ggX7_back_X7_houseChanged
theorem dX7_back_0 : decode cX7_back 0 = .ok (.aload_n 0, 1) := by decide +kernel
theorem dX7_back_1 : decode cX7_back 1 = .ok (.getfield 29, 3) := by decide +kernel
theorem dX7_back_4 : decode cX7_back 4 = .ok (.getfield 121, 3) := by decide +kernel
theorem dX7_back_7 : decode cX7_back 7 = .ok (.ifCond .ne 6, 3) := by decide +kernel
theorem dX7_back_10 : decode cX7_back 10 = .ok (.bipush (-3), 2) := by decide +kernel
theorem dX7_back_12 : decode cX7_back 12 = .ok (.ireturn, 1) := by decide +kernel
theorem dX7_back_13 : decode cX7_back 13 = .ok (.aload_n 0, 1) := by decide +kernel
theorem dX7_back_14 : decode cX7_back 14 = .ok (.getfield 29, 3) := by decide +kernel
theorem dX7_back_17 : decode cX7_back 17 = .ok (.dup, 1) := by decide +kernel
theorem dX7_back_18 : decode cX7_back 18 = .ok (.getfield 121, 3) := by decide +kernel
theorem dX7_back_21 : decode cX7_back 21 = .ok (.iconst 1, 1) := by decide +kernel
theorem dX7_back_22 : decode cX7_back 22 = .ok (.isub, 1) := by decide +kernel
theorem dX7_back_23 : decode cX7_back 23 = .ok (.putfield 121, 3) := by decide +kernel
theorem dX7_back_26 : decode cX7_back 26 = .ok (.aload_n 0, 1) := by decide +kernel
theorem dX7_back_27 : decode cX7_back 27 = .ok (.invokevirtual 115, 3) := by decide +kernel
theorem dX7_back_30 : decode cX7_back 30 = .ok (.aload_n 0, 1) := by decide +kernel
theorem dX7_back_31 : decode cX7_back 31 = .ok (.getfield 29, 3) := by decide +kernel
theorem dX7_back_34 : decode cX7_back 34 = .ok (.getfield 121, 3) := by decide +kernel
theorem dX7_back_37 : decode cX7_back 37 = .ok (.ireturn, 1) := by decide +kernel
set_option maxRecDepth 20000 in
theorem ggX7_read_X7_within : GoodIn wsX7_read wsX7_within := goodIn_r _ [8] (by decide +kernel) (by decide +kernel)
set_option maxRecDepth 20000 in
theorem gX7_read_X7_within : GoodIn wsX7_read (va_wsS RX7 85 yX7_within wsX7_within) := goodIn_app (goodIn_of _ (by decide +kernel)) ggX7_read_X7_within
set_option maxRecDepth 20000 in
theorem ggX7_read_X7_found : GoodIn wsX7_read wsX7_found := goodIn_r _ [12, 13, 40, 41, 42, 43, 44, 45, 46, 47, 48, 49, 50, 51, 52, 53, 54] (by decide +kernel) (by decide +kernel)
set_option maxRecDepth 20000 in
theorem gX7_read_X7_found : GoodIn wsX7_read (wsV RX7 129 RX7 yX7_found wsX7_found) := goodIn_app (goodIn_of _ (by decide +kernel)) ggX7_read_X7_found
set_option maxRecDepth 20000 in
theorem ggX7_read_X7_event : GoodIn wsX7_read wsX7_event := goodIn_r _ [17, 18, 19, 20, 21, 22, 23, 6, 7, 8, 24, 25, 5, 26, 27, 28, 29, 30, 31, 32, 33, 34, 35, 36, 37, 38, 39, 40, 41, 42, 43, 44, 45, 46, 47, 48, 49, 50, 51, 52, 53, 54, 59, 60, 61, 62] (by decide +kernel) (by decide +kernel)
set_option maxRecDepth 20000 in
theorem gX7_read_X7_event : GoodIn wsX7_read (wsV RX7 137 RX7 yX7_event wsX7_event) := goodIn_app (goodIn_of _ (by decide +kernel)) ggX7_read_X7_event
theorem dX7_read_0 : decode cX7_read 0 = .ok (.iload_n 1, 1) := by decide +kernel
theorem dX7_read_1 : decode cX7_read 1 = .ok (.iconst 0, 1) := by decide +kernel
theorem dX7_read_2 : decode cX7_read 2 = .ok (.iconst 3, 1) := by decide +kernel
theorem dX7_read_3 : decode cX7_read 3 = .ok (.invokestatic 85, 3) := by decide +kernel
theorem dX7_read_6 : decode cX7_read 6 = .ok (.ifCond .ne 6, 3) := by decide +kernel
theorem dX7_read_9 : decode cX7_read 9 = .ok (.bipush (-2), 2) := by decide +kernel
theorem dX7_read_11 : decode cX7_read 11 = .ok (.ireturn, 1) := by decide +kernel
theorem dX7_read_12 : decode cX7_read 12 = .ok (.aload_n 0, 1) := by decide +kernel
theorem dX7_read_13 : decode cX7_read 13 = .ok (.getfield 59, 3) := by decide +kernel
theorem dX7_read_16 : decode cX7_read 16 = .ok (.iload_n 1, 1) := by decide +kernel
theorem dX7_read_17 : decode cX7_read 17 = .ok (.aaload, 1) := by decide +kernel
theorem dX7_read_18 : decode cX7_read 18 = .ok (.getfield 126, 3) := by decide +kernel
theorem dX7_read_21 : decode cX7_read 21 = .ok (.ifCond .eq 9, 3) := by decide +kernel
theorem dX7_read_24 : decode cX7_read 24 = .ok (.aload_n 0, 1) := by decide +kernel
theorem dX7_read_25 : decode cX7_read 25 = .ok (.iconst 1, 1) := by decide +kernel
theorem dX7_read_26 : decode cX7_read 26 = .ok (.invokevirtual 129, 3) := by decide +kernel
theorem dX7_read_29 : decode cX7_read 29 = .ok (.ireturn, 1) := by decide +kernel
theorem dX7_read_30 : decode cX7_read 30 = .ok (.aload_n 0, 1) := by decide +kernel
theorem dX7_read_31 : decode cX7_read 31 = .ok (.getfield 59, 3) := by decide +kernel
theorem dX7_read_34 : decode cX7_read 34 = .ok (.iload_n 1, 1) := by decide +kernel
theorem dX7_read_35 : decode cX7_read 35 = .ok (.aaload, 1) := by decide +kernel
theorem dX7_read_36 : decode cX7_read 36 = .ok (.getfield 133, 3) := by decide +kernel
theorem dX7_read_39 : decode cX7_read 39 = .ok (.astore_n 2, 1) := by decide +kernel
theorem dX7_read_40 : decode cX7_read 40 = .ok (.iconst 0, 1) := by decide +kernel
theorem dX7_read_41 : decode cX7_read 41 = .ok (.istore_n 3, 1) := by decide +kernel
theorem dX7_read_42 : decode cX7_read 42 = .ok (.iconst 0, 1) := by decide +kernel
theorem dX7_read_43 : decode cX7_read 43 = .ok (.istore 4, 2) := by decide +kernel
theorem dX7_read_45 : decode cX7_read 45 = .ok (.iload 4, 2) := by decide +kernel
theorem dX7_read_47 : decode cX7_read 47 = .ok (.iconst 2, 1) := by decide +kernel
theorem dX7_read_48 : decode cX7_read 48 = .ok (.iadd, 1) := by decide +kernel
theorem dX7_read_49 : decode cX7_read 49 = .ok (.aload_n 0, 1) := by decide +kernel
theorem dX7_read_50 : decode cX7_read 50 = .ok (.getfield 59, 3) := by decide +kernel
theorem dX7_read_53 : decode cX7_read 53 = .ok (.iload_n 1, 1) := by decide +kernel
theorem dX7_read_54 : decode cX7_read 54 = .ok (.aaload, 1) := by decide +kernel
theorem dX7_read_55 : decode cX7_read 55 = .ok (.getfield 136, 3) := by decide +kernel
theorem dX7_read_58 : decode cX7_read 58 = .ok (.if_icmp .ge 38, 3) := by decide +kernel
theorem dX7_read_61 : decode cX7_read 61 = .ok (.aload_n 0, 1) := by decide +kernel
theorem dX7_read_62 : decode cX7_read 62 = .ok (.aload_n 2, 1) := by decide +kernel
theorem dX7_read_63 : decode cX7_read 63 = .ok (.iload 4, 2) := by decide +kernel
theorem dX7_read_65 : decode cX7_read 65 = .ok (.iaload, 1) := by decide +kernel
theorem dX7_read_66 : decode cX7_read 66 = .ok (.aload_n 2, 1) := by decide +kernel
theorem dX7_read_67 : decode cX7_read 67 = .ok (.iload 4, 2) := by decide +kernel
theorem dX7_read_69 : decode cX7_read 69 = .ok (.iconst 1, 1) := by decide +kernel
theorem dX7_read_70 : decode cX7_read 70 = .ok (.iadd, 1) := by decide +kernel
theorem dX7_read_71 : decode cX7_read 71 = .ok (.iaload, 1) := by decide +kernel
theorem dX7_read_72 : decode cX7_read 72 = .ok (.aload_n 2, 1) := by decide +kernel
theorem dX7_read_73 : decode cX7_read 73 = .ok (.iload 4, 2) := by decide +kernel
theorem dX7_read_75 : decode cX7_read 75 = .ok (.iconst 2, 1) := by decide +kernel
theorem dX7_read_76 : decode cX7_read 76 = .ok (.iadd, 1) := by decide +kernel
theorem dX7_read_77 : decode cX7_read 77 = .ok (.iaload, 1) := by decide +kernel
theorem dX7_read_78 : decode cX7_read 78 = .ok (.invokevirtual 137, 3) := by decide +kernel
theorem dX7_read_81 : decode cX7_read 81 = .ok (.ifCond .ge 6, 3) := by decide +kernel
theorem dX7_read_84 : decode cX7_read 84 = .ok (.goto 12, 3) := by decide +kernel
theorem dX7_read_87 : decode cX7_read 87 = .ok (.iinc 3 1, 3) := by decide +kernel
theorem dX7_read_90 : decode cX7_read 90 = .ok (.iinc 4 3, 3) := by decide +kernel
theorem dX7_read_93 : decode cX7_read 93 = .ok (.goto (-48), 3) := by decide +kernel
theorem dX7_read_96 : decode cX7_read 96 = .ok (.iload_n 3, 1) := by decide +kernel
theorem dX7_read_97 : decode cX7_read 97 = .ok (.ireturn, 1) := by decide +kernel
set_option maxRecDepth 20000 in
theorem ggX7_at_X7_isMonth : GoodIn wsX7_at wsX7_isMonth := goodIn_r _ [5, 6, 7, 4, 8] (by decide +kernel) (by decide +kernel)
set_option maxRecDepth 20000 in
theorem gX7_at_X7_isMonth : GoodIn wsX7_at (va_wsS RX7 141 yX7_isMonth wsX7_isMonth) := goodIn_app (goodIn_of _ (by decide +kernel)) ggX7_at_X7_isMonth
set_option maxRecDepth 20000 in
theorem ggX7_at_X7_isTenant : GoodIn wsX7_at wsX7_isTenant := goodIn_r _ [12, 13, 14, 125, 126, 127, 128, 129, 130, 131, 132, 133, 134, 135, 136, 137, 138, 139, 140, 141, 142, 143] (by decide +kernel) (by decide +kernel)
set_option maxRecDepth 20000 in
theorem gX7_at_X7_isTenant : GoodIn wsX7_at (wsV RX7 102 RX7 yX7_isTenant wsX7_isTenant) := goodIn_app (goodIn_of _ (by decide +kernel)) ggX7_at_X7_isTenant
set_option maxRecDepth 20000 in
theorem ggX7_at_X7_within : GoodIn wsX7_at wsX7_within := goodIn_r _ [8] (by decide +kernel) (by decide +kernel)
set_option maxRecDepth 20000 in
theorem gX7_at_X7_within : GoodIn wsX7_at (va_wsS RX7 85 yX7_within wsX7_within) := goodIn_app (goodIn_of _ (by decide +kernel)) ggX7_at_X7_within
set_option maxRecDepth 20000 in
theorem ggX7_at_X7_courseTold : GoodIn wsX7_at wsX7_courseTold := goodIn_r _ [18, 19, 20, 13, 21, 22, 23, 24, 25, 26, 27, 28, 29, 30, 31, 32, 33, 34, 35, 36, 37, 38, 39, 40, 41, 42, 43, 44, 45, 46, 47, 48, 49, 50, 51, 52, 53, 54, 55, 56, 57, 58, 59, 60, 61, 62, 63, 64, 65, 66, 67, 68, 69, 70, 71, 72, 73, 74, 75, 76, 77, 78, 79, 80, 81, 82, 83, 84, 85, 86, 87, 88, 89, 90, 91, 92, 93, 94, 95, 96, 97, 98, 99, 100, 101, 102, 103, 125, 126, 127, 128, 129, 130, 131, 132, 133, 134, 135, 136, 137, 138, 139, 144, 145, 146, 147, 148, 149, 150, 151, 152, 153, 154, 155, 140, 141, 142, 143, 156, 157, 158, 159] (by decide +kernel) (by decide +kernel)
set_option maxRecDepth 20000 in
theorem gX7_at_X7_courseTold : GoodIn wsX7_at (wsV RX7 145 RX7 yX7_courseTold wsX7_courseTold) := goodIn_app (goodIn_of _ (by decide +kernel)) ggX7_at_X7_courseTold
set_option maxRecDepth 20000 in
theorem ggX7_at_X1_floorAt : GoodIn wsX7_at wsX1_floorAt := goodIn_r _ [107, 102, 144, 145, 146, 147, 148, 149, 150, 151, 152, 153, 154, 155] (by decide +kernel) (by decide +kernel)
set_option maxRecDepth 20000 in
theorem gX7_at_X1_floorAt : GoodIn wsX7_at (wsV RX7 149 RX1 yX1_floorAt wsX1_floorAt) := goodIn_app (goodIn_of _ (by decide +kernel)) ggX7_at_X1_floorAt
set_option maxRecDepth 20000 in
theorem ggX7_at_X1_leftAt : GoodIn wsX7_at wsX1_leftAt := goodIn_r _ [111, 103, 144, 145, 146, 147, 148, 149, 150, 151, 152, 153, 154, 155] (by decide +kernel) (by decide +kernel)
set_option maxRecDepth 20000 in
theorem gX7_at_X1_leftAt : GoodIn wsX7_at (wsV RX7 153 RX1 yX1_leftAt wsX1_leftAt) := goodIn_app (goodIn_of _ (by decide +kernel)) ggX7_at_X1_leftAt
set_option maxRecDepth 20000 in
theorem ggX7_at_X1_owes : GoodIn wsX7_at wsX1_owes := goodIn_r _ [115, 116, 117, 58, 118, 119, 105, 106, 26, 107, 102, 120, 109, 110, 111, 103, 144, 145, 146, 147, 148, 149, 150, 151, 152, 153, 154, 155] (by decide +kernel) (by decide +kernel)
set_option maxRecDepth 20000 in
theorem gX7_at_X1_owes : GoodIn wsX7_at (wsV RX7 156 RX1 yX1_owes wsX1_owes) := goodIn_app (goodIn_of _ (by decide +kernel)) ggX7_at_X1_owes
set_option maxRecDepth 20000 in
theorem ggX7_at_X1_fellIn : GoodIn wsX7_at wsX1_fellIn := goodIn_r _ [124, 93, 144, 145, 146, 147, 148, 149, 150, 151, 152, 153, 154, 155] (by decide +kernel) (by decide +kernel)
set_option maxRecDepth 20000 in
theorem gX7_at_X1_fellIn : GoodIn wsX7_at (wsV RX7 160 RX1 yX1_fellIn wsX1_fellIn) := goodIn_app (goodIn_of _ (by decide +kernel)) ggX7_at_X1_fellIn
theorem dX7_at_0 : decode cX7_at 0 = .ok (.iload_n 1, 1) := by decide +kernel
theorem dX7_at_1 : decode cX7_at 1 = .ok (.invokestatic 141, 3) := by decide +kernel
theorem dX7_at_4 : decode cX7_at 4 = .ok (.ifCond .eq 20, 3) := by decide +kernel
theorem dX7_at_7 : decode cX7_at 7 = .ok (.aload_n 0, 1) := by decide +kernel
theorem dX7_at_8 : decode cX7_at 8 = .ok (.iload_n 2, 1) := by decide +kernel
theorem dX7_at_9 : decode cX7_at 9 = .ok (.invokevirtual 102, 3) := by decide +kernel
theorem dX7_at_12 : decode cX7_at 12 = .ok (.ifCond .eq 12, 3) := by decide +kernel
theorem dX7_at_15 : decode cX7_at 15 = .ok (.iload_n 3, 1) := by decide +kernel
theorem dX7_at_16 : decode cX7_at 16 = .ok (.iconst 0, 1) := by decide +kernel
theorem dX7_at_17 : decode cX7_at 17 = .ok (.iconst 3, 1) := by decide +kernel
theorem dX7_at_18 : decode cX7_at 18 = .ok (.invokestatic 85, 3) := by decide +kernel
theorem dX7_at_21 : decode cX7_at 21 = .ok (.ifCond .ne 6, 3) := by decide +kernel
theorem dX7_at_24 : decode cX7_at 24 = .ok (.ldc 144, 2) := by decide +kernel
theorem dX7_at_26 : decode cX7_at 26 = .ok (.ireturn, 1) := by decide +kernel
theorem dX7_at_27 : decode cX7_at 27 = .ok (.aload_n 0, 1) := by decide +kernel
theorem dX7_at_28 : decode cX7_at 28 = .ok (.invokevirtual 145, 3) := by decide +kernel
theorem dX7_at_31 : decode cX7_at 31 = .ok (.astore 4, 2) := by decide +kernel
theorem dX7_at_33 : decode cX7_at 33 = .ok (.iload_n 3, 1) := by decide +kernel
theorem dX7_at_34 : decode cX7_at 34 = .ok (.tableswitch 58 0 2 #[26, 34, 42], 26) := by decide +kernel
theorem dX7_at_60 : decode cX7_at 60 = .ok (.aload 4, 2) := by decide +kernel
theorem dX7_at_62 : decode cX7_at 62 = .ok (.iload_n 1, 1) := by decide +kernel
theorem dX7_at_63 : decode cX7_at 63 = .ok (.iload_n 2, 1) := by decide +kernel
theorem dX7_at_64 : decode cX7_at 64 = .ok (.invokevirtual 149, 3) := by decide +kernel
theorem dX7_at_67 : decode cX7_at 67 = .ok (.ireturn, 1) := by decide +kernel
theorem dX7_at_68 : decode cX7_at 68 = .ok (.aload 4, 2) := by decide +kernel
theorem dX7_at_70 : decode cX7_at 70 = .ok (.iload_n 1, 1) := by decide +kernel
theorem dX7_at_71 : decode cX7_at 71 = .ok (.iload_n 2, 1) := by decide +kernel
theorem dX7_at_72 : decode cX7_at 72 = .ok (.invokevirtual 153, 3) := by decide +kernel
theorem dX7_at_75 : decode cX7_at 75 = .ok (.ireturn, 1) := by decide +kernel
theorem dX7_at_76 : decode cX7_at 76 = .ok (.aload 4, 2) := by decide +kernel
theorem dX7_at_78 : decode cX7_at 78 = .ok (.iload_n 1, 1) := by decide +kernel
theorem dX7_at_79 : decode cX7_at 79 = .ok (.iload_n 2, 1) := by decide +kernel
theorem dX7_at_80 : decode cX7_at 80 = .ok (.invokevirtual 156, 3) := by decide +kernel
theorem dX7_at_83 : decode cX7_at 83 = .ok (.ifCond .eq 7, 3) := by decide +kernel
theorem dX7_at_86 : decode cX7_at 86 = .ok (.iconst 1, 1) := by decide +kernel
theorem dX7_at_87 : decode cX7_at 87 = .ok (.goto 4, 3) := by decide +kernel
theorem dX7_at_90 : decode cX7_at 90 = .ok (.iconst 0, 1) := by decide +kernel
theorem dX7_at_91 : decode cX7_at 91 = .ok (.ireturn, 1) := by decide +kernel
theorem dX7_at_92 : decode cX7_at 92 = .ok (.aload 4, 2) := by decide +kernel
theorem dX7_at_94 : decode cX7_at 94 = .ok (.iload_n 1, 1) := by decide +kernel
theorem dX7_at_95 : decode cX7_at 95 = .ok (.iload_n 2, 1) := by decide +kernel
theorem dX7_at_96 : decode cX7_at 96 = .ok (.invokevirtual 160, 3) := by decide +kernel
theorem dX7_at_99 : decode cX7_at 99 = .ok (.ifCond .eq 7, 3) := by decide +kernel
theorem dX7_at_102 : decode cX7_at 102 = .ok (.iconst 1, 1) := by decide +kernel
theorem dX7_at_103 : decode cX7_at 103 = .ok (.goto 4, 3) := by decide +kernel
theorem dX7_at_106 : decode cX7_at 106 = .ok (.iconst 0, 1) := by decide +kernel
theorem dX7_at_107 : decode cX7_at 107 = .ok (.ireturn, 1) := by decide +kernel
set_option maxRecDepth 20000 in
theorem ggX7_live_X7_isMonth : GoodIn wsX7_live wsX7_isMonth := goodIn_r _ [4, 5, 6, 3, 7] (by decide +kernel) (by decide +kernel)
set_option maxRecDepth 20000 in
theorem gX7_live_X7_isMonth : GoodIn wsX7_live (va_wsS RX7 141 yX7_isMonth wsX7_isMonth) := goodIn_app (goodIn_of _ (by decide +kernel)) ggX7_live_X7_isMonth
set_option maxRecDepth 20000 in
theorem ggX7_live_X7_within : GoodIn wsX7_live wsX7_within := goodIn_r _ [7] (by decide +kernel) (by decide +kernel)
set_option maxRecDepth 20000 in
theorem gX7_live_X7_within : GoodIn wsX7_live (va_wsS RX7 85 yX7_within wsX7_within) := goodIn_app (goodIn_of _ (by decide +kernel)) ggX7_live_X7_within
set_option maxRecDepth 20000 in
theorem ggX7_live_X7_courseTold : GoodIn wsX7_live wsX7_courseTold := goodIn_r _ [11, 12, 13, 14, 15, 16, 17, 18, 19, 20, 21, 22, 23, 24, 25, 26, 27, 28, 29, 30, 31, 32, 33, 34, 35, 36, 37, 38, 39, 40, 41, 42, 43, 44, 45, 46, 47, 48, 49, 50, 51, 52, 53, 54, 55, 56, 57, 58, 59, 60, 61, 62, 63, 64, 65, 66, 67, 68, 69, 70, 71, 72, 73, 74, 75, 76, 77, 78, 79, 80, 81, 82, 83, 84, 85, 86, 87, 88, 89, 90, 91, 92, 93, 94, 95, 96, 97, 106, 107, 108, 109, 110, 111, 112, 113, 114, 115, 116, 117, 118, 119, 120, 121, 122, 123, 124, 125, 126, 127, 128, 129, 130, 131, 132, 133, 134, 135, 136, 137, 138, 139, 140] (by decide +kernel) (by decide +kernel)
set_option maxRecDepth 20000 in
theorem gX7_live_X7_courseTold : GoodIn wsX7_live (wsV RX7 145 RX7 yX7_courseTold wsX7_courseTold) := goodIn_app (goodIn_of _ (by decide +kernel)) ggX7_live_X7_courseTold
set_option maxRecDepth 20000 in
theorem ggX7_live_X1_whoLives : GoodIn wsX7_live wsX1_whoLives := goodIn_r _ [101, 22, 102, 103, 104, 20, 105, 96, 121, 122, 123, 124, 125, 126, 127, 128, 129, 130, 131, 132] (by decide +kernel) (by decide +kernel)
set_option maxRecDepth 20000 in
theorem gX7_live_X1_whoLives : GoodIn wsX7_live (wsV RX7 163 RX1 yX1_whoLives wsX1_whoLives) := goodIn_app (goodIn_of _ (by decide +kernel)) ggX7_live_X1_whoLives
theorem dX7_live_0 : decode cX7_live 0 = .ok (.iload_n 1, 1) := by decide +kernel
theorem dX7_live_1 : decode cX7_live 1 = .ok (.invokestatic 141, 3) := by decide +kernel
theorem dX7_live_4 : decode cX7_live 4 = .ok (.ifCond .eq 13, 3) := by decide +kernel
theorem dX7_live_7 : decode cX7_live 7 = .ok (.iload_n 2, 1) := by decide +kernel
theorem dX7_live_8 : decode cX7_live 8 = .ok (.iconst 0, 1) := by decide +kernel
theorem dX7_live_9 : decode cX7_live 9 = .ok (.bipush 12, 2) := by decide +kernel
theorem dX7_live_11 : decode cX7_live 11 = .ok (.invokestatic 85, 3) := by decide +kernel
theorem dX7_live_14 : decode cX7_live 14 = .ok (.ifCond .ne 6, 3) := by decide +kernel
theorem dX7_live_17 : decode cX7_live 17 = .ok (.bipush (-2), 2) := by decide +kernel
theorem dX7_live_19 : decode cX7_live 19 = .ok (.ireturn, 1) := by decide +kernel
theorem dX7_live_20 : decode cX7_live 20 = .ok (.aload_n 0, 1) := by decide +kernel
theorem dX7_live_21 : decode cX7_live 21 = .ok (.invokevirtual 145, 3) := by decide +kernel
theorem dX7_live_24 : decode cX7_live 24 = .ok (.iload_n 1, 1) := by decide +kernel
theorem dX7_live_25 : decode cX7_live 25 = .ok (.iload_n 2, 1) := by decide +kernel
theorem dX7_live_26 : decode cX7_live 26 = .ok (.invokevirtual 163, 3) := by decide +kernel
theorem dX7_live_29 : decode cX7_live 29 = .ok (.ireturn, 1) := by decide +kernel
set_option maxRecDepth 20000 in
theorem ggX7_lift_X7_isMonth : GoodIn wsX7_lift wsX7_isMonth := goodIn_r _ [4, 5, 6, 3, 7] (by decide +kernel) (by decide +kernel)
set_option maxRecDepth 20000 in
theorem gX7_lift_X7_isMonth : GoodIn wsX7_lift (va_wsS RX7 141 yX7_isMonth wsX7_isMonth) := goodIn_app (goodIn_of _ (by decide +kernel)) ggX7_lift_X7_isMonth
set_option maxRecDepth 20000 in
theorem ggX7_lift_X7_courseTold : GoodIn wsX7_lift wsX7_courseTold := goodIn_r _ [11, 12, 13, 14, 15, 16, 17, 18, 19, 20, 21, 22, 23, 24, 25, 26, 27, 28, 29, 30, 31, 32, 33, 34, 35, 36, 37, 38, 39, 40, 41, 42, 43, 44, 45, 46, 47, 48, 49, 50, 51, 52, 53, 54, 55, 56, 57, 58, 59, 60, 61, 62, 63, 64, 65, 66, 67, 68, 69, 70, 71, 72, 73, 74, 75, 76, 77, 78, 79, 80, 81, 82, 83, 84, 85, 86, 87, 88, 89, 90, 91, 92, 93, 94, 95, 96, 97, 117, 118, 119, 120, 121, 122, 123, 124, 125, 126, 127, 128, 129, 130, 131, 132, 133, 134, 135, 136, 137, 138, 139, 140, 141, 142, 143, 144, 145, 146, 147, 148, 149, 150, 151] (by decide +kernel) (by decide +kernel)
set_option maxRecDepth 20000 in
theorem gX7_lift_X7_courseTold : GoodIn wsX7_lift (wsV RX7 145 RX7 yX7_courseTold wsX7_courseTold) := goodIn_app (goodIn_of _ (by decide +kernel)) ggX7_lift_X7_courseTold
set_option maxRecDepth 20000 in
theorem ggX7_lift_X1_liftStops : GoodIn wsX7_lift wsX1_liftStops := goodIn_r _ [101, 22, 102, 103, 104, 20, 105, 96, 106, 107, 108, 109, 110, 111, 52, 112, 113, 114, 115, 116, 97, 132, 133, 134, 135, 136, 137, 138, 139, 140, 141, 142, 143] (by decide +kernel) (by decide +kernel)
set_option maxRecDepth 20000 in
theorem gX7_lift_X1_liftStops : GoodIn wsX7_lift (wsV RX7 166 RX1 yX1_liftStops wsX1_liftStops) := goodIn_app (goodIn_of _ (by decide +kernel)) ggX7_lift_X1_liftStops
theorem dX7_lift_0 : decode cX7_lift 0 = .ok (.iload_n 1, 1) := by decide +kernel
theorem dX7_lift_1 : decode cX7_lift 1 = .ok (.invokestatic 141, 3) := by decide +kernel
theorem dX7_lift_4 : decode cX7_lift 4 = .ok (.ifCond .ne 6, 3) := by decide +kernel
theorem dX7_lift_7 : decode cX7_lift 7 = .ok (.bipush (-2), 2) := by decide +kernel
theorem dX7_lift_9 : decode cX7_lift 9 = .ok (.ireturn, 1) := by decide +kernel
theorem dX7_lift_10 : decode cX7_lift 10 = .ok (.aload_n 0, 1) := by decide +kernel
theorem dX7_lift_11 : decode cX7_lift 11 = .ok (.invokevirtual 145, 3) := by decide +kernel
theorem dX7_lift_14 : decode cX7_lift 14 = .ok (.iload_n 1, 1) := by decide +kernel
theorem dX7_lift_15 : decode cX7_lift 15 = .ok (.invokevirtual 166, 3) := by decide +kernel
theorem dX7_lift_18 : decode cX7_lift 18 = .ok (.ireturn, 1) := by decide +kernel
set_option maxRecDepth 20000 in
theorem ggX7_ends_X7_isTenant : GoodIn wsX7_ends wsX7_isTenant := goodIn_r _ [9, 10, 11, 127, 128, 129, 130, 131, 132, 133, 134, 135, 136, 137, 138, 139, 140, 141, 142, 143, 144, 145] (by decide +kernel) (by decide +kernel)
set_option maxRecDepth 20000 in
theorem gX7_ends_X7_isTenant : GoodIn wsX7_ends (wsV RX7 102 RX7 yX7_isTenant wsX7_isTenant) := goodIn_app (goodIn_of _ (by decide +kernel)) ggX7_ends_X7_isTenant
set_option maxRecDepth 20000 in
theorem ggX7_ends_X7_within : GoodIn wsX7_ends wsX7_within := goodIn_r _ [14] (by decide +kernel) (by decide +kernel)
set_option maxRecDepth 20000 in
theorem gX7_ends_X7_within : GoodIn wsX7_ends (va_wsS RX7 85 yX7_within wsX7_within) := goodIn_app (goodIn_of _ (by decide +kernel)) ggX7_ends_X7_within
set_option maxRecDepth 20000 in
theorem ggX7_ends_X7_courseTold : GoodIn wsX7_ends wsX7_courseTold := goodIn_r _ [18, 19, 20, 10, 21, 22, 23, 24, 25, 26, 27, 28, 29, 30, 31, 32, 33, 34, 35, 36, 37, 38, 39, 40, 41, 42, 43, 44, 45, 46, 47, 48, 49, 50, 51, 52, 53, 54, 55, 56, 57, 58, 59, 60, 61, 62, 63, 64, 65, 66, 67, 68, 69, 70, 71, 72, 73, 74, 75, 76, 77, 78, 79, 80, 81, 82, 83, 84, 85, 86, 87, 88, 89, 90, 91, 92, 93, 94, 95, 96, 97, 98, 99, 100, 101, 102, 103, 127, 128, 129, 130, 131, 132, 133, 134, 135, 136, 137, 138, 139, 140, 141, 115, 116, 117, 118, 119, 120, 121, 122, 123, 124, 125, 126, 142, 143, 144, 145, 146, 147, 148, 149] (by decide +kernel) (by decide +kernel)
set_option maxRecDepth 20000 in
theorem gX7_ends_X7_courseTold : GoodIn wsX7_ends (wsV RX7 145 RX7 yX7_courseTold wsX7_courseTold) := goodIn_app (goodIn_of _ (by decide +kernel)) ggX7_ends_X7_courseTold
set_option maxRecDepth 20000 in
theorem ggX7_ends_X1_highestOf : GoodIn wsX7_ends wsX1_highestOf := goodIn_r _ [107, 108, 109, 58, 110, 111, 112, 113, 26, 114, 102, 115, 116, 117, 118, 119, 120, 121, 122, 123, 124, 125, 126] (by decide +kernel) (by decide +kernel)
set_option maxRecDepth 20000 in
theorem gX7_ends_X1_highestOf : GoodIn wsX7_ends (wsV RX7 178 RX1 yX1_highestOf wsX1_highestOf) := goodIn_app (goodIn_of _ (by decide +kernel)) ggX7_ends_X1_highestOf
theorem dX7_ends_0 : decode cX7_ends 0 = .ok (.aload_n 0, 1) := by decide +kernel
theorem dX7_ends_1 : decode cX7_ends 1 = .ok (.iload_n 1, 1) := by decide +kernel
theorem dX7_ends_2 : decode cX7_ends 2 = .ok (.invokevirtual 102, 3) := by decide +kernel
theorem dX7_ends_5 : decode cX7_ends 5 = .ok (.ifCond .eq 12, 3) := by decide +kernel
theorem dX7_ends_8 : decode cX7_ends 8 = .ok (.iload_n 2, 1) := by decide +kernel
theorem dX7_ends_9 : decode cX7_ends 9 = .ok (.iconst 0, 1) := by decide +kernel
theorem dX7_ends_10 : decode cX7_ends 10 = .ok (.iconst 3, 1) := by decide +kernel
theorem dX7_ends_11 : decode cX7_ends 11 = .ok (.invokestatic 85, 3) := by decide +kernel
theorem dX7_ends_14 : decode cX7_ends 14 = .ok (.ifCond .ne 6, 3) := by decide +kernel
theorem dX7_ends_17 : decode cX7_ends 17 = .ok (.ldc 144, 2) := by decide +kernel
theorem dX7_ends_19 : decode cX7_ends 19 = .ok (.ireturn, 1) := by decide +kernel
theorem dX7_ends_20 : decode cX7_ends 20 = .ok (.aload_n 0, 1) := by decide +kernel
theorem dX7_ends_21 : decode cX7_ends 21 = .ok (.invokevirtual 145, 3) := by decide +kernel
theorem dX7_ends_24 : decode cX7_ends 24 = .ok (.astore_n 3, 1) := by decide +kernel
theorem dX7_ends_25 : decode cX7_ends 25 = .ok (.iload_n 2, 1) := by decide +kernel
theorem dX7_ends_26 : decode cX7_ends 26 = .ok (.tableswitch 47 0 2 #[26, 33, 40], 26) := by decide +kernel
theorem dX7_ends_52 : decode cX7_ends 52 = .ok (.aload_n 3, 1) := by decide +kernel
theorem dX7_ends_53 : decode cX7_ends 53 = .ok (.getfield 169, 3) := by decide +kernel
theorem dX7_ends_56 : decode cX7_ends 56 = .ok (.iload_n 1, 1) := by decide +kernel
theorem dX7_ends_57 : decode cX7_ends 57 = .ok (.iaload, 1) := by decide +kernel
theorem dX7_ends_58 : decode cX7_ends 58 = .ok (.ireturn, 1) := by decide +kernel
theorem dX7_ends_59 : decode cX7_ends 59 = .ok (.aload_n 3, 1) := by decide +kernel
theorem dX7_ends_60 : decode cX7_ends 60 = .ok (.getfield 172, 3) := by decide +kernel
theorem dX7_ends_63 : decode cX7_ends 63 = .ok (.iload_n 1, 1) := by decide +kernel
theorem dX7_ends_64 : decode cX7_ends 64 = .ok (.iaload, 1) := by decide +kernel
theorem dX7_ends_65 : decode cX7_ends 65 = .ok (.ireturn, 1) := by decide +kernel
theorem dX7_ends_66 : decode cX7_ends 66 = .ok (.aload_n 3, 1) := by decide +kernel
theorem dX7_ends_67 : decode cX7_ends 67 = .ok (.getfield 175, 3) := by decide +kernel
theorem dX7_ends_70 : decode cX7_ends 70 = .ok (.iload_n 1, 1) := by decide +kernel
theorem dX7_ends_71 : decode cX7_ends 71 = .ok (.iaload, 1) := by decide +kernel
theorem dX7_ends_72 : decode cX7_ends 72 = .ok (.ireturn, 1) := by decide +kernel
theorem dX7_ends_73 : decode cX7_ends 73 = .ok (.aload_n 3, 1) := by decide +kernel
theorem dX7_ends_74 : decode cX7_ends 74 = .ok (.iload_n 1, 1) := by decide +kernel
theorem dX7_ends_75 : decode cX7_ends 75 = .ok (.invokevirtual 178, 3) := by decide +kernel
theorem dX7_ends_78 : decode cX7_ends 78 = .ok (.ireturn, 1) := by decide +kernel
set_option maxRecDepth 20000 in
theorem ggX7_sum_X7_within : GoodIn wsX7_sum wsX7_within := goodIn_r _ [4] (by decide +kernel) (by decide +kernel)
set_option maxRecDepth 20000 in
theorem gX7_sum_X7_within : GoodIn wsX7_sum (va_wsS RX7 85 yX7_within wsX7_within) := goodIn_app (goodIn_of _ (by decide +kernel)) ggX7_sum_X7_within
set_option maxRecDepth 20000 in
theorem ggX7_sum_X7_courseTold : GoodIn wsX7_sum wsX7_courseTold := goodIn_r _ [8, 9, 10, 11, 12, 13, 14, 15, 16, 17, 18, 19, 20, 21, 22, 23, 24, 25, 26, 27, 28, 29, 30, 31, 32, 33, 34, 35, 36, 37, 38, 39, 40, 41, 42, 43, 44, 45, 46, 47, 48, 49, 50, 51, 52, 53, 54, 55, 56, 57, 58, 59, 60, 61, 62, 63, 64, 65, 66, 67, 68, 69, 70, 71, 72, 73, 74, 75, 76, 77, 78, 79, 80, 81, 82, 83, 84, 85, 86, 87, 88, 89, 90, 91, 92, 93, 94, 137, 138, 139, 140, 141, 142, 143, 144, 145, 146, 147, 148, 149, 150, 151, 152, 153, 154, 155, 156, 157, 158, 159, 160, 161, 162, 163, 164, 165, 166, 167, 168, 169, 170, 171] (by decide +kernel) (by decide +kernel)
set_option maxRecDepth 20000 in
theorem gX7_sum_X7_courseTold : GoodIn wsX7_sum (wsV RX7 145 RX7 yX7_courseTold wsX7_courseTold) := goodIn_app (goodIn_of _ (by decide +kernel)) ggX7_sum_X7_courseTold
set_option maxRecDepth 20000 in
theorem ggX7_sum_X1_settledInAll : GoodIn wsX7_sum wsX1_settledInAll := goodIn_r _ [98, 99, 100, 101, 17, 102, 19, 29, 103, 104, 105, 106, 107, 108, 109, 152, 153, 154, 155, 156, 157, 158, 159, 160, 161, 162, 163] (by decide +kernel) (by decide +kernel)
set_option maxRecDepth 20000 in
theorem gX7_sum_X1_settledInAll : GoodIn wsX7_sum (wsV RX7 181 RX1 yX1_settledInAll wsX1_settledInAll) := goodIn_app (goodIn_of _ (by decide +kernel)) ggX7_sum_X1_settledInAll
set_option maxRecDepth 20000 in
theorem ggX7_sum_X1_fallsInAll : GoodIn wsX7_sum wsX1_fallsInAll := goodIn_r _ [113, 19, 30, 152, 153, 154, 155, 156, 157, 158, 159, 160, 161, 162, 163] (by decide +kernel) (by decide +kernel)
set_option maxRecDepth 20000 in
theorem gX7_sum_X1_fallsInAll : GoodIn wsX7_sum (wsV RX7 184 RX1 yX1_fallsInAll wsX1_fallsInAll) := goodIn_app (goodIn_of _ (by decide +kernel)) ggX7_sum_X1_fallsInAll
set_option maxRecDepth 20000 in
theorem ggX7_sum_X1_passedInAll : GoodIn wsX7_sum wsX1_passedInAll := goodIn_r _ [117, 19, 31, 152, 153, 154, 155, 156, 157, 158, 159, 160, 161, 162, 163] (by decide +kernel) (by decide +kernel)
set_option maxRecDepth 20000 in
theorem gX7_sum_X1_passedInAll : GoodIn wsX7_sum (wsV RX7 187 RX1 yX1_passedInAll wsX1_passedInAll) := goodIn_app (goodIn_of _ (by decide +kernel)) ggX7_sum_X1_passedInAll
set_option maxRecDepth 20000 in
theorem ggX7_sum_X1_owedInAll : GoodIn wsX7_sum wsX1_owedInAll := goodIn_r _ [121, 19, 122, 123, 124, 17, 125, 126, 127, 49, 128, 129, 130, 131, 132, 93, 133, 134, 135, 136, 94, 152, 153, 154, 155, 156, 157, 158, 159, 160, 161, 162, 163] (by decide +kernel) (by decide +kernel)
set_option maxRecDepth 20000 in
theorem gX7_sum_X1_owedInAll : GoodIn wsX7_sum (wsV RX7 190 RX1 yX1_owedInAll wsX1_owedInAll) := goodIn_app (goodIn_of _ (by decide +kernel)) ggX7_sum_X1_owedInAll
theorem dX7_sum_0 : decode cX7_sum 0 = .ok (.iload_n 1, 1) := by decide +kernel
theorem dX7_sum_1 : decode cX7_sum 1 = .ok (.iconst 0, 1) := by decide +kernel
theorem dX7_sum_2 : decode cX7_sum 2 = .ok (.iconst 3, 1) := by decide +kernel
theorem dX7_sum_3 : decode cX7_sum 3 = .ok (.invokestatic 85, 3) := by decide +kernel
theorem dX7_sum_6 : decode cX7_sum 6 = .ok (.ifCond .ne 6, 3) := by decide +kernel
theorem dX7_sum_9 : decode cX7_sum 9 = .ok (.bipush (-2), 2) := by decide +kernel
theorem dX7_sum_11 : decode cX7_sum 11 = .ok (.ireturn, 1) := by decide +kernel
theorem dX7_sum_12 : decode cX7_sum 12 = .ok (.aload_n 0, 1) := by decide +kernel
theorem dX7_sum_13 : decode cX7_sum 13 = .ok (.invokevirtual 145, 3) := by decide +kernel
theorem dX7_sum_16 : decode cX7_sum 16 = .ok (.astore_n 2, 1) := by decide +kernel
theorem dX7_sum_17 : decode cX7_sum 17 = .ok (.iload_n 1, 1) := by decide +kernel
theorem dX7_sum_18 : decode cX7_sum 18 = .ok (.tableswitch 41 0 2 #[26, 31, 36], 26) := by decide +kernel
theorem dX7_sum_44 : decode cX7_sum 44 = .ok (.aload_n 2, 1) := by decide +kernel
theorem dX7_sum_45 : decode cX7_sum 45 = .ok (.invokevirtual 181, 3) := by decide +kernel
theorem dX7_sum_48 : decode cX7_sum 48 = .ok (.ireturn, 1) := by decide +kernel
theorem dX7_sum_49 : decode cX7_sum 49 = .ok (.aload_n 2, 1) := by decide +kernel
theorem dX7_sum_50 : decode cX7_sum 50 = .ok (.invokevirtual 184, 3) := by decide +kernel
theorem dX7_sum_53 : decode cX7_sum 53 = .ok (.ireturn, 1) := by decide +kernel
theorem dX7_sum_54 : decode cX7_sum 54 = .ok (.aload_n 2, 1) := by decide +kernel
theorem dX7_sum_55 : decode cX7_sum 55 = .ok (.invokevirtual 187, 3) := by decide +kernel
theorem dX7_sum_58 : decode cX7_sum 58 = .ok (.ireturn, 1) := by decide +kernel
theorem dX7_sum_59 : decode cX7_sum 59 = .ok (.aload_n 2, 1) := by decide +kernel
theorem dX7_sum_60 : decode cX7_sum 60 = .ok (.invokevirtual 190, 3) := by decide +kernel
theorem dX7_sum_63 : decode cX7_sum 63 = .ok (.ireturn, 1) := by decide +kernel
set_option maxRecDepth 20000 in
theorem ggX7_top_X7_courseTold : GoodIn wsX7_top wsX7_courseTold := goodIn_r _ [5, 6, 7, 8, 9, 10, 11, 12, 13, 14, 15, 16, 17, 18, 19, 20, 21, 22, 23, 24, 25, 26, 27, 28, 29, 30, 31, 32, 33, 34, 35, 36, 37, 38, 39, 40, 41, 42, 43, 44, 45, 46, 47, 48, 49, 50, 51, 52, 53, 54, 55, 56, 57, 58, 59, 60, 61, 62, 63, 64, 65, 66, 67, 68, 69, 70, 71, 72, 73, 74, 75, 76, 77, 78, 79, 80, 81, 82, 83, 84, 85, 86, 87, 88, 89, 90, 91, 100, 101, 102, 103, 104, 105, 106, 107, 108, 109, 110, 111, 112, 113, 114, 115, 116, 117, 118, 119, 120, 121, 122, 123, 124, 125, 126, 127, 128, 129, 130, 131, 132, 133, 134] (by decide +kernel) (by decide +kernel)
set_option maxRecDepth 20000 in
theorem gX7_top_X7_courseTold : GoodIn wsX7_top (wsV RX7 145 RX7 yX7_courseTold wsX7_courseTold) := goodIn_app (goodIn_of _ (by decide +kernel)) ggX7_top_X7_courseTold
set_option maxRecDepth 20000 in
theorem ggX7_top_X1_topTenant : GoodIn wsX7_top wsX1_topTenant := goodIn_r _ [95, 16, 96, 97, 98, 14, 99, 90, 115, 116, 117, 118, 119, 120, 121, 122, 123, 124, 125, 126] (by decide +kernel) (by decide +kernel)
set_option maxRecDepth 20000 in
theorem gX7_top_X1_topTenant : GoodIn wsX7_top (wsV RX7 193 RX1 yX1_topTenant wsX1_topTenant) := goodIn_app (goodIn_of _ (by decide +kernel)) ggX7_top_X1_topTenant
theorem dX7_top_0 : decode cX7_top 0 = .ok (.aload_n 0, 1) := by decide +kernel
theorem dX7_top_1 : decode cX7_top 1 = .ok (.invokevirtual 145, 3) := by decide +kernel
theorem dX7_top_4 : decode cX7_top 4 = .ok (.invokevirtual 193, 3) := by decide +kernel
theorem dX7_top_7 : decode cX7_top 7 = .ok (.ireturn, 1) := by decide +kernel
set_option maxRecDepth 20000 in
theorem ggX7_heard_X7_courseTold : GoodIn wsX7_heard wsX7_courseTold := goodIn_r _ [5, 6, 7, 8, 9, 10, 11, 12, 13, 14, 15, 16, 17, 18, 19, 20, 21, 22, 23, 24, 25, 26, 27, 28, 29, 30, 31, 32, 33, 34, 35, 36, 37, 38, 39, 40, 41, 42, 43, 44, 45, 46, 47, 48, 49, 50, 51, 52, 53, 54, 55, 56, 57, 58, 59, 60, 61, 62, 63, 64, 65, 66, 67, 68, 69, 70, 71, 72, 73, 74, 75, 76, 77, 78, 79, 80, 81, 82, 83, 84, 85, 86, 87, 88, 89, 90, 91, 100, 101, 102, 103, 104, 105, 106, 107, 108, 109, 110, 111, 112, 113, 114, 115, 116, 117, 118, 119, 120, 121, 122, 123, 124, 125, 126, 127, 128, 129, 130, 131, 132, 133, 134] (by decide +kernel) (by decide +kernel)
set_option maxRecDepth 20000 in
theorem gX7_heard_X7_courseTold : GoodIn wsX7_heard (wsV RX7 145 RX7 yX7_courseTold wsX7_courseTold) := goodIn_app (goodIn_of _ (by decide +kernel)) ggX7_heard_X7_courseTold
set_option maxRecDepth 20000 in
theorem ggX7_heard_X1_heardFloors : GoodIn wsX7_heard wsX1_heardFloors := goodIn_r _ [95, 16, 96, 97, 98, 14, 99, 90, 115, 116, 117, 118, 119, 120, 121, 122, 123, 124, 125, 126] (by decide +kernel) (by decide +kernel)
set_option maxRecDepth 20000 in
theorem gX7_heard_X1_heardFloors : GoodIn wsX7_heard (wsV RX7 196 RX1 yX1_heardFloors wsX1_heardFloors) := goodIn_app (goodIn_of _ (by decide +kernel)) ggX7_heard_X1_heardFloors
theorem dX7_heard_0 : decode cX7_heard 0 = .ok (.aload_n 0, 1) := by decide +kernel
theorem dX7_heard_1 : decode cX7_heard 1 = .ok (.invokevirtual 145, 3) := by decide +kernel
theorem dX7_heard_4 : decode cX7_heard 4 = .ok (.invokevirtual 196, 3) := by decide +kernel
theorem dX7_heard_7 : decode cX7_heard 7 = .ok (.ireturn, 1) := by decide +kernel
set_option maxRecDepth 20000 in
theorem ggX7_earn_X7_isTenant : GoodIn wsX7_earn wsX7_isTenant := goodIn_r _ [6, 7, 8, 146, 147, 148, 149, 150, 151, 152, 153, 154, 155, 156, 157, 158, 159, 160, 161, 162, 163, 164] (by decide +kernel) (by decide +kernel)
set_option maxRecDepth 20000 in
theorem gX7_earn_X7_isTenant : GoodIn wsX7_earn (wsV RX7 102 RX7 yX7_isTenant wsX7_isTenant) := goodIn_app (goodIn_of _ (by decide +kernel)) ggX7_earn_X7_isTenant
set_option maxRecDepth 20000 in
theorem ggX7_earn_X7_within : GoodIn wsX7_earn wsX7_within := goodIn_r _ [11] (by decide +kernel) (by decide +kernel)
set_option maxRecDepth 20000 in
theorem gX7_earn_X7_within : GoodIn wsX7_earn (va_wsS RX7 85 yX7_within wsX7_within) := goodIn_app (goodIn_of _ (by decide +kernel)) ggX7_earn_X7_within
set_option maxRecDepth 20000 in
theorem ggX7_earn_X7_planWage : GoodIn wsX7_earn wsX7_planWage := goodIn_r _ [15, 1, 16, 7, 17, 18, 19, 20, 21, 22, 23, 24, 25, 26, 27, 28, 29, 30, 31, 32, 33, 34, 35, 36, 37, 38, 39, 40, 41, 42, 43, 44, 45, 46, 47, 48, 49, 50, 51, 52, 53, 54, 55, 56, 57, 58, 59, 60, 61, 62, 63, 64, 65, 66, 67, 68, 69, 70, 71, 72, 73, 74, 75, 76, 77, 78, 79, 80, 81, 82, 83, 84, 85, 86, 87, 88, 89, 90, 91, 92, 93, 94, 95, 96, 97, 98, 99, 100, 101, 102, 103, 104, 105, 106, 107, 108, 109, 110, 111, 112, 113, 114, 115, 116, 117, 118, 119, 120, 121, 122, 123, 124, 125, 126, 127, 128, 129, 130, 131, 132, 133, 134, 135, 136, 137, 138, 139, 140, 141, 146, 147, 148, 149, 150, 151, 152, 153, 154, 155, 156, 157, 158, 159, 160, 161, 162, 163, 164, 165, 166, 167, 168, 169, 170, 171, 172, 173, 174, 175, 176, 177, 178, 179, 180, 181, 182, 183] (by decide +kernel) (by decide +kernel)
set_option maxRecDepth 20000 in
theorem gX7_earn_X7_planWage : GoodIn wsX7_earn (wsV RX7 199 RX7 yX7_planWage wsX7_planWage) := goodIn_app (goodIn_of _ (by decide +kernel)) ggX7_earn_X7_planWage
set_option maxRecDepth 20000 in
theorem ggX7_earn_X0_part : GoodIn wsX7_earn wsX0_part := goodIn_r _ [145, 26, 140, 141, 165, 166, 167] (by decide +kernel) (by decide +kernel)
set_option maxRecDepth 20000 in
theorem gX7_earn_X0_part : GoodIn wsX7_earn (wsV RX7 203 RX0 yX0_part wsX0_part) := goodIn_app (goodIn_of _ (by decide +kernel)) ggX7_earn_X0_part
theorem dX7_earn_0 : decode cX7_earn 0 = .ok (.aload_n 0, 1) := by decide +kernel
theorem dX7_earn_1 : decode cX7_earn 1 = .ok (.iload_n 1, 1) := by decide +kernel
theorem dX7_earn_2 : decode cX7_earn 2 = .ok (.invokevirtual 102, 3) := by decide +kernel
theorem dX7_earn_5 : decode cX7_earn 5 = .ok (.ifCond .eq 12, 3) := by decide +kernel
theorem dX7_earn_8 : decode cX7_earn 8 = .ok (.iload_n 2, 1) := by decide +kernel
theorem dX7_earn_9 : decode cX7_earn 9 = .ok (.iconst 0, 1) := by decide +kernel
theorem dX7_earn_10 : decode cX7_earn 10 = .ok (.iconst 2, 1) := by decide +kernel
theorem dX7_earn_11 : decode cX7_earn 11 = .ok (.invokestatic 85, 3) := by decide +kernel
theorem dX7_earn_14 : decode cX7_earn 14 = .ok (.ifCond .ne 6, 3) := by decide +kernel
theorem dX7_earn_17 : decode cX7_earn 17 = .ok (.bipush (-2), 2) := by decide +kernel
theorem dX7_earn_19 : decode cX7_earn 19 = .ok (.ireturn, 1) := by decide +kernel
theorem dX7_earn_20 : decode cX7_earn 20 = .ok (.aload_n 0, 1) := by decide +kernel
theorem dX7_earn_21 : decode cX7_earn 21 = .ok (.iload_n 1, 1) := by decide +kernel
theorem dX7_earn_22 : decode cX7_earn 22 = .ok (.invokevirtual 199, 3) := by decide +kernel
theorem dX7_earn_25 : decode cX7_earn 25 = .ok (.aload_n 0, 1) := by decide +kernel
theorem dX7_earn_26 : decode cX7_earn 26 = .ok (.getfield 53, 3) := by decide +kernel
theorem dX7_earn_29 : decode cX7_earn 29 = .ok (.iload_n 2, 1) := by decide +kernel
theorem dX7_earn_30 : decode cX7_earn 30 = .ok (.invokevirtual 203, 3) := by decide +kernel
theorem dX7_earn_33 : decode cX7_earn 33 = .ok (.ireturn, 1) := by decide +kernel
set_option maxRecDepth 20000 in
theorem ggX7_be_X7_isTenant : GoodIn wsX7_be wsX7_isTenant := goodIn_r _ [6, 7, 8, 146, 147, 148, 149, 150, 151, 152, 153, 154, 155, 156, 157, 158, 159, 160, 161, 162, 163, 164] (by decide +kernel) (by decide +kernel)
set_option maxRecDepth 20000 in
theorem gX7_be_X7_isTenant : GoodIn wsX7_be (wsV RX7 102 RX7 yX7_isTenant wsX7_isTenant) := goodIn_app (goodIn_of _ (by decide +kernel)) ggX7_be_X7_isTenant
set_option maxRecDepth 20000 in
theorem ggX7_be_X7_within : GoodIn wsX7_be wsX7_within := goodIn_r _ [11] (by decide +kernel) (by decide +kernel)
set_option maxRecDepth 20000 in
theorem gX7_be_X7_within : GoodIn wsX7_be (va_wsS RX7 85 yX7_within wsX7_within) := goodIn_app (goodIn_of _ (by decide +kernel)) ggX7_be_X7_within
set_option maxRecDepth 20000 in
theorem ggX7_be_X7_planSort : GoodIn wsX7_be wsX7_planSort := goodIn_r _ [15, 1, 16, 7, 17, 18, 19, 20, 21, 22, 23, 24, 25, 26, 27, 28, 29, 30, 31, 32, 33, 34, 35, 36, 37, 38, 39, 40, 41, 42, 43, 44, 45, 46, 47, 48, 49, 50, 51, 52, 53, 54, 55, 56, 57, 58, 59, 60, 61, 62, 63, 64, 65, 66, 67, 68, 69, 70, 71, 72, 73, 74, 75, 76, 77, 78, 79, 80, 81, 82, 83, 84, 85, 86, 87, 88, 89, 90, 91, 92, 93, 94, 95, 96, 97, 98, 99, 100, 101, 102, 103, 104, 105, 106, 107, 108, 109, 110, 111, 112, 113, 114, 115, 116, 117, 118, 119, 120, 121, 122, 123, 124, 125, 126, 127, 128, 129, 130, 131, 132, 133, 134, 135, 136, 137, 138, 139, 140, 141, 146, 147, 148, 149, 150, 151, 152, 153, 154, 155, 156, 157, 158, 159, 160, 161, 162, 163, 164, 165, 166, 167, 168, 169, 170, 171, 172, 173, 174, 175, 176, 177, 178, 179, 180, 181, 182, 183] (by decide +kernel) (by decide +kernel)
set_option maxRecDepth 20000 in
theorem gX7_be_X7_planSort : GoodIn wsX7_be (wsV RX7 206 RX7 yX7_planSort wsX7_planSort) := goodIn_app (goodIn_of _ (by decide +kernel)) ggX7_be_X7_planSort
set_option maxRecDepth 20000 in
theorem ggX7_be_X0_part : GoodIn wsX7_be wsX0_part := goodIn_r _ [145, 26, 140, 141, 165, 166, 167] (by decide +kernel) (by decide +kernel)
set_option maxRecDepth 20000 in
theorem gX7_be_X0_part : GoodIn wsX7_be (wsV RX7 203 RX0 yX0_part wsX0_part) := goodIn_app (goodIn_of _ (by decide +kernel)) ggX7_be_X0_part
theorem dX7_be_0 : decode cX7_be 0 = .ok (.aload_n 0, 1) := by decide +kernel
theorem dX7_be_1 : decode cX7_be 1 = .ok (.iload_n 1, 1) := by decide +kernel
theorem dX7_be_2 : decode cX7_be 2 = .ok (.invokevirtual 102, 3) := by decide +kernel
theorem dX7_be_5 : decode cX7_be 5 = .ok (.ifCond .eq 12, 3) := by decide +kernel
theorem dX7_be_8 : decode cX7_be 8 = .ok (.iload_n 2, 1) := by decide +kernel
theorem dX7_be_9 : decode cX7_be 9 = .ok (.iconst 0, 1) := by decide +kernel
theorem dX7_be_10 : decode cX7_be 10 = .ok (.iconst 2, 1) := by decide +kernel
theorem dX7_be_11 : decode cX7_be 11 = .ok (.invokestatic 85, 3) := by decide +kernel
theorem dX7_be_14 : decode cX7_be 14 = .ok (.ifCond .ne 6, 3) := by decide +kernel
theorem dX7_be_17 : decode cX7_be 17 = .ok (.bipush (-2), 2) := by decide +kernel
theorem dX7_be_19 : decode cX7_be 19 = .ok (.ireturn, 1) := by decide +kernel
theorem dX7_be_20 : decode cX7_be 20 = .ok (.aload_n 0, 1) := by decide +kernel
theorem dX7_be_21 : decode cX7_be 21 = .ok (.iload_n 1, 1) := by decide +kernel
theorem dX7_be_22 : decode cX7_be 22 = .ok (.invokevirtual 206, 3) := by decide +kernel
theorem dX7_be_25 : decode cX7_be 25 = .ok (.aload_n 0, 1) := by decide +kernel
theorem dX7_be_26 : decode cX7_be 26 = .ok (.getfield 53, 3) := by decide +kernel
theorem dX7_be_29 : decode cX7_be 29 = .ok (.iload_n 2, 1) := by decide +kernel
theorem dX7_be_30 : decode cX7_be 30 = .ok (.invokevirtual 203, 3) := by decide +kernel
theorem dX7_be_33 : decode cX7_be 33 = .ok (.ireturn, 1) := by decide +kernel
set_option maxRecDepth 20000 in
theorem ggX7_widen_X7_within : GoodIn wsX7_widen wsX7_within := goodIn_r _ [5] (by decide +kernel) (by decide +kernel)
set_option maxRecDepth 20000 in
theorem gX7_widen_X7_within : GoodIn wsX7_widen (va_wsS RX7 85 yX7_within wsX7_within) := goodIn_app (goodIn_of _ (by decide +kernel)) ggX7_widen_X7_within
set_option maxRecDepth 20000 in
theorem ggX7_widen_X7_planRoom : GoodIn wsX7_widen wsX7_planRoom := goodIn_r _ [9, 1, 10, 11, 12, 13, 14, 15, 16, 17, 18, 19, 20, 21, 22, 23, 24, 25, 26, 27, 28, 29, 30, 31, 32, 33, 34, 35, 36, 37, 38, 39, 40, 41, 42, 43, 44, 45, 46, 47, 48, 49, 50, 51, 52, 53, 54, 55, 56, 57, 58, 59, 60, 61, 62, 63, 64, 65, 66, 67, 68, 69, 70, 71, 72, 73, 74, 75, 76, 77, 78, 79, 80, 81, 82, 83, 84, 85, 86, 87, 88, 89, 90, 91, 92, 93, 94, 95, 96, 97, 98, 99, 100, 101, 102, 103, 104, 105, 106, 107, 108, 109, 110, 111, 112, 113, 114, 115, 116, 117, 118, 119, 120, 121, 122, 123, 124, 129, 130, 131, 132, 133, 134, 135, 136, 137, 138, 139, 140, 141, 142, 143, 144, 145, 146, 147, 148, 149, 150, 151, 152, 153, 154, 155, 156, 157, 158, 159, 160, 161, 162, 163, 164, 165, 166] (by decide +kernel) (by decide +kernel)
set_option maxRecDepth 20000 in
theorem gX7_widen_X7_planRoom : GoodIn wsX7_widen (wsV RX7 209 RX7 yX7_planRoom wsX7_planRoom) := goodIn_app (goodIn_of _ (by decide +kernel)) ggX7_widen_X7_planRoom
set_option maxRecDepth 20000 in
theorem ggX7_widen_X0_part : GoodIn wsX7_widen wsX0_part := goodIn_r _ [128, 18, 123, 124, 144, 145, 146] (by decide +kernel) (by decide +kernel)
set_option maxRecDepth 20000 in
theorem gX7_widen_X0_part : GoodIn wsX7_widen (wsV RX7 203 RX0 yX0_part wsX0_part) := goodIn_app (goodIn_of _ (by decide +kernel)) ggX7_widen_X0_part
theorem dX7_widen_0 : decode cX7_widen 0 = .ok (.iload_n 1, 1) := by decide +kernel
theorem dX7_widen_1 : decode cX7_widen 1 = .ok (.iconst 0, 1) := by decide +kernel
theorem dX7_widen_2 : decode cX7_widen 2 = .ok (.iconst 2, 1) := by decide +kernel
theorem dX7_widen_3 : decode cX7_widen 3 = .ok (.invokestatic 85, 3) := by decide +kernel
theorem dX7_widen_6 : decode cX7_widen 6 = .ok (.ifCond .ne 6, 3) := by decide +kernel
theorem dX7_widen_9 : decode cX7_widen 9 = .ok (.bipush (-2), 2) := by decide +kernel
theorem dX7_widen_11 : decode cX7_widen 11 = .ok (.ireturn, 1) := by decide +kernel
theorem dX7_widen_12 : decode cX7_widen 12 = .ok (.aload_n 0, 1) := by decide +kernel
theorem dX7_widen_13 : decode cX7_widen 13 = .ok (.invokevirtual 209, 3) := by decide +kernel
theorem dX7_widen_16 : decode cX7_widen 16 = .ok (.aload_n 0, 1) := by decide +kernel
theorem dX7_widen_17 : decode cX7_widen 17 = .ok (.getfield 53, 3) := by decide +kernel
theorem dX7_widen_20 : decode cX7_widen 20 = .ok (.iload_n 1, 1) := by decide +kernel
theorem dX7_widen_21 : decode cX7_widen 21 = .ok (.invokevirtual 203, 3) := by decide +kernel
theorem dX7_widen_24 : decode cX7_widen 24 = .ok (.ireturn, 1) := by decide +kernel
set_option maxRecDepth 20000 in
theorem ggX7_spare_X7_within : GoodIn wsX7_spare wsX7_within := goodIn_r _ [4] (by decide +kernel) (by decide +kernel)
set_option maxRecDepth 20000 in
theorem gX7_spare_X7_within : GoodIn wsX7_spare (va_wsS RX7 85 yX7_within wsX7_within) := goodIn_app (goodIn_of _ (by decide +kernel)) ggX7_spare_X7_within
set_option maxRecDepth 20000 in
theorem ggX7_spare_X7_sparedEvents : GoodIn wsX7_spare wsX7_sparedEvents := goodIn_r _ [8, 9, 10, 11, 12, 13, 3, 14, 15, 16, 17, 18, 19, 20, 21, 22, 23, 24, 25, 26, 27, 28, 29, 30, 31, 32, 33, 34, 35, 36, 37, 38, 39, 40, 41, 42, 43, 44, 45, 46, 47, 48, 49, 50, 51, 52, 53, 54, 55, 56, 57, 58, 59, 60, 61, 62, 63, 64, 65, 66, 67, 68, 69, 70, 71, 72, 73, 74, 75, 76, 77, 78, 79, 80, 81, 82, 83, 84, 85, 86, 87, 88, 89, 90, 91, 92, 93, 94, 95, 96, 97, 98, 99, 100, 101, 102, 103, 104, 105, 116, 117, 118, 119, 120, 121, 122, 123, 124, 125, 126, 127, 128, 129, 130, 131, 132, 133, 134, 135, 136, 137, 138, 139, 140, 141, 142, 143, 144, 145, 146, 147, 148, 149, 150] (by decide +kernel) (by decide +kernel)
set_option maxRecDepth 20000 in
theorem gX7_spare_X7_sparedEvents : GoodIn wsX7_spare (wsV RX7 212 RX7 yX7_sparedEvents wsX7_sparedEvents) := goodIn_app (goodIn_of _ (by decide +kernel)) ggX7_spare_X7_sparedEvents
set_option maxRecDepth 20000 in
theorem ggX7_spare_J6_bitCount_0f7a4 : GoodIn wsX7_spare wsJ6_bitCount_0f7a4 := goodIn_r _ [109, 110, 111, 112] (by decide +kernel) (by decide +kernel)
set_option maxRecDepth 20000 in
theorem gX7_spare_J6_bitCount_0f7a4 : GoodIn wsX7_spare (va_wsS RX7 215 yJ6_bitCount_0f7a4 wsJ6_bitCount_0f7a4) := goodIn_app (goodIn_of _ (by decide +kernel)) ggX7_spare_J6_bitCount_0f7a4
set_option maxRecDepth 20000 in
theorem ggX7_spare_X7_bitPlace : GoodIn wsX7_spare wsX7_bitPlace := goodIn_r _ [115] (by decide +kernel) (by decide +kernel)
set_option maxRecDepth 20000 in
theorem gX7_spare_X7_bitPlace : GoodIn wsX7_spare (va_wsS RX7 220 yX7_bitPlace wsX7_bitPlace) := goodIn_app (goodIn_of _ (by decide +kernel)) ggX7_spare_X7_bitPlace
theorem dX7_spare_0 : decode cX7_spare 0 = .ok (.iload_n 1, 1) := by decide +kernel
theorem dX7_spare_1 : decode cX7_spare 1 = .ok (.iconst (-1), 1) := by decide +kernel
theorem dX7_spare_2 : decode cX7_spare 2 = .ok (.iconst 1, 1) := by decide +kernel
theorem dX7_spare_3 : decode cX7_spare 3 = .ok (.invokestatic 85, 3) := by decide +kernel
theorem dX7_spare_6 : decode cX7_spare 6 = .ok (.ifCond .ne 6, 3) := by decide +kernel
theorem dX7_spare_9 : decode cX7_spare 9 = .ok (.bipush (-2), 2) := by decide +kernel
theorem dX7_spare_11 : decode cX7_spare 11 = .ok (.ireturn, 1) := by decide +kernel
theorem dX7_spare_12 : decode cX7_spare 12 = .ok (.aload_n 0, 1) := by decide +kernel
theorem dX7_spare_13 : decode cX7_spare 13 = .ok (.invokevirtual 212, 3) := by decide +kernel
theorem dX7_spare_16 : decode cX7_spare 16 = .ok (.istore_n 2, 1) := by decide +kernel
theorem dX7_spare_17 : decode cX7_spare 17 = .ok (.iload_n 2, 1) := by decide +kernel
theorem dX7_spare_18 : decode cX7_spare 18 = .ok (.ifCond .ge 5, 3) := by decide +kernel
theorem dX7_spare_21 : decode cX7_spare 21 = .ok (.iconst (-1), 1) := by decide +kernel
theorem dX7_spare_22 : decode cX7_spare 22 = .ok (.ireturn, 1) := by decide +kernel
theorem dX7_spare_23 : decode cX7_spare 23 = .ok (.iload_n 1, 1) := by decide +kernel
theorem dX7_spare_24 : decode cX7_spare 24 = .ok (.iconst (-1), 1) := by decide +kernel
theorem dX7_spare_25 : decode cX7_spare 25 = .ok (.if_icmp .ne 10, 3) := by decide +kernel
theorem dX7_spare_28 : decode cX7_spare 28 = .ok (.iload_n 2, 1) := by decide +kernel
theorem dX7_spare_29 : decode cX7_spare 29 = .ok (.invokestatic 215, 3) := by decide +kernel
theorem dX7_spare_32 : decode cX7_spare 32 = .ok (.goto 8, 3) := by decide +kernel
theorem dX7_spare_35 : decode cX7_spare 35 = .ok (.iload_n 2, 1) := by decide +kernel
theorem dX7_spare_36 : decode cX7_spare 36 = .ok (.iload_n 1, 1) := by decide +kernel
theorem dX7_spare_37 : decode cX7_spare 37 = .ok (.invokestatic 220, 3) := by decide +kernel
theorem dX7_spare_40 : decode cX7_spare 40 = .ok (.ireturn, 1) := by decide +kernel
set_option maxRecDepth 20000 in
theorem ggX7_seen_X7_isMonth : GoodIn wsX7_seen wsX7_isMonth := goodIn_r _ [6, 7, 8, 5, 9] (by decide +kernel) (by decide +kernel)
set_option maxRecDepth 20000 in
theorem gX7_seen_X7_isMonth : GoodIn wsX7_seen (va_wsS RX7 141 yX7_isMonth wsX7_isMonth) := goodIn_app (goodIn_of _ (by decide +kernel)) ggX7_seen_X7_isMonth
set_option maxRecDepth 20000 in
theorem ggX7_seen_X7_within : GoodIn wsX7_seen wsX7_within := goodIn_r _ [9] (by decide +kernel) (by decide +kernel)
set_option maxRecDepth 20000 in
theorem gX7_seen_X7_within : GoodIn wsX7_seen (va_wsS RX7 85 yX7_within wsX7_within) := goodIn_app (goodIn_of _ (by decide +kernel)) ggX7_seen_X7_within
set_option maxRecDepth 20000 in
theorem ggX7_seen_X3_add : GoodIn wsX7_seen wsX3_add := goodIn_r _ [14, 15, 16, 17, 18, 34, 35, 36, 37] (by decide +kernel) (by decide +kernel)
set_option maxRecDepth 20000 in
theorem gX7_seen_X3_add : GoodIn wsX7_seen (wsV RX7 224 RX3 yX3_add wsX3_add) := goodIn_app (goodIn_of _ (by decide +kernel)) ggX7_seen_X3_add
theorem dX7_seen_0 : decode cX7_seen 0 = .ok (.iload_n 1, 1) := by decide +kernel
theorem dX7_seen_1 : decode cX7_seen 1 = .ok (.invokestatic 141, 3) := by decide +kernel
theorem dX7_seen_4 : decode cX7_seen 4 = .ok (.ifCond .eq 23, 3) := by decide +kernel
theorem dX7_seen_7 : decode cX7_seen 7 = .ok (.iload_n 2, 1) := by decide +kernel
theorem dX7_seen_8 : decode cX7_seen 8 = .ok (.iconst 0, 1) := by decide +kernel
theorem dX7_seen_9 : decode cX7_seen 9 = .ok (.bipush 7, 2) := by decide +kernel
theorem dX7_seen_11 : decode cX7_seen 11 = .ok (.invokestatic 85, 3) := by decide +kernel
theorem dX7_seen_14 : decode cX7_seen 14 = .ok (.ifCond .eq 13, 3) := by decide +kernel
theorem dX7_seen_17 : decode cX7_seen 17 = .ok (.iload_n 3, 1) := by decide +kernel
theorem dX7_seen_18 : decode cX7_seen 18 = .ok (.iconst (-1), 1) := by decide +kernel
theorem dX7_seen_19 : decode cX7_seen 19 = .ok (.bipush 12, 2) := by decide +kernel
theorem dX7_seen_21 : decode cX7_seen 21 = .ok (.invokestatic 85, 3) := by decide +kernel
theorem dX7_seen_24 : decode cX7_seen 24 = .ok (.ifCond .ne 6, 3) := by decide +kernel
theorem dX7_seen_27 : decode cX7_seen 27 = .ok (.bipush (-2), 2) := by decide +kernel
theorem dX7_seen_29 : decode cX7_seen 29 = .ok (.ireturn, 1) := by decide +kernel
theorem dX7_seen_30 : decode cX7_seen 30 = .ok (.aload_n 0, 1) := by decide +kernel
theorem dX7_seen_31 : decode cX7_seen 31 = .ok (.getfield 36, 3) := by decide +kernel
theorem dX7_seen_34 : decode cX7_seen 34 = .ok (.getfield 223, 3) := by decide +kernel
theorem dX7_seen_37 : decode cX7_seen 37 = .ok (.bipush 8, 2) := by decide +kernel
theorem dX7_seen_39 : decode cX7_seen 39 = .ok (.if_icmp .lt 6, 3) := by decide +kernel
theorem dX7_seen_42 : decode cX7_seen 42 = .ok (.bipush (-4), 2) := by decide +kernel
theorem dX7_seen_44 : decode cX7_seen 44 = .ok (.ireturn, 1) := by decide +kernel
theorem dX7_seen_45 : decode cX7_seen 45 = .ok (.aload_n 0, 1) := by decide +kernel
theorem dX7_seen_46 : decode cX7_seen 46 = .ok (.getfield 36, 3) := by decide +kernel
theorem dX7_seen_49 : decode cX7_seen 49 = .ok (.iload_n 1, 1) := by decide +kernel
theorem dX7_seen_50 : decode cX7_seen 50 = .ok (.iload_n 2, 1) := by decide +kernel
theorem dX7_seen_51 : decode cX7_seen 51 = .ok (.iload_n 3, 1) := by decide +kernel
theorem dX7_seen_52 : decode cX7_seen 52 = .ok (.invokevirtual 224, 3) := by decide +kernel
theorem dX7_seen_55 : decode cX7_seen 55 = .ok (.aload_n 0, 1) := by decide +kernel
theorem dX7_seen_56 : decode cX7_seen 56 = .ok (.getfield 36, 3) := by decide +kernel
theorem dX7_seen_59 : decode cX7_seen 59 = .ok (.getfield 223, 3) := by decide +kernel
theorem dX7_seen_62 : decode cX7_seen 62 = .ok (.ireturn, 1) := by decide +kernel
theorem dX7_forget_0 : decode cX7_forget 0 = .ok (.aload_n 0, 1) := by decide +kernel
theorem dX7_forget_1 : decode cX7_forget 1 = .ok (.getfield 36, 3) := by decide +kernel
theorem dX7_forget_4 : decode cX7_forget 4 = .ok (.getfield 223, 3) := by decide +kernel
theorem dX7_forget_7 : decode cX7_forget 7 = .ok (.istore_n 1, 1) := by decide +kernel
theorem dX7_forget_8 : decode cX7_forget 8 = .ok (.aload_n 0, 1) := by decide +kernel
theorem dX7_forget_9 : decode cX7_forget 9 = .ok (.getfield 36, 3) := by decide +kernel
theorem dX7_forget_12 : decode cX7_forget 12 = .ok (.iconst 0, 1) := by decide +kernel
theorem dX7_forget_13 : decode cX7_forget 13 = .ok (.putfield 223, 3) := by decide +kernel
theorem dX7_forget_16 : decode cX7_forget 16 = .ok (.iload_n 1, 1) := by decide +kernel
theorem dX7_forget_17 : decode cX7_forget 17 = .ok (.ireturn, 1) := by decide +kernel
set_option maxRecDepth 20000 in
theorem ggX7_never_X1_run : GoodIn wsX7_never wsX1_run := goodIn_r _ [11, 12, 13, 14, 15, 16, 17, 18, 19, 10, 20, 21, 22, 23, 24, 25, 26, 27, 28, 29, 30, 31, 32, 33, 34, 35, 36, 37, 38, 39, 40, 41, 42, 43, 44, 45, 46, 47, 48, 49, 50, 51, 52, 53, 54, 55, 56, 57, 58, 59, 60, 61, 62, 63, 64, 65, 66, 67, 68, 69, 70, 71, 72, 73, 74, 75, 76, 77, 78, 79, 80, 81, 82, 83, 84, 85, 86, 87, 121, 122, 123, 124, 125, 126, 127, 128, 129, 130, 131, 132, 133, 134, 135, 136, 117, 118, 119, 120] (by decide +kernel) (by decide +kernel)
set_option maxRecDepth 20000 in
theorem gX7_never_X1_run : GoodIn wsX7_never (wsV RX7 225 RX1 yX1_run wsX1_run) := goodIn_app (goodIn_of _ (by decide +kernel)) ggX7_never_X1_run
set_option maxRecDepth 20000 in
theorem ggX7_never_X3_comesOut : GoodIn wsX7_never wsX3_comesOut := goodIn_r _ [92, 93, 94, 95, 96, 97, 98, 99, 100, 10, 101, 86, 137, 138, 139, 140, 121, 122, 123, 124, 125, 126, 127, 128, 129, 130, 131, 132] (by decide +kernel) (by decide +kernel)
set_option maxRecDepth 20000 in
theorem gX7_never_X3_comesOut : GoodIn wsX7_never (wsV RX7 229 RX3 yX3_comesOut wsX3_comesOut) := goodIn_app (goodIn_of _ (by decide +kernel)) ggX7_never_X3_comesOut
theorem dX7_never_0 : decode cX7_never 0 = .ok (.iconst 0, 1) := by decide +kernel
theorem dX7_never_1 : decode cX7_never 1 = .ok (.istore_n 1, 1) := by decide +kernel
theorem dX7_never_2 : decode cX7_never 2 = .ok (.iconst 0, 1) := by decide +kernel
theorem dX7_never_3 : decode cX7_never 3 = .ok (.istore_n 2, 1) := by decide +kernel
theorem dX7_never_4 : decode cX7_never 4 = .ok (.iload_n 2, 1) := by decide +kernel
theorem dX7_never_5 : decode cX7_never 5 = .ok (.aload_n 0, 1) := by decide +kernel
theorem dX7_never_6 : decode cX7_never 6 = .ok (.getfield 29, 3) := by decide +kernel
theorem dX7_never_9 : decode cX7_never 9 = .ok (.getfield 121, 3) := by decide +kernel
theorem dX7_never_12 : decode cX7_never 12 = .ok (.if_icmp .ge 57, 3) := by decide +kernel
theorem dX7_never_15 : decode cX7_never 15 = .ok (.aload_n 0, 1) := by decide +kernel
theorem dX7_never_16 : decode cX7_never 16 = .ok (.getfield 47, 3) := by decide +kernel
theorem dX7_never_19 : decode cX7_never 19 = .ok (.aload_n 0, 1) := by decide +kernel
theorem dX7_never_20 : decode cX7_never 20 = .ok (.getfield 19, 3) := by decide +kernel
theorem dX7_never_23 : decode cX7_never 23 = .ok (.aload_n 0, 1) := by decide +kernel
theorem dX7_never_24 : decode cX7_never 24 = .ok (.getfield 29, 3) := by decide +kernel
theorem dX7_never_27 : decode cX7_never 27 = .ok (.sipush 255, 3) := by decide +kernel
theorem dX7_never_30 : decode cX7_never 30 = .ok (.iconst 1, 1) := by decide +kernel
theorem dX7_never_31 : decode cX7_never 31 = .ok (.iload_n 2, 1) := by decide +kernel
theorem dX7_never_32 : decode cX7_never 32 = .ok (.ishl, 1) := by decide +kernel
theorem dX7_never_33 : decode cX7_never 33 = .ok (.iconst (-1), 1) := by decide +kernel
theorem dX7_never_34 : decode cX7_never 34 = .ok (.ixor, 1) := by decide +kernel
theorem dX7_never_35 : decode cX7_never 35 = .ok (.iand, 1) := by decide +kernel
theorem dX7_never_36 : decode cX7_never 36 = .ok (.aload_n 0, 1) := by decide +kernel
theorem dX7_never_37 : decode cX7_never 37 = .ok (.getfield 70, 3) := by decide +kernel
theorem dX7_never_40 : decode cX7_never 40 = .ok (.invokevirtual 225, 3) := by decide +kernel
theorem dX7_never_43 : decode cX7_never 43 = .ok (.aload_n 0, 1) := by decide +kernel
theorem dX7_never_44 : decode cX7_never 44 = .ok (.getfield 36, 3) := by decide +kernel
theorem dX7_never_47 : decode cX7_never 47 = .ok (.aload_n 0, 1) := by decide +kernel
theorem dX7_never_48 : decode cX7_never 48 = .ok (.getfield 47, 3) := by decide +kernel
theorem dX7_never_51 : decode cX7_never 51 = .ok (.invokevirtual 229, 3) := by decide +kernel
theorem dX7_never_54 : decode cX7_never 54 = .ok (.ifCond .eq 9, 3) := by decide +kernel
theorem dX7_never_57 : decode cX7_never 57 = .ok (.iload_n 1, 1) := by decide +kernel
theorem dX7_never_58 : decode cX7_never 58 = .ok (.iconst 1, 1) := by decide +kernel
theorem dX7_never_59 : decode cX7_never 59 = .ok (.iload_n 2, 1) := by decide +kernel
theorem dX7_never_60 : decode cX7_never 60 = .ok (.ishl, 1) := by decide +kernel
theorem dX7_never_61 : decode cX7_never 61 = .ok (.ior, 1) := by decide +kernel
theorem dX7_never_62 : decode cX7_never 62 = .ok (.istore_n 1, 1) := by decide +kernel
theorem dX7_never_63 : decode cX7_never 63 = .ok (.iinc 2 1, 3) := by decide +kernel
theorem dX7_never_66 : decode cX7_never 66 = .ok (.goto (-62), 3) := by decide +kernel
theorem dX7_never_69 : decode cX7_never 69 = .ok (.iload_n 1, 1) := by decide +kernel
theorem dX7_never_70 : decode cX7_never 70 = .ok (.ireturn, 1) := by decide +kernel
set_option maxRecDepth 20000 in
theorem ggX7_was_X7_isTenant : GoodIn wsX7_was wsX7_isTenant := goodIn_r _ [5, 6, 7, 136, 137, 138, 139, 140, 141, 142, 143, 144, 145, 146, 147, 148, 149, 150, 151, 152, 153, 154] (by decide +kernel) (by decide +kernel)
set_option maxRecDepth 20000 in
theorem gX7_was_X7_isTenant : GoodIn wsX7_was (wsV RX7 102 RX7 yX7_isTenant wsX7_isTenant) := goodIn_app (goodIn_of _ (by decide +kernel)) ggX7_was_X7_isTenant
set_option maxRecDepth 20000 in
theorem ggX7_was_X7_within : GoodIn wsX7_was wsX7_within := goodIn_r _ [10] (by decide +kernel) (by decide +kernel)
set_option maxRecDepth 20000 in
theorem gX7_was_X7_within : GoodIn wsX7_was (va_wsS RX7 85 yX7_within wsX7_within) := goodIn_app (goodIn_of _ (by decide +kernel)) ggX7_was_X7_within
set_option maxRecDepth 20000 in
theorem ggX7_was_X7_seenWages : GoodIn wsX7_was wsX7_seenWages := goodIn_r _ [14, 15, 6, 16, 17, 18, 19, 20, 21, 22, 23, 24, 25, 26, 27, 28, 29, 30, 31, 32, 33, 34, 35, 36, 37, 38, 39, 40, 41, 42, 43, 44, 45, 46, 47, 48, 49, 50, 51, 52, 53, 54, 55, 56, 57, 58, 59, 60, 61, 62, 63, 64, 65, 66, 67, 68, 69, 70, 71, 72, 73, 74, 75, 76, 77, 78, 79, 80, 81, 82, 83, 84, 85, 86, 87, 88, 89, 90, 91, 92, 93, 94, 95, 96, 97, 98, 99, 100, 101, 102, 103, 104, 105, 106, 107, 108, 109, 110, 111, 112, 113, 114, 115, 116, 117, 118, 119, 120, 121, 122, 123, 124, 125, 126, 127, 128, 129, 130, 136, 137, 138, 139, 140, 141, 142, 143, 144, 145, 146, 147, 148, 149, 150, 151, 152, 153, 154, 155, 156, 157, 158, 159, 160, 161, 162, 163, 164, 165, 166, 167, 168, 169, 170, 171, 172, 173, 174] (by decide +kernel) (by decide +kernel)
set_option maxRecDepth 20000 in
theorem gX7_was_X7_seenWages : GoodIn wsX7_was (wsV RX7 233 RX7 yX7_seenWages wsX7_seenWages) := goodIn_app (goodIn_of _ (by decide +kernel)) ggX7_was_X7_seenWages
set_option maxRecDepth 20000 in
theorem ggX7_was_X7_seenSorts : GoodIn wsX7_was wsX7_seenSorts := goodIn_r _ [134, 15, 6, 135, 17, 18, 19, 20, 22, 23, 24, 25, 26, 27, 28, 29, 30, 31, 32, 33, 34, 35, 36, 37, 38, 39, 40, 41, 42, 43, 44, 45, 46, 47, 48, 49, 50, 51, 52, 53, 54, 55, 56, 57, 58, 59, 60, 61, 62, 63, 64, 65, 66, 67, 68, 69, 70, 71, 72, 73, 74, 75, 76, 77, 78, 79, 80, 81, 82, 83, 84, 85, 86, 87, 88, 89, 90, 91, 92, 93, 94, 95, 96, 97, 98, 99, 100, 101, 102, 103, 104, 105, 106, 107, 108, 109, 110, 111, 112, 113, 114, 115, 116, 117, 118, 119, 120, 121, 122, 123, 124, 125, 136, 137, 138, 139, 140, 141, 142, 143, 144, 145, 146, 147, 148, 149, 150, 151, 152, 153, 154, 155, 156, 157, 158, 159, 160, 161, 162, 163, 164, 165, 166, 167, 168, 169, 170, 171, 172, 173, 174] (by decide +kernel) (by decide +kernel)
set_option maxRecDepth 20000 in
theorem gX7_was_X7_seenSorts : GoodIn wsX7_was (wsV RX7 236 RX7 yX7_seenSorts wsX7_seenSorts) := goodIn_app (goodIn_of _ (by decide +kernel)) ggX7_was_X7_seenSorts
theorem dX7_was_0 : decode cX7_was 0 = .ok (.aload_n 0, 1) := by decide +kernel
theorem dX7_was_1 : decode cX7_was 1 = .ok (.iload_n 1, 1) := by decide +kernel
theorem dX7_was_2 : decode cX7_was 2 = .ok (.invokevirtual 102, 3) := by decide +kernel
theorem dX7_was_5 : decode cX7_was 5 = .ok (.ifCond .eq 12, 3) := by decide +kernel
theorem dX7_was_8 : decode cX7_was 8 = .ok (.iload_n 2, 1) := by decide +kernel
theorem dX7_was_9 : decode cX7_was 9 = .ok (.iconst 0, 1) := by decide +kernel
theorem dX7_was_10 : decode cX7_was 10 = .ok (.iconst 1, 1) := by decide +kernel
theorem dX7_was_11 : decode cX7_was 11 = .ok (.invokestatic 85, 3) := by decide +kernel
theorem dX7_was_14 : decode cX7_was 14 = .ok (.ifCond .ne 6, 3) := by decide +kernel
theorem dX7_was_17 : decode cX7_was 17 = .ok (.bipush (-2), 2) := by decide +kernel
theorem dX7_was_19 : decode cX7_was 19 = .ok (.ireturn, 1) := by decide +kernel
theorem dX7_was_20 : decode cX7_was 20 = .ok (.iload_n 2, 1) := by decide +kernel
theorem dX7_was_21 : decode cX7_was 21 = .ok (.ifCond .ne 11, 3) := by decide +kernel
theorem dX7_was_24 : decode cX7_was 24 = .ok (.aload_n 0, 1) := by decide +kernel
theorem dX7_was_25 : decode cX7_was 25 = .ok (.iload_n 1, 1) := by decide +kernel
theorem dX7_was_26 : decode cX7_was 26 = .ok (.invokevirtual 233, 3) := by decide +kernel
theorem dX7_was_29 : decode cX7_was 29 = .ok (.goto 8, 3) := by decide +kernel
theorem dX7_was_32 : decode cX7_was 32 = .ok (.aload_n 0, 1) := by decide +kernel
theorem dX7_was_33 : decode cX7_was 33 = .ok (.iload_n 1, 1) := by decide +kernel
theorem dX7_was_34 : decode cX7_was 34 = .ok (.invokevirtual 236, 3) := by decide +kernel
theorem dX7_was_37 : decode cX7_was 37 = .ok (.ireturn, 1) := by decide +kernel
set_option maxRecDepth 20000 in
theorem ggX7_ask_X7_isTenant : GoodIn wsX7_ask wsX7_isTenant := goodIn_r _ [5, 6, 7, 135, 136, 137, 138, 139, 140, 141, 142, 143, 144, 145, 146, 147, 148, 149, 150, 151, 152, 153] (by decide +kernel) (by decide +kernel)
set_option maxRecDepth 20000 in
theorem gX7_ask_X7_isTenant : GoodIn wsX7_ask (wsV RX7 102 RX7 yX7_isTenant wsX7_isTenant) := goodIn_app (goodIn_of _ (by decide +kernel)) ggX7_ask_X7_isTenant
set_option maxRecDepth 20000 in
theorem ggX7_ask_X7_seenWages : GoodIn wsX7_ask wsX7_seenWages := goodIn_r _ [11, 12, 6, 13, 14, 15, 16, 17, 18, 19, 20, 21, 22, 23, 24, 25, 26, 27, 28, 29, 30, 31, 32, 33, 34, 35, 36, 37, 38, 39, 40, 41, 42, 43, 44, 45, 46, 47, 48, 49, 50, 51, 52, 53, 54, 55, 56, 57, 58, 59, 60, 61, 62, 63, 64, 65, 66, 67, 68, 69, 70, 71, 72, 73, 74, 75, 76, 77, 78, 79, 80, 81, 82, 83, 84, 85, 86, 87, 88, 89, 90, 91, 92, 93, 94, 95, 96, 97, 98, 99, 100, 101, 102, 103, 104, 105, 106, 107, 108, 109, 110, 111, 112, 113, 114, 115, 116, 117, 118, 119, 120, 121, 122, 123, 124, 125, 126, 127, 135, 136, 137, 138, 139, 140, 141, 142, 143, 144, 145, 146, 147, 148, 149, 150, 151, 152, 153, 154, 155, 156, 157, 158, 159, 160, 161, 162, 163, 164, 165, 166, 167, 168, 169, 170, 171, 172, 173] (by decide +kernel) (by decide +kernel)
set_option maxRecDepth 20000 in
theorem gX7_ask_X7_seenWages : GoodIn wsX7_ask (wsV RX7 233 RX7 yX7_seenWages wsX7_seenWages) := goodIn_app (goodIn_of _ (by decide +kernel)) ggX7_ask_X7_seenWages
set_option maxRecDepth 20000 in
theorem ggX7_ask_X7_greatestAlike : GoodIn wsX7_ask wsX7_greatestAlike := goodIn_r _ [131, 18, 132, 133, 63, 134, 135, 136, 137, 138, 139, 140, 141, 142, 143, 144, 145, 146, 147, 148, 149] (by decide +kernel) (by decide +kernel)
set_option maxRecDepth 20000 in
theorem gX7_ask_X7_greatestAlike : GoodIn wsX7_ask (wsV RX7 239 RX7 yX7_greatestAlike wsX7_greatestAlike) := goodIn_app (goodIn_of _ (by decide +kernel)) ggX7_ask_X7_greatestAlike
theorem dX7_ask_0 : decode cX7_ask 0 = .ok (.aload_n 0, 1) := by decide +kernel
theorem dX7_ask_1 : decode cX7_ask 1 = .ok (.iload_n 1, 1) := by decide +kernel
theorem dX7_ask_2 : decode cX7_ask 2 = .ok (.invokevirtual 102, 3) := by decide +kernel
theorem dX7_ask_5 : decode cX7_ask 5 = .ok (.ifCond .ne 6, 3) := by decide +kernel
theorem dX7_ask_8 : decode cX7_ask 8 = .ok (.bipush (-2), 2) := by decide +kernel
theorem dX7_ask_10 : decode cX7_ask 10 = .ok (.ireturn, 1) := by decide +kernel
theorem dX7_ask_11 : decode cX7_ask 11 = .ok (.aload_n 0, 1) := by decide +kernel
theorem dX7_ask_12 : decode cX7_ask 12 = .ok (.iload_n 1, 1) := by decide +kernel
theorem dX7_ask_13 : decode cX7_ask 13 = .ok (.invokevirtual 233, 3) := by decide +kernel
theorem dX7_ask_16 : decode cX7_ask 16 = .ok (.istore_n 2, 1) := by decide +kernel
theorem dX7_ask_17 : decode cX7_ask 17 = .ok (.iconst 0, 1) := by decide +kernel
theorem dX7_ask_18 : decode cX7_ask 18 = .ok (.istore_n 3, 1) := by decide +kernel
theorem dX7_ask_19 : decode cX7_ask 19 = .ok (.bipush 11, 2) := by decide +kernel
theorem dX7_ask_21 : decode cX7_ask 21 = .ok (.istore 4, 2) := by decide +kernel
theorem dX7_ask_23 : decode cX7_ask 23 = .ok (.iconst 0, 1) := by decide +kernel
theorem dX7_ask_24 : decode cX7_ask 24 = .ok (.istore 5, 2) := by decide +kernel
theorem dX7_ask_26 : decode cX7_ask 26 = .ok (.iload 5, 2) := by decide +kernel
theorem dX7_ask_28 : decode cX7_ask 28 = .ok (.bipush 24, 2) := by decide +kernel
theorem dX7_ask_30 : decode cX7_ask 30 = .ok (.if_icmp .ge 32, 3) := by decide +kernel
theorem dX7_ask_33 : decode cX7_ask 33 = .ok (.aload_n 0, 1) := by decide +kernel
theorem dX7_ask_34 : decode cX7_ask 34 = .ok (.iload_n 2, 1) := by decide +kernel
theorem dX7_ask_35 : decode cX7_ask 35 = .ok (.iload 5, 2) := by decide +kernel
theorem dX7_ask_37 : decode cX7_ask 37 = .ok (.invokevirtual 239, 3) := by decide +kernel
theorem dX7_ask_40 : decode cX7_ask 40 = .ok (.istore 6, 2) := by decide +kernel
theorem dX7_ask_42 : decode cX7_ask 42 = .ok (.iload 6, 2) := by decide +kernel
theorem dX7_ask_44 : decode cX7_ask 44 = .ok (.iload 4, 2) := by decide +kernel
theorem dX7_ask_46 : decode cX7_ask 46 = .ok (.if_icmp .ge 10, 3) := by decide +kernel
theorem dX7_ask_49 : decode cX7_ask 49 = .ok (.iload 6, 2) := by decide +kernel
theorem dX7_ask_51 : decode cX7_ask 51 = .ok (.istore 4, 2) := by decide +kernel
theorem dX7_ask_53 : decode cX7_ask 53 = .ok (.iload 5, 2) := by decide +kernel
theorem dX7_ask_55 : decode cX7_ask 55 = .ok (.istore_n 3, 1) := by decide +kernel
theorem dX7_ask_56 : decode cX7_ask 56 = .ok (.iinc 5 1, 3) := by decide +kernel
theorem dX7_ask_59 : decode cX7_ask 59 = .ok (.goto (-33), 3) := by decide +kernel
theorem dX7_ask_62 : decode cX7_ask 62 = .ok (.iload_n 3, 1) := by decide +kernel
theorem dX7_ask_63 : decode cX7_ask 63 = .ok (.ireturn, 1) := by decide +kernel
set_option maxRecDepth 20000 in
theorem ggX7_chance_X7_within : GoodIn wsX7_chance wsX7_within := goodIn_r _ [7] (by decide +kernel) (by decide +kernel)
set_option maxRecDepth 20000 in
theorem gX7_chance_X7_within : GoodIn wsX7_chance (va_wsS RX7 85 yX7_within wsX7_within) := goodIn_app (goodIn_of _ (by decide +kernel)) ggX7_chance_X7_within
set_option maxRecDepth 20000 in
theorem ggX7_chance_X7_isTenant : GoodIn wsX7_chance wsX7_isTenant := goodIn_r _ [11, 12, 13, 118, 119, 120, 121, 122, 123, 124, 125, 126, 127, 128, 129, 130, 131, 132, 137, 138, 139, 140] (by decide +kernel) (by decide +kernel)
set_option maxRecDepth 20000 in
theorem gX7_chance_X7_isTenant : GoodIn wsX7_chance (wsV RX7 102 RX7 yX7_isTenant wsX7_isTenant) := goodIn_app (goodIn_of _ (by decide +kernel)) ggX7_chance_X7_isTenant
set_option maxRecDepth 20000 in
theorem ggX7_chance_X7_settledWith : GoodIn wsX7_chance wsX7_settledWith := goodIn_r _ [17, 18, 19, 20, 12, 2, 21, 22, 23, 24, 25, 26, 27, 28, 29, 30, 31, 32, 33, 34, 35, 36, 37, 38, 39, 40, 41, 42, 43, 44, 45, 46, 47, 48, 49, 50, 51, 52, 53, 54, 55, 56, 57, 58, 59, 60, 61, 62, 63, 64, 65, 66, 67, 68, 69, 70, 71, 72, 73, 74, 75, 76, 77, 78, 79, 80, 81, 82, 83, 84, 85, 86, 87, 88, 89, 90, 91, 92, 93, 94, 95, 96, 97, 98, 99, 100, 101, 102, 103, 104, 105, 106, 107, 118, 119, 120, 121, 122, 123, 124, 125, 126, 127, 128, 129, 130, 131, 132, 141, 142, 143, 144, 145, 146, 147, 148, 149, 150, 151, 152, 137, 138, 139, 140, 133, 134, 135, 136] (by decide +kernel) (by decide +kernel)
set_option maxRecDepth 20000 in
theorem gX7_chance_X7_settledWith : GoodIn wsX7_chance (wsV RX7 244 RX7 yX7_settledWith wsX7_settledWith) := goodIn_app (goodIn_of _ (by decide +kernel)) ggX7_chance_X7_settledWith
set_option maxRecDepth 20000 in
theorem ggX7_chance_X7_weight : GoodIn wsX7_chance wsX7_weight := goodIn_r _ [111, 2, 3, 118, 119, 120, 121, 122, 123, 124, 125, 126, 127, 128, 129, 130, 131, 132, 133, 134, 135, 136] (by decide +kernel) (by decide +kernel)
set_option maxRecDepth 20000 in
theorem gX7_chance_X7_weight : GoodIn wsX7_chance (wsV RX7 247 RX7 yX7_weight wsX7_weight) := goodIn_app (goodIn_of _ (by decide +kernel)) ggX7_chance_X7_weight
set_option maxRecDepth 20000 in
theorem ggX7_chance_X7_commonDivisor : GoodIn wsX7_chance wsX7_commonDivisor := goodIn_r _ [114, 115, 116, 61, 117] (by decide +kernel) (by decide +kernel)
set_option maxRecDepth 20000 in
theorem gX7_chance_X7_commonDivisor : GoodIn wsX7_chance (va_wsS RX7 251 yX7_commonDivisor wsX7_commonDivisor) := goodIn_app (goodIn_of _ (by decide +kernel)) ggX7_chance_X7_commonDivisor
theorem dX7_chance_0 : decode cX7_chance 0 = .ok (.iload_n 1, 1) := by decide +kernel
theorem dX7_chance_1 : decode cX7_chance 1 = .ok (.iconst 0, 1) := by decide +kernel
theorem dX7_chance_2 : decode cX7_chance 2 = .ok (.bipush 16, 2) := by decide +kernel
theorem dX7_chance_4 : decode cX7_chance 4 = .ok (.invokestatic 85, 3) := by decide +kernel
theorem dX7_chance_7 : decode cX7_chance 7 = .ok (.ifCond .eq 20, 3) := by decide +kernel
theorem dX7_chance_10 : decode cX7_chance 10 = .ok (.aload_n 0, 1) := by decide +kernel
theorem dX7_chance_11 : decode cX7_chance 11 = .ok (.iload_n 2, 1) := by decide +kernel
theorem dX7_chance_12 : decode cX7_chance 12 = .ok (.invokevirtual 102, 3) := by decide +kernel
theorem dX7_chance_15 : decode cX7_chance 15 = .ok (.ifCond .eq 12, 3) := by decide +kernel
theorem dX7_chance_18 : decode cX7_chance 18 = .ok (.iload_n 3, 1) := by decide +kernel
theorem dX7_chance_19 : decode cX7_chance 19 = .ok (.iconst 0, 1) := by decide +kernel
theorem dX7_chance_20 : decode cX7_chance 20 = .ok (.iconst 1, 1) := by decide +kernel
theorem dX7_chance_21 : decode cX7_chance 21 = .ok (.invokestatic 85, 3) := by decide +kernel
theorem dX7_chance_24 : decode cX7_chance 24 = .ok (.ifCond .ne 7, 3) := by decide +kernel
theorem dX7_chance_27 : decode cX7_chance 27 = .ok (.ldc2_w 242, 3) := by decide +kernel
theorem dX7_chance_30 : decode cX7_chance 30 = .ok (.lreturn, 1) := by decide +kernel
theorem dX7_chance_31 : decode cX7_chance 31 = .ok (.lconst 0, 1) := by decide +kernel
theorem dX7_chance_32 : decode cX7_chance 32 = .ok (.lstore 4, 2) := by decide +kernel
theorem dX7_chance_34 : decode cX7_chance 34 = .ok (.lconst 1, 1) := by decide +kernel
theorem dX7_chance_35 : decode cX7_chance 35 = .ok (.iconst 4, 1) := by decide +kernel
theorem dX7_chance_36 : decode cX7_chance 36 = .ok (.aload_n 0, 1) := by decide +kernel
theorem dX7_chance_37 : decode cX7_chance 37 = .ok (.getfield 29, 3) := by decide +kernel
theorem dX7_chance_40 : decode cX7_chance 40 = .ok (.getfield 121, 3) := by decide +kernel
theorem dX7_chance_43 : decode cX7_chance 43 = .ok (.imul, 1) := by decide +kernel
theorem dX7_chance_44 : decode cX7_chance 44 = .ok (.lshl, 1) := by decide +kernel
theorem dX7_chance_45 : decode cX7_chance 45 = .ok (.lstore 6, 2) := by decide +kernel
theorem dX7_chance_47 : decode cX7_chance 47 = .ok (.iconst 0, 1) := by decide +kernel
theorem dX7_chance_48 : decode cX7_chance 48 = .ok (.istore 8, 2) := by decide +kernel
theorem dX7_chance_50 : decode cX7_chance 50 = .ok (.iload 8, 2) := by decide +kernel
theorem dX7_chance_52 : decode cX7_chance 52 = .ok (.iconst 1, 1) := by decide +kernel
theorem dX7_chance_53 : decode cX7_chance 53 = .ok (.aload_n 0, 1) := by decide +kernel
theorem dX7_chance_54 : decode cX7_chance 54 = .ok (.getfield 29, 3) := by decide +kernel
theorem dX7_chance_57 : decode cX7_chance 57 = .ok (.getfield 121, 3) := by decide +kernel
theorem dX7_chance_60 : decode cX7_chance 60 = .ok (.ishl, 1) := by decide +kernel
theorem dX7_chance_61 : decode cX7_chance 61 = .ok (.if_icmp .ge 34, 3) := by decide +kernel
theorem dX7_chance_64 : decode cX7_chance 64 = .ok (.aload_n 0, 1) := by decide +kernel
theorem dX7_chance_65 : decode cX7_chance 65 = .ok (.iload 8, 2) := by decide +kernel
theorem dX7_chance_67 : decode cX7_chance 67 = .ok (.invokevirtual 244, 3) := by decide +kernel
theorem dX7_chance_70 : decode cX7_chance 70 = .ok (.iload_n 2, 1) := by decide +kernel
theorem dX7_chance_71 : decode cX7_chance 71 = .ok (.ishr, 1) := by decide +kernel
theorem dX7_chance_72 : decode cX7_chance 72 = .ok (.iconst 1, 1) := by decide +kernel
theorem dX7_chance_73 : decode cX7_chance 73 = .ok (.iand, 1) := by decide +kernel
theorem dX7_chance_74 : decode cX7_chance 74 = .ok (.ifCond .eq 15, 3) := by decide +kernel
theorem dX7_chance_77 : decode cX7_chance 77 = .ok (.lload 4, 2) := by decide +kernel
theorem dX7_chance_79 : decode cX7_chance 79 = .ok (.aload_n 0, 1) := by decide +kernel
theorem dX7_chance_80 : decode cX7_chance 80 = .ok (.iload_n 1, 1) := by decide +kernel
theorem dX7_chance_81 : decode cX7_chance 81 = .ok (.iload 8, 2) := by decide +kernel
theorem dX7_chance_83 : decode cX7_chance 83 = .ok (.invokevirtual 247, 3) := by decide +kernel
theorem dX7_chance_86 : decode cX7_chance 86 = .ok (.ladd, 1) := by decide +kernel
theorem dX7_chance_87 : decode cX7_chance 87 = .ok (.lstore 4, 2) := by decide +kernel
theorem dX7_chance_89 : decode cX7_chance 89 = .ok (.iinc 8 1, 3) := by decide +kernel
theorem dX7_chance_92 : decode cX7_chance 92 = .ok (.goto (-42), 3) := by decide +kernel
theorem dX7_chance_95 : decode cX7_chance 95 = .ok (.lload 4, 2) := by decide +kernel
theorem dX7_chance_97 : decode cX7_chance 97 = .ok (.lload 6, 2) := by decide +kernel
theorem dX7_chance_99 : decode cX7_chance 99 = .ok (.invokestatic 251, 3) := by decide +kernel
theorem dX7_chance_102 : decode cX7_chance 102 = .ok (.lstore 8, 2) := by decide +kernel
theorem dX7_chance_104 : decode cX7_chance 104 = .ok (.iload_n 3, 1) := by decide +kernel
theorem dX7_chance_105 : decode cX7_chance 105 = .ok (.ifCond .ne 11, 3) := by decide +kernel
theorem dX7_chance_108 : decode cX7_chance 108 = .ok (.lload 4, 2) := by decide +kernel
theorem dX7_chance_110 : decode cX7_chance 110 = .ok (.lload 8, 2) := by decide +kernel
theorem dX7_chance_112 : decode cX7_chance 112 = .ok (.ldiv, 1) := by decide +kernel
theorem dX7_chance_113 : decode cX7_chance 113 = .ok (.goto 8, 3) := by decide +kernel
theorem dX7_chance_116 : decode cX7_chance 116 = .ok (.lload 6, 2) := by decide +kernel
theorem dX7_chance_118 : decode cX7_chance 118 = .ok (.lload 8, 2) := by decide +kernel
theorem dX7_chance_120 : decode cX7_chance 120 = .ok (.ldiv, 1) := by decide +kernel
theorem dX7_chance_121 : decode cX7_chance 121 = .ok (.lreturn, 1) := by decide +kernel
set_option maxRecDepth 20000 in
theorem ggX7_houses_X7_within : GoodIn wsX7_houses wsX7_within := goodIn_r _ [8] (by decide +kernel) (by decide +kernel)
set_option maxRecDepth 20000 in
theorem gX7_houses_X7_within : GoodIn wsX7_houses (va_wsS RX7 85 yX7_within wsX7_within) := goodIn_app (goodIn_of _ (by decide +kernel)) ggX7_houses_X7_within
set_option maxRecDepth 20000 in
theorem ggX7_houses_X5_drawLots : GoodIn wsX7_houses wsX5_drawLots := goodIn_r _ [13, 14, 15, 16, 17, 18, 19, 12, 20, 21, 22, 23, 24, 140, 141, 142, 143] (by decide +kernel) (by decide +kernel)
set_option maxRecDepth 20000 in
theorem gX7_houses_X5_drawLots : GoodIn wsX7_houses (wsV RX7 255 RX5 yX5_drawLots wsX5_drawLots) := goodIn_app (goodIn_of _ (by decide +kernel)) ggX7_houses_X5_drawLots
set_option maxRecDepth 20000 in
theorem ggX7_houses_X1_run : GoodIn wsX7_houses wsX1_run := goodIn_r _ [29, 30, 31, 32, 33, 34, 35, 36, 37, 28, 38, 39, 40, 41, 42, 43, 44, 45, 46, 47, 48, 49, 50, 51, 52, 53, 54, 55, 56, 57, 58, 59, 60, 61, 62, 63, 64, 65, 66, 67, 68, 69, 70, 71, 72, 73, 74, 75, 76, 77, 78, 79, 80, 81, 82, 83, 84, 85, 86, 87, 88, 89, 90, 91, 92, 93, 94, 95, 96, 97, 98, 99, 100, 101, 102, 103, 104, 105, 144, 145, 146, 147, 148, 149, 150, 151, 152, 153, 154, 155, 140, 141, 142, 143, 156, 157, 158, 159] (by decide +kernel) (by decide +kernel)
set_option maxRecDepth 20000 in
theorem gX7_houses_X1_run : GoodIn wsX7_houses (wsV RX7 225 RX1 yX1_run wsX1_run) := goodIn_app (goodIn_of _ (by decide +kernel)) ggX7_houses_X1_run
set_option maxRecDepth 20000 in
theorem ggX7_houses_X1_settledInAll : GoodIn wsX7_houses wsX1_settledInAll := goodIn_r _ [109, 110, 111, 112, 28, 113, 30, 40, 114, 115, 116, 117, 118, 119, 120, 144, 145, 146, 147, 148, 149, 150, 151, 152, 153, 154, 155] (by decide +kernel) (by decide +kernel)
set_option maxRecDepth 20000 in
theorem gX7_houses_X1_settledInAll : GoodIn wsX7_houses (wsV RX7 181 RX1 yX1_settledInAll wsX1_settledInAll) := goodIn_app (goodIn_of _ (by decide +kernel)) ggX7_houses_X1_settledInAll
set_option maxRecDepth 20000 in
theorem ggX7_houses_X1_fallsInAll : GoodIn wsX7_houses wsX1_fallsInAll := goodIn_r _ [124, 30, 41, 144, 145, 146, 147, 148, 149, 150, 151, 152, 153, 154, 155] (by decide +kernel) (by decide +kernel)
set_option maxRecDepth 20000 in
theorem gX7_houses_X1_fallsInAll : GoodIn wsX7_houses (wsV RX7 184 RX1 yX1_fallsInAll wsX1_fallsInAll) := goodIn_app (goodIn_of _ (by decide +kernel)) ggX7_houses_X1_fallsInAll
theorem dX7_houses_0 : decode cX7_houses 0 = .ok (.iload_n 2, 1) := by decide +kernel
theorem dX7_houses_1 : decode cX7_houses 1 = .ok (.iconst 0, 1) := by decide +kernel
theorem dX7_houses_2 : decode cX7_houses 2 = .ok (.bipush 8, 2) := by decide +kernel
theorem dX7_houses_4 : decode cX7_houses 4 = .ok (.invokestatic 85, 3) := by decide +kernel
theorem dX7_houses_7 : decode cX7_houses 7 = .ok (.ifCond .eq 12, 3) := by decide +kernel
theorem dX7_houses_10 : decode cX7_houses 10 = .ok (.iload_n 3, 1) := by decide +kernel
theorem dX7_houses_11 : decode cX7_houses 11 = .ok (.iconst 0, 1) := by decide +kernel
theorem dX7_houses_12 : decode cX7_houses 12 = .ok (.iconst 1, 1) := by decide +kernel
theorem dX7_houses_13 : decode cX7_houses 13 = .ok (.invokestatic 85, 3) := by decide +kernel
theorem dX7_houses_16 : decode cX7_houses 16 = .ok (.ifCond .ne 6, 3) := by decide +kernel
theorem dX7_houses_19 : decode cX7_houses 19 = .ok (.bipush (-2), 2) := by decide +kernel
theorem dX7_houses_21 : decode cX7_houses 21 = .ok (.ireturn, 1) := by decide +kernel
theorem dX7_houses_22 : decode cX7_houses 22 = .ok (.aload_n 0, 1) := by decide +kernel
theorem dX7_houses_23 : decode cX7_houses 23 = .ok (.getfield 23, 3) := by decide +kernel
theorem dX7_houses_26 : decode cX7_houses 26 = .ok (.iload_n 1, 1) := by decide +kernel
theorem dX7_houses_27 : decode cX7_houses 27 = .ok (.iload_n 2, 1) := by decide +kernel
theorem dX7_houses_28 : decode cX7_houses 28 = .ok (.invokevirtual 255, 3) := by decide +kernel
theorem dX7_houses_31 : decode cX7_houses 31 = .ok (.aload_n 0, 1) := by decide +kernel
theorem dX7_houses_32 : decode cX7_houses 32 = .ok (.getfield 47, 3) := by decide +kernel
theorem dX7_houses_35 : decode cX7_houses 35 = .ok (.aload_n 0, 1) := by decide +kernel
theorem dX7_houses_36 : decode cX7_houses 36 = .ok (.getfield 23, 3) := by decide +kernel
theorem dX7_houses_39 : decode cX7_houses 39 = .ok (.aload_n 0, 1) := by decide +kernel
theorem dX7_houses_40 : decode cX7_houses 40 = .ok (.getfield 29, 3) := by decide +kernel
theorem dX7_houses_43 : decode cX7_houses 43 = .ok (.sipush 255, 3) := by decide +kernel
theorem dX7_houses_46 : decode cX7_houses 46 = .ok (.aload_n 0, 1) := by decide +kernel
theorem dX7_houses_47 : decode cX7_houses 47 = .ok (.getfield 70, 3) := by decide +kernel
theorem dX7_houses_50 : decode cX7_houses 50 = .ok (.invokevirtual 225, 3) := by decide +kernel
theorem dX7_houses_53 : decode cX7_houses 53 = .ok (.iload_n 3, 1) := by decide +kernel
theorem dX7_houses_54 : decode cX7_houses 54 = .ok (.ifCond .ne 13, 3) := by decide +kernel
theorem dX7_houses_57 : decode cX7_houses 57 = .ok (.aload_n 0, 1) := by decide +kernel
theorem dX7_houses_58 : decode cX7_houses 58 = .ok (.getfield 47, 3) := by decide +kernel
theorem dX7_houses_61 : decode cX7_houses 61 = .ok (.invokevirtual 181, 3) := by decide +kernel
theorem dX7_houses_64 : decode cX7_houses 64 = .ok (.goto 10, 3) := by decide +kernel
theorem dX7_houses_67 : decode cX7_houses 67 = .ok (.aload_n 0, 1) := by decide +kernel
theorem dX7_houses_68 : decode cX7_houses 68 = .ok (.getfield 47, 3) := by decide +kernel
theorem dX7_houses_71 : decode cX7_houses 71 = .ok (.invokevirtual 184, 3) := by decide +kernel
theorem dX7_houses_74 : decode cX7_houses 74 = .ok (.ireturn, 1) := by decide +kernel
set_option maxRecDepth 20000 in
theorem ggX7_sheet_X7_within : GoodIn wsX7_sheet wsX7_within := goodIn_r _ [5] (by decide +kernel) (by decide +kernel)
set_option maxRecDepth 20000 in
theorem gX7_sheet_X7_within : GoodIn wsX7_sheet (va_wsS RX7 85 yX7_within wsX7_within) := goodIn_app (goodIn_of _ (by decide +kernel)) ggX7_sheet_X7_within
set_option maxRecDepth 20000 in
theorem ggX7_sheet_X7_found : GoodIn wsX7_sheet wsX7_found := goodIn_r _ [9, 10, 24, 25, 26, 27, 28, 29, 30, 31, 32, 33, 34, 35, 36, 37, 38] (by decide +kernel) (by decide +kernel)
set_option maxRecDepth 20000 in
theorem gX7_sheet_X7_found : GoodIn wsX7_sheet (wsV RX7 129 RX7 yX7_found wsX7_found) := goodIn_app (goodIn_of _ (by decide +kernel)) ggX7_sheet_X7_found
set_option maxRecDepth 20000 in
theorem ggX7_sheet_X4_renew : GoodIn wsX7_sheet wsX4_renew := goodIn_r _ [15, 16, 17, 18, 19, 20, 21, 22, 23, 39, 40, 41, 42] (by decide +kernel) (by decide +kernel)
set_option maxRecDepth 20000 in
theorem gX7_sheet_X4_renew : GoodIn wsX7_sheet (wsV RX7 259 RX4 yX4_renew wsX4_renew) := goodIn_app (goodIn_of _ (by decide +kernel)) ggX7_sheet_X4_renew
theorem dX7_sheet_0 : decode cX7_sheet 0 = .ok (.iload_n 1, 1) := by decide +kernel
theorem dX7_sheet_1 : decode cX7_sheet 1 = .ok (.iconst 0, 1) := by decide +kernel
theorem dX7_sheet_2 : decode cX7_sheet 2 = .ok (.iconst 3, 1) := by decide +kernel
theorem dX7_sheet_3 : decode cX7_sheet 3 = .ok (.invokestatic 85, 3) := by decide +kernel
theorem dX7_sheet_6 : decode cX7_sheet 6 = .ok (.ifCond .eq 18, 3) := by decide +kernel
theorem dX7_sheet_9 : decode cX7_sheet 9 = .ok (.iload_n 2, 1) := by decide +kernel
theorem dX7_sheet_10 : decode cX7_sheet 10 = .ok (.iconst 0, 1) := by decide +kernel
theorem dX7_sheet_11 : decode cX7_sheet 11 = .ok (.iconst 2, 1) := by decide +kernel
theorem dX7_sheet_12 : decode cX7_sheet 12 = .ok (.invokestatic 85, 3) := by decide +kernel
theorem dX7_sheet_15 : decode cX7_sheet 15 = .ok (.ifCond .eq 9, 3) := by decide +kernel
theorem dX7_sheet_18 : decode cX7_sheet 18 = .ok (.iload_n 3, 1) := by decide +kernel
theorem dX7_sheet_19 : decode cX7_sheet 19 = .ok (.bipush 60, 2) := by decide +kernel
theorem dX7_sheet_21 : decode cX7_sheet 21 = .ok (.if_icmp .le 6, 3) := by decide +kernel
theorem dX7_sheet_24 : decode cX7_sheet 24 = .ok (.bipush (-2), 2) := by decide +kernel
theorem dX7_sheet_26 : decode cX7_sheet 26 = .ok (.ireturn, 1) := by decide +kernel
theorem dX7_sheet_27 : decode cX7_sheet 27 = .ok (.iload_n 3, 1) := by decide +kernel
theorem dX7_sheet_28 : decode cX7_sheet 28 = .ok (.ifCond .ge 9, 3) := by decide +kernel
theorem dX7_sheet_31 : decode cX7_sheet 31 = .ok (.aload_n 0, 1) := by decide +kernel
theorem dX7_sheet_32 : decode cX7_sheet 32 = .ok (.iconst 5, 1) := by decide +kernel
theorem dX7_sheet_33 : decode cX7_sheet 33 = .ok (.invokevirtual 129, 3) := by decide +kernel
theorem dX7_sheet_36 : decode cX7_sheet 36 = .ok (.ireturn, 1) := by decide +kernel
theorem dX7_sheet_37 : decode cX7_sheet 37 = .ok (.aload_n 0, 1) := by decide +kernel
theorem dX7_sheet_38 : decode cX7_sheet 38 = .ok (.getfield 59, 3) := by decide +kernel
theorem dX7_sheet_41 : decode cX7_sheet 41 = .ok (.iload_n 1, 1) := by decide +kernel
theorem dX7_sheet_42 : decode cX7_sheet 42 = .ok (.aaload, 1) := by decide +kernel
theorem dX7_sheet_43 : decode cX7_sheet 43 = .ok (.iload_n 2, 1) := by decide +kernel
theorem dX7_sheet_44 : decode cX7_sheet 44 = .ok (.iload_n 3, 1) := by decide +kernel
theorem dX7_sheet_45 : decode cX7_sheet 45 = .ok (.invokevirtual 259, 3) := by decide +kernel
theorem dX7_sheet_48 : decode cX7_sheet 48 = .ok (.iload_n 3, 1) := by decide +kernel
theorem dX7_sheet_49 : decode cX7_sheet 49 = .ok (.ireturn, 1) := by decide +kernel
set_option maxRecDepth 20000 in
theorem ggX7_lose_X7_within : GoodIn wsX7_lose wsX7_within := goodIn_r _ [7] (by decide +kernel) (by decide +kernel)
set_option maxRecDepth 20000 in
theorem gX7_lose_X7_within : GoodIn wsX7_lose (va_wsS RX7 85 yX7_within wsX7_within) := goodIn_app (goodIn_of _ (by decide +kernel)) ggX7_lose_X7_within
set_option maxRecDepth 20000 in
theorem ggX7_lose_X7_found : GoodIn wsX7_lose wsX7_found := goodIn_r _ [11, 12, 13, 14, 15, 16, 17, 18, 19, 20, 21, 22, 23, 24, 25, 26, 27] (by decide +kernel) (by decide +kernel)
set_option maxRecDepth 20000 in
theorem gX7_lose_X7_found : GoodIn wsX7_lose (wsV RX7 129 RX7 yX7_found wsX7_found) := goodIn_app (goodIn_of _ (by decide +kernel)) ggX7_lose_X7_found
theorem dX7_lose_0 : decode cX7_lose 0 = .ok (.iload_n 1, 1) := by decide +kernel
theorem dX7_lose_1 : decode cX7_lose 1 = .ok (.iconst 0, 1) := by decide +kernel
theorem dX7_lose_2 : decode cX7_lose 2 = .ok (.iconst 3, 1) := by decide +kernel
theorem dX7_lose_3 : decode cX7_lose 3 = .ok (.invokestatic 85, 3) := by decide +kernel
theorem dX7_lose_6 : decode cX7_lose 6 = .ok (.ifCond .ne 6, 3) := by decide +kernel
theorem dX7_lose_9 : decode cX7_lose 9 = .ok (.bipush (-2), 2) := by decide +kernel
theorem dX7_lose_11 : decode cX7_lose 11 = .ok (.ireturn, 1) := by decide +kernel
theorem dX7_lose_12 : decode cX7_lose 12 = .ok (.aload_n 0, 1) := by decide +kernel
theorem dX7_lose_13 : decode cX7_lose 13 = .ok (.getfield 59, 3) := by decide +kernel
theorem dX7_lose_16 : decode cX7_lose 16 = .ok (.iload_n 1, 1) := by decide +kernel
theorem dX7_lose_17 : decode cX7_lose 17 = .ok (.aaload, 1) := by decide +kernel
theorem dX7_lose_18 : decode cX7_lose 18 = .ok (.getfield 126, 3) := by decide +kernel
theorem dX7_lose_21 : decode cX7_lose 21 = .ok (.ifCond .eq 9, 3) := by decide +kernel
theorem dX7_lose_24 : decode cX7_lose 24 = .ok (.aload_n 0, 1) := by decide +kernel
theorem dX7_lose_25 : decode cX7_lose 25 = .ok (.iconst 1, 1) := by decide +kernel
theorem dX7_lose_26 : decode cX7_lose 26 = .ok (.invokevirtual 129, 3) := by decide +kernel
theorem dX7_lose_29 : decode cX7_lose 29 = .ok (.ireturn, 1) := by decide +kernel
theorem dX7_lose_30 : decode cX7_lose 30 = .ok (.aload_n 0, 1) := by decide +kernel
theorem dX7_lose_31 : decode cX7_lose 31 = .ok (.getfield 59, 3) := by decide +kernel
theorem dX7_lose_34 : decode cX7_lose 34 = .ok (.iload_n 1, 1) := by decide +kernel
theorem dX7_lose_35 : decode cX7_lose 35 = .ok (.aaload, 1) := by decide +kernel
theorem dX7_lose_36 : decode cX7_lose 36 = .ok (.iconst 1, 1) := by decide +kernel
theorem dX7_lose_37 : decode cX7_lose 37 = .ok (.putfield 126, 3) := by decide +kernel
theorem dX7_lose_40 : decode cX7_lose 40 = .ok (.aload_n 0, 1) := by decide +kernel
theorem dX7_lose_41 : decode cX7_lose 41 = .ok (.getfield 59, 3) := by decide +kernel
theorem dX7_lose_44 : decode cX7_lose 44 = .ok (.iload_n 1, 1) := by decide +kernel
theorem dX7_lose_45 : decode cX7_lose 45 = .ok (.aaload, 1) := by decide +kernel
theorem dX7_lose_46 : decode cX7_lose 46 = .ok (.getfield 136, 3) := by decide +kernel
theorem dX7_lose_49 : decode cX7_lose 49 = .ok (.ireturn, 1) := by decide +kernel
set_option maxRecDepth 20000 in
theorem ggX7_lay_X7_within : GoodIn wsX7_lay wsX7_within := goodIn_r _ [5] (by decide +kernel) (by decide +kernel)
set_option maxRecDepth 20000 in
theorem gX7_lay_X7_within : GoodIn wsX7_lay (va_wsS RX7 85 yX7_within wsX7_within) := goodIn_app (goodIn_of _ (by decide +kernel)) ggX7_lay_X7_within
set_option maxRecDepth 20000 in
theorem ggX7_lay_X4_flaw : GoodIn wsX7_lay wsX4_flaw := goodIn_r _ [10, 11, 12, 13, 39, 40, 41, 42] (by decide +kernel) (by decide +kernel)
set_option maxRecDepth 20000 in
theorem gX7_lay_X4_flaw : GoodIn wsX7_lay (wsV RX7 262 RX4 yX4_flaw wsX4_flaw) := goodIn_app (goodIn_of _ (by decide +kernel)) ggX7_lay_X4_flaw
set_option maxRecDepth 20000 in
theorem ggX7_lay_X7_found : GoodIn wsX7_lay wsX7_found := goodIn_r _ [17, 18, 24, 25, 26, 27, 28, 29, 30, 31, 32, 33, 34, 35, 36, 37, 38] (by decide +kernel) (by decide +kernel)
set_option maxRecDepth 20000 in
theorem gX7_lay_X7_found : GoodIn wsX7_lay (wsV RX7 129 RX7 yX7_found wsX7_found) := goodIn_app (goodIn_of _ (by decide +kernel)) ggX7_lay_X7_found
set_option maxRecDepth 20000 in
theorem ggX7_lay_X4_put : GoodIn wsX7_lay wsX4_put := goodIn_r _ [22, 12, 23, 39, 40, 41, 42] (by decide +kernel) (by decide +kernel)
set_option maxRecDepth 20000 in
theorem gX7_lay_X4_put : GoodIn wsX7_lay (wsV RX7 265 RX4 yX4_put wsX4_put) := goodIn_app (goodIn_of _ (by decide +kernel)) ggX7_lay_X4_put
theorem dX7_lay_0 : decode cX7_lay 0 = .ok (.iload_n 1, 1) := by decide +kernel
theorem dX7_lay_1 : decode cX7_lay 1 = .ok (.iconst 0, 1) := by decide +kernel
theorem dX7_lay_2 : decode cX7_lay 2 = .ok (.iconst 3, 1) := by decide +kernel
theorem dX7_lay_3 : decode cX7_lay 3 = .ok (.invokestatic 85, 3) := by decide +kernel
theorem dX7_lay_6 : decode cX7_lay 6 = .ok (.ifCond .eq 12, 3) := by decide +kernel
theorem dX7_lay_9 : decode cX7_lay 9 = .ok (.iload_n 2, 1) := by decide +kernel
theorem dX7_lay_10 : decode cX7_lay 10 = .ok (.iconst 0, 1) := by decide +kernel
theorem dX7_lay_11 : decode cX7_lay 11 = .ok (.iconst 2, 1) := by decide +kernel
theorem dX7_lay_12 : decode cX7_lay 12 = .ok (.invokestatic 85, 3) := by decide +kernel
theorem dX7_lay_15 : decode cX7_lay 15 = .ok (.ifCond .ne 6, 3) := by decide +kernel
theorem dX7_lay_18 : decode cX7_lay 18 = .ok (.bipush (-2), 2) := by decide +kernel
theorem dX7_lay_20 : decode cX7_lay 20 = .ok (.ireturn, 1) := by decide +kernel
theorem dX7_lay_21 : decode cX7_lay 21 = .ok (.aload_n 0, 1) := by decide +kernel
theorem dX7_lay_22 : decode cX7_lay 22 = .ok (.getfield 59, 3) := by decide +kernel
theorem dX7_lay_25 : decode cX7_lay 25 = .ok (.iload_n 1, 1) := by decide +kernel
theorem dX7_lay_26 : decode cX7_lay 26 = .ok (.aaload, 1) := by decide +kernel
theorem dX7_lay_27 : decode cX7_lay 27 = .ok (.iload_n 2, 1) := by decide +kernel
theorem dX7_lay_28 : decode cX7_lay 28 = .ok (.iload_n 3, 1) := by decide +kernel
theorem dX7_lay_29 : decode cX7_lay 29 = .ok (.invokevirtual 262, 3) := by decide +kernel
theorem dX7_lay_32 : decode cX7_lay 32 = .ok (.istore 5, 2) := by decide +kernel
theorem dX7_lay_34 : decode cX7_lay 34 = .ok (.iload 5, 2) := by decide +kernel
theorem dX7_lay_36 : decode cX7_lay 36 = .ok (.ifCond .eq 10, 3) := by decide +kernel
theorem dX7_lay_39 : decode cX7_lay 39 = .ok (.aload_n 0, 1) := by decide +kernel
theorem dX7_lay_40 : decode cX7_lay 40 = .ok (.iload 5, 2) := by decide +kernel
theorem dX7_lay_42 : decode cX7_lay 42 = .ok (.invokevirtual 129, 3) := by decide +kernel
theorem dX7_lay_45 : decode cX7_lay 45 = .ok (.ireturn, 1) := by decide +kernel
theorem dX7_lay_46 : decode cX7_lay 46 = .ok (.aload_n 0, 1) := by decide +kernel
theorem dX7_lay_47 : decode cX7_lay 47 = .ok (.getfield 59, 3) := by decide +kernel
theorem dX7_lay_50 : decode cX7_lay 50 = .ok (.iload_n 1, 1) := by decide +kernel
theorem dX7_lay_51 : decode cX7_lay 51 = .ok (.aaload, 1) := by decide +kernel
theorem dX7_lay_52 : decode cX7_lay 52 = .ok (.iload_n 3, 1) := by decide +kernel
theorem dX7_lay_53 : decode cX7_lay 53 = .ok (.iload 4, 2) := by decide +kernel
theorem dX7_lay_55 : decode cX7_lay 55 = .ok (.invokevirtual 265, 3) := by decide +kernel
theorem dX7_lay_58 : decode cX7_lay 58 = .ok (.iconst 1, 1) := by decide +kernel
theorem dX7_lay_59 : decode cX7_lay 59 = .ok (.ireturn, 1) := by decide +kernel
set_option maxRecDepth 20000 in
theorem ggX7_get_X7_within : GoodIn wsX7_get wsX7_within := goodIn_r _ [8] (by decide +kernel) (by decide +kernel)
set_option maxRecDepth 20000 in
theorem gX7_get_X7_within : GoodIn wsX7_get (va_wsS RX7 85 yX7_within wsX7_within) := goodIn_app (goodIn_of _ (by decide +kernel)) ggX7_get_X7_within
set_option maxRecDepth 20000 in
theorem ggX7_get_X4_flaw : GoodIn wsX7_get wsX4_flaw := goodIn_r _ [13, 14, 15, 16, 32, 33, 34, 35] (by decide +kernel) (by decide +kernel)
set_option maxRecDepth 20000 in
theorem gX7_get_X4_flaw : GoodIn wsX7_get (wsV RX7 262 RX4 yX4_flaw wsX4_flaw) := goodIn_app (goodIn_of _ (by decide +kernel)) ggX7_get_X4_flaw
theorem dX7_get_0 : decode cX7_get 0 = .ok (.iload_n 1, 1) := by decide +kernel
theorem dX7_get_1 : decode cX7_get 1 = .ok (.iconst 0, 1) := by decide +kernel
theorem dX7_get_2 : decode cX7_get 2 = .ok (.iconst 3, 1) := by decide +kernel
theorem dX7_get_3 : decode cX7_get 3 = .ok (.invokestatic 85, 3) := by decide +kernel
theorem dX7_get_6 : decode cX7_get 6 = .ok (.ifCond .eq 12, 3) := by decide +kernel
theorem dX7_get_9 : decode cX7_get 9 = .ok (.iload_n 2, 1) := by decide +kernel
theorem dX7_get_10 : decode cX7_get 10 = .ok (.iconst 0, 1) := by decide +kernel
theorem dX7_get_11 : decode cX7_get 11 = .ok (.iconst 2, 1) := by decide +kernel
theorem dX7_get_12 : decode cX7_get 12 = .ok (.invokestatic 85, 3) := by decide +kernel
theorem dX7_get_15 : decode cX7_get 15 = .ok (.ifCond .ne 6, 3) := by decide +kernel
theorem dX7_get_18 : decode cX7_get 18 = .ok (.ldc 144, 2) := by decide +kernel
theorem dX7_get_20 : decode cX7_get 20 = .ok (.ireturn, 1) := by decide +kernel
theorem dX7_get_21 : decode cX7_get 21 = .ok (.aload_n 0, 1) := by decide +kernel
theorem dX7_get_22 : decode cX7_get 22 = .ok (.getfield 59, 3) := by decide +kernel
theorem dX7_get_25 : decode cX7_get 25 = .ok (.iload_n 1, 1) := by decide +kernel
theorem dX7_get_26 : decode cX7_get 26 = .ok (.aaload, 1) := by decide +kernel
theorem dX7_get_27 : decode cX7_get 27 = .ok (.iload_n 2, 1) := by decide +kernel
theorem dX7_get_28 : decode cX7_get 28 = .ok (.iload_n 3, 1) := by decide +kernel
theorem dX7_get_29 : decode cX7_get 29 = .ok (.invokevirtual 262, 3) := by decide +kernel
theorem dX7_get_32 : decode cX7_get 32 = .ok (.istore 4, 2) := by decide +kernel
theorem dX7_get_34 : decode cX7_get 34 = .ok (.iload 4, 2) := by decide +kernel
theorem dX7_get_36 : decode cX7_get 36 = .ok (.ifCond .eq 12, 3) := by decide +kernel
theorem dX7_get_39 : decode cX7_get 39 = .ok (.aload_n 0, 1) := by decide +kernel
theorem dX7_get_40 : decode cX7_get 40 = .ok (.iload 4, 2) := by decide +kernel
theorem dX7_get_42 : decode cX7_get 42 = .ok (.putfield 74, 3) := by decide +kernel
theorem dX7_get_45 : decode cX7_get 45 = .ok (.ldc 144, 2) := by decide +kernel
theorem dX7_get_47 : decode cX7_get 47 = .ok (.ireturn, 1) := by decide +kernel
theorem dX7_get_48 : decode cX7_get 48 = .ok (.aload_n 0, 1) := by decide +kernel
theorem dX7_get_49 : decode cX7_get 49 = .ok (.getfield 59, 3) := by decide +kernel
theorem dX7_get_52 : decode cX7_get 52 = .ok (.iload_n 1, 1) := by decide +kernel
theorem dX7_get_53 : decode cX7_get 53 = .ok (.aaload, 1) := by decide +kernel
theorem dX7_get_54 : decode cX7_get 54 = .ok (.getfield 133, 3) := by decide +kernel
theorem dX7_get_57 : decode cX7_get 57 = .ok (.iload_n 3, 1) := by decide +kernel
theorem dX7_get_58 : decode cX7_get 58 = .ok (.iaload, 1) := by decide +kernel
theorem dX7_get_59 : decode cX7_get 59 = .ok (.ireturn, 1) := by decide +kernel
set_option maxRecDepth 20000 in
theorem ggX7_copy_X7_within : GoodIn wsX7_copy wsX7_within := goodIn_r _ [12] (by decide +kernel) (by decide +kernel)
set_option maxRecDepth 20000 in
theorem gX7_copy_X7_within : GoodIn wsX7_copy (va_wsS RX7 85 yX7_within wsX7_within) := goodIn_app (goodIn_of _ (by decide +kernel)) ggX7_copy_X7_within
set_option maxRecDepth 20000 in
theorem ggX7_copy_X7_found : GoodIn wsX7_copy wsX7_found := goodIn_r _ [16, 17, 24, 25, 26, 27, 28, 29, 30, 31, 32, 33, 34, 35, 36, 37, 38] (by decide +kernel) (by decide +kernel)
set_option maxRecDepth 20000 in
theorem gX7_copy_X7_found : GoodIn wsX7_copy (wsV RX7 129 RX7 yX7_found wsX7_found) := goodIn_app (goodIn_of _ (by decide +kernel)) ggX7_copy_X7_found
set_option maxRecDepth 20000 in
theorem ggX7_copy_X4_hasSpan : GoodIn wsX7_copy wsX4_hasSpan := goodIn_r _ [22, 23, 39, 40, 41, 42] (by decide +kernel) (by decide +kernel)
set_option maxRecDepth 20000 in
theorem gX7_copy_X4_hasSpan : GoodIn wsX7_copy (wsV RX7 271 RX4 yX4_hasSpan wsX4_hasSpan) := goodIn_app (goodIn_of _ (by decide +kernel)) ggX7_copy_X4_hasSpan
theorem dX7_copy_0 : decode cX7_copy 0 = .ok (.iload_n 1, 1) := by decide +kernel
theorem dX7_copy_1 : decode cX7_copy 1 = .ok (.iconst 0, 1) := by decide +kernel
theorem dX7_copy_2 : decode cX7_copy 2 = .ok (.iconst 3, 1) := by decide +kernel
theorem dX7_copy_3 : decode cX7_copy 3 = .ok (.invokestatic 85, 3) := by decide +kernel
theorem dX7_copy_6 : decode cX7_copy 6 = .ok (.ifCond .eq 12, 3) := by decide +kernel
theorem dX7_copy_9 : decode cX7_copy 9 = .ok (.iload_n 3, 1) := by decide +kernel
theorem dX7_copy_10 : decode cX7_copy 10 = .ok (.iconst 0, 1) := by decide +kernel
theorem dX7_copy_11 : decode cX7_copy 11 = .ok (.iconst 3, 1) := by decide +kernel
theorem dX7_copy_12 : decode cX7_copy 12 = .ok (.invokestatic 85, 3) := by decide +kernel
theorem dX7_copy_15 : decode cX7_copy 15 = .ok (.ifCond .ne 6, 3) := by decide +kernel
theorem dX7_copy_18 : decode cX7_copy 18 = .ok (.bipush (-2), 2) := by decide +kernel
theorem dX7_copy_20 : decode cX7_copy 20 = .ok (.ireturn, 1) := by decide +kernel
theorem dX7_copy_21 : decode cX7_copy 21 = .ok (.aload_n 0, 1) := by decide +kernel
theorem dX7_copy_22 : decode cX7_copy 22 = .ok (.getfield 59, 3) := by decide +kernel
theorem dX7_copy_25 : decode cX7_copy 25 = .ok (.iload_n 1, 1) := by decide +kernel
theorem dX7_copy_26 : decode cX7_copy 26 = .ok (.aaload, 1) := by decide +kernel
theorem dX7_copy_27 : decode cX7_copy 27 = .ok (.astore 6, 2) := by decide +kernel
theorem dX7_copy_29 : decode cX7_copy 29 = .ok (.aload_n 0, 1) := by decide +kernel
theorem dX7_copy_30 : decode cX7_copy 30 = .ok (.getfield 59, 3) := by decide +kernel
theorem dX7_copy_33 : decode cX7_copy 33 = .ok (.iload_n 3, 1) := by decide +kernel
theorem dX7_copy_34 : decode cX7_copy 34 = .ok (.aaload, 1) := by decide +kernel
theorem dX7_copy_35 : decode cX7_copy 35 = .ok (.astore 7, 2) := by decide +kernel
theorem dX7_copy_37 : decode cX7_copy 37 = .ok (.aload 6, 2) := by decide +kernel
theorem dX7_copy_39 : decode cX7_copy 39 = .ok (.getfield 126, 3) := by decide +kernel
theorem dX7_copy_42 : decode cX7_copy 42 = .ok (.ifCond .ne 11, 3) := by decide +kernel
theorem dX7_copy_45 : decode cX7_copy 45 = .ok (.aload 7, 2) := by decide +kernel
theorem dX7_copy_47 : decode cX7_copy 47 = .ok (.getfield 126, 3) := by decide +kernel
theorem dX7_copy_50 : decode cX7_copy 50 = .ok (.ifCond .eq 9, 3) := by decide +kernel
theorem dX7_copy_53 : decode cX7_copy 53 = .ok (.aload_n 0, 1) := by decide +kernel
theorem dX7_copy_54 : decode cX7_copy 54 = .ok (.iconst 1, 1) := by decide +kernel
theorem dX7_copy_55 : decode cX7_copy 55 = .ok (.invokevirtual 129, 3) := by decide +kernel
theorem dX7_copy_58 : decode cX7_copy 58 = .ok (.ireturn, 1) := by decide +kernel
theorem dX7_copy_59 : decode cX7_copy 59 = .ok (.aload 6, 2) := by decide +kernel
theorem dX7_copy_61 : decode cX7_copy 61 = .ok (.getfield 268, 3) := by decide +kernel
theorem dX7_copy_64 : decode cX7_copy 64 = .ok (.aload 7, 2) := by decide +kernel
theorem dX7_copy_66 : decode cX7_copy 66 = .ok (.getfield 268, 3) := by decide +kernel
theorem dX7_copy_69 : decode cX7_copy 69 = .ok (.if_icmp .eq 9, 3) := by decide +kernel
theorem dX7_copy_72 : decode cX7_copy 72 = .ok (.aload_n 0, 1) := by decide +kernel
theorem dX7_copy_73 : decode cX7_copy 73 = .ok (.iconst 4, 1) := by decide +kernel
theorem dX7_copy_74 : decode cX7_copy 74 = .ok (.invokevirtual 129, 3) := by decide +kernel
theorem dX7_copy_77 : decode cX7_copy 77 = .ok (.ireturn, 1) := by decide +kernel
theorem dX7_copy_78 : decode cX7_copy 78 = .ok (.aload 6, 2) := by decide +kernel
theorem dX7_copy_80 : decode cX7_copy 80 = .ok (.iload_n 2, 1) := by decide +kernel
theorem dX7_copy_81 : decode cX7_copy 81 = .ok (.iload 5, 2) := by decide +kernel
theorem dX7_copy_83 : decode cX7_copy 83 = .ok (.invokevirtual 271, 3) := by decide +kernel
theorem dX7_copy_86 : decode cX7_copy 86 = .ok (.ifCond .eq 15, 3) := by decide +kernel
theorem dX7_copy_89 : decode cX7_copy 89 = .ok (.aload 7, 2) := by decide +kernel
theorem dX7_copy_91 : decode cX7_copy 91 = .ok (.iload 4, 2) := by decide +kernel
theorem dX7_copy_93 : decode cX7_copy 93 = .ok (.iload 5, 2) := by decide +kernel
theorem dX7_copy_95 : decode cX7_copy 95 = .ok (.invokevirtual 271, 3) := by decide +kernel
theorem dX7_copy_98 : decode cX7_copy 98 = .ok (.ifCond .ne 9, 3) := by decide +kernel
theorem dX7_copy_101 : decode cX7_copy 101 = .ok (.aload_n 0, 1) := by decide +kernel
theorem dX7_copy_102 : decode cX7_copy 102 = .ok (.iconst 2, 1) := by decide +kernel
theorem dX7_copy_103 : decode cX7_copy 103 = .ok (.invokevirtual 129, 3) := by decide +kernel
