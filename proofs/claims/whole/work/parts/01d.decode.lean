theorem dX0_init_0 : decode cX0_init 0 = .ok (.aload_n 0, 1) := by decide +kernel
theorem dX0_init_1 : decode cX0_init 1 = .ok (.invokespecial 3, 3) := by decide +kernel
theorem dX0_init_4 : decode cX0_init 4 = .ok (.return_, 1) := by decide +kernel
theorem dX0_clear_0 : decode cX0_clear 0 = .ok (.aload_n 0, 1) := by decide +kernel
theorem dX0_clear_1 : decode cX0_clear 1 = .ok (.iconst (-1), 1) := by decide +kernel
theorem dX0_clear_2 : decode cX0_clear 2 = .ok (.putfield 9, 3) := by decide +kernel
theorem dX0_clear_5 : decode cX0_clear 5 = .ok (.return_, 1) := by decide +kernel
theorem dX0_offer_0 : decode cX0_offer 0 = .ok (.aload_n 0, 1) := by decide +kernel
theorem dX0_offer_1 : decode cX0_offer 1 = .ok (.getfield 9, 3) := by decide +kernel
theorem dX0_offer_4 : decode cX0_offer 4 = .ok (.iconst (-1), 1) := by decide +kernel
theorem dX0_offer_5 : decode cX0_offer 5 = .ok (.if_icmp .eq 27, 3) := by decide +kernel
theorem dX0_offer_8 : decode cX0_offer 8 = .ok (.iload_n 2, 1) := by decide +kernel
theorem dX0_offer_9 : decode cX0_offer 9 = .ok (.aload_n 0, 1) := by decide +kernel
theorem dX0_offer_10 : decode cX0_offer 10 = .ok (.getfield 15, 3) := by decide +kernel
theorem dX0_offer_13 : decode cX0_offer 13 = .ok (.if_icmp .lt 19, 3) := by decide +kernel
theorem dX0_offer_16 : decode cX0_offer 16 = .ok (.iload_n 2, 1) := by decide +kernel
theorem dX0_offer_17 : decode cX0_offer 17 = .ok (.aload_n 0, 1) := by decide +kernel
theorem dX0_offer_18 : decode cX0_offer 18 = .ok (.getfield 15, 3) := by decide +kernel
theorem dX0_offer_21 : decode cX0_offer 21 = .ok (.if_icmp .ne 26, 3) := by decide +kernel
theorem dX0_offer_24 : decode cX0_offer 24 = .ok (.iload_n 3, 1) := by decide +kernel
theorem dX0_offer_25 : decode cX0_offer 25 = .ok (.aload_n 0, 1) := by decide +kernel
theorem dX0_offer_26 : decode cX0_offer 26 = .ok (.getfield 18, 3) := by decide +kernel
theorem dX0_offer_29 : decode cX0_offer 29 = .ok (.if_icmp .ge 18, 3) := by decide +kernel
theorem dX0_offer_32 : decode cX0_offer 32 = .ok (.aload_n 0, 1) := by decide +kernel
theorem dX0_offer_33 : decode cX0_offer 33 = .ok (.iload_n 1, 1) := by decide +kernel
theorem dX0_offer_34 : decode cX0_offer 34 = .ok (.putfield 9, 3) := by decide +kernel
theorem dX0_offer_37 : decode cX0_offer 37 = .ok (.aload_n 0, 1) := by decide +kernel
theorem dX0_offer_38 : decode cX0_offer 38 = .ok (.iload_n 2, 1) := by decide +kernel
theorem dX0_offer_39 : decode cX0_offer 39 = .ok (.putfield 15, 3) := by decide +kernel
theorem dX0_offer_42 : decode cX0_offer 42 = .ok (.aload_n 0, 1) := by decide +kernel
theorem dX0_offer_43 : decode cX0_offer 43 = .ok (.iload_n 3, 1) := by decide +kernel
theorem dX0_offer_44 : decode cX0_offer 44 = .ok (.putfield 18, 3) := by decide +kernel
theorem dX0_offer_47 : decode cX0_offer 47 = .ok (.return_, 1) := by decide +kernel
theorem dX0_part_0 : decode cX0_part 0 = .ok (.iload_n 1, 1) := by decide +kernel
theorem dX0_part_1 : decode cX0_part 1 = .ok (.ifCond .ne 8, 3) := by decide +kernel
theorem dX0_part_4 : decode cX0_part 4 = .ok (.aload_n 0, 1) := by decide +kernel
theorem dX0_part_5 : decode cX0_part 5 = .ok (.getfield 9, 3) := by decide +kernel
theorem dX0_part_8 : decode cX0_part 8 = .ok (.ireturn, 1) := by decide +kernel
theorem dX0_part_9 : decode cX0_part 9 = .ok (.iload_n 1, 1) := by decide +kernel
theorem dX0_part_10 : decode cX0_part 10 = .ok (.iconst 1, 1) := by decide +kernel
theorem dX0_part_11 : decode cX0_part 11 = .ok (.if_icmp .ne 10, 3) := by decide +kernel
theorem dX0_part_14 : decode cX0_part 14 = .ok (.aload_n 0, 1) := by decide +kernel
theorem dX0_part_15 : decode cX0_part 15 = .ok (.getfield 15, 3) := by decide +kernel
theorem dX0_part_18 : decode cX0_part 18 = .ok (.goto 7, 3) := by decide +kernel
theorem dX0_part_21 : decode cX0_part 21 = .ok (.aload_n 0, 1) := by decide +kernel
theorem dX0_part_22 : decode cX0_part 22 = .ok (.getfield 18, 3) := by decide +kernel
theorem dX0_part_25 : decode cX0_part 25 = .ok (.ireturn, 1) := by decide +kernel
theorem dX1_init_0 : decode cX1_init 0 = .ok (.aload_n 0, 1) := by decide +kernel
theorem dX1_init_1 : decode cX1_init 1 = .ok (.invokespecial 3, 3) := by decide +kernel
theorem dX1_init_4 : decode cX1_init 4 = .ok (.aload_n 0, 1) := by decide +kernel
theorem dX1_init_5 : decode cX1_init 5 = .ok (.iconst 0, 1) := by decide +kernel
theorem dX1_init_6 : decode cX1_init 6 = .ok (.putfield 9, 3) := by decide +kernel
theorem dX1_init_9 : decode cX1_init 9 = .ok (.aload_n 0, 1) := by decide +kernel
theorem dX1_init_10 : decode cX1_init 10 = .ok (.bipush 8, 2) := by decide +kernel
theorem dX1_init_12 : decode cX1_init 12 = .ok (.newarray .int, 2) := by decide +kernel
theorem dX1_init_14 : decode cX1_init 14 = .ok (.putfield 15, 3) := by decide +kernel
theorem dX1_init_17 : decode cX1_init 17 = .ok (.aload_n 0, 1) := by decide +kernel
theorem dX1_init_18 : decode cX1_init 18 = .ok (.bipush 8, 2) := by decide +kernel
theorem dX1_init_20 : decode cX1_init 20 = .ok (.newarray .int, 2) := by decide +kernel
theorem dX1_init_22 : decode cX1_init 22 = .ok (.putfield 19, 3) := by decide +kernel
theorem dX1_init_25 : decode cX1_init 25 = .ok (.aload_n 0, 1) := by decide +kernel
theorem dX1_init_26 : decode cX1_init 26 = .ok (.bipush 8, 2) := by decide +kernel
theorem dX1_init_28 : decode cX1_init 28 = .ok (.newarray .int, 2) := by decide +kernel
theorem dX1_init_30 : decode cX1_init 30 = .ok (.putfield 22, 3) := by decide +kernel
theorem dX1_init_33 : decode cX1_init 33 = .ok (.aload_n 0, 1) := by decide +kernel
theorem dX1_init_34 : decode cX1_init 34 = .ok (.sipush 192, 3) := by decide +kernel
theorem dX1_init_37 : decode cX1_init 37 = .ok (.newarray .int, 2) := by decide +kernel
theorem dX1_init_39 : decode cX1_init 39 = .ok (.putfield 25, 3) := by decide +kernel
theorem dX1_init_42 : decode cX1_init 42 = .ok (.aload_n 0, 1) := by decide +kernel
theorem dX1_init_43 : decode cX1_init 43 = .ok (.sipush 192, 3) := by decide +kernel
theorem dX1_init_46 : decode cX1_init 46 = .ok (.newarray .int, 2) := by decide +kernel
theorem dX1_init_48 : decode cX1_init 48 = .ok (.putfield 28, 3) := by decide +kernel
theorem dX1_init_51 : decode cX1_init 51 = .ok (.aload_n 0, 1) := by decide +kernel
theorem dX1_init_52 : decode cX1_init 52 = .ok (.bipush 24, 2) := by decide +kernel
theorem dX1_init_54 : decode cX1_init 54 = .ok (.newarray .int, 2) := by decide +kernel
theorem dX1_init_56 : decode cX1_init 56 = .ok (.putfield 31, 3) := by decide +kernel
theorem dX1_init_59 : decode cX1_init 59 = .ok (.aload_n 0, 1) := by decide +kernel
theorem dX1_init_60 : decode cX1_init 60 = .ok (.bipush 8, 2) := by decide +kernel
theorem dX1_init_62 : decode cX1_init 62 = .ok (.newarray .int, 2) := by decide +kernel
theorem dX1_init_64 : decode cX1_init 64 = .ok (.putfield 34, 3) := by decide +kernel
theorem dX1_init_67 : decode cX1_init 67 = .ok (.aload_n 0, 1) := by decide +kernel
theorem dX1_init_68 : decode cX1_init 68 = .ok (.bipush 8, 2) := by decide +kernel
theorem dX1_init_70 : decode cX1_init 70 = .ok (.newarray .int, 2) := by decide +kernel
theorem dX1_init_72 : decode cX1_init 72 = .ok (.putfield 37, 3) := by decide +kernel
theorem dX1_init_75 : decode cX1_init 75 = .ok (.aload_n 0, 1) := by decide +kernel
theorem dX1_init_76 : decode cX1_init 76 = .ok (.bipush 8, 2) := by decide +kernel
theorem dX1_init_78 : decode cX1_init 78 = .ok (.newarray .int, 2) := by decide +kernel
theorem dX1_init_80 : decode cX1_init 80 = .ok (.putfield 40, 3) := by decide +kernel
theorem dX1_init_83 : decode cX1_init 83 = .ok (.aload_n 0, 1) := by decide +kernel
theorem dX1_init_84 : decode cX1_init 84 = .ok (.bipush 8, 2) := by decide +kernel
theorem dX1_init_86 : decode cX1_init 86 = .ok (.newarray .int, 2) := by decide +kernel
theorem dX1_init_88 : decode cX1_init 88 = .ok (.putfield 43, 3) := by decide +kernel
theorem dX1_init_91 : decode cX1_init 91 = .ok (.aload_n 0, 1) := by decide +kernel
theorem dX1_init_92 : decode cX1_init 92 = .ok (.bipush 13, 2) := by decide +kernel
theorem dX1_init_94 : decode cX1_init 94 = .ok (.newarray .int, 2) := by decide +kernel
theorem dX1_init_96 : decode cX1_init 96 = .ok (.putfield 46, 3) := by decide +kernel
theorem dX1_init_99 : decode cX1_init 99 = .ok (.return_, 1) := by decide +kernel
theorem dX1_run_0 : decode cX1_run 0 = .ok (.aload_n 0, 1) := by decide +kernel
theorem dX1_run_1 : decode cX1_run 1 = .ok (.aload_n 1, 1) := by decide +kernel
theorem dX1_run_2 : decode cX1_run 2 = .ok (.invokevirtual 49, 3) := by decide +kernel
theorem dX1_run_5 : decode cX1_run 5 = .ok (.iconst 0, 1) := by decide +kernel
theorem dX1_run_6 : decode cX1_run 6 = .ok (.istore 5, 2) := by decide +kernel
theorem dX1_run_8 : decode cX1_run 8 = .ok (.iload 5, 2) := by decide +kernel
theorem dX1_run_10 : decode cX1_run 10 = .ok (.bipush 24, 2) := by decide +kernel
theorem dX1_run_12 : decode cX1_run 12 = .ok (.if_icmp .ge 121, 3) := by decide +kernel
theorem dX1_run_15 : decode cX1_run 15 = .ok (.aload_n 0, 1) := by decide +kernel
theorem dX1_run_16 : decode cX1_run 16 = .ok (.aload_n 2, 1) := by decide +kernel
theorem dX1_run_17 : decode cX1_run 17 = .ok (.iload_n 3, 1) := by decide +kernel
theorem dX1_run_18 : decode cX1_run 18 = .ok (.iload 5, 2) := by decide +kernel
theorem dX1_run_20 : decode cX1_run 20 = .ok (.invokevirtual 53, 3) := by decide +kernel
theorem dX1_run_23 : decode cX1_run 23 = .ok (.istore 6, 2) := by decide +kernel
theorem dX1_run_25 : decode cX1_run 25 = .ok (.iconst 0, 1) := by decide +kernel
theorem dX1_run_26 : decode cX1_run 26 = .ok (.istore 7, 2) := by decide +kernel
theorem dX1_run_28 : decode cX1_run 28 = .ok (.iload 7, 2) := by decide +kernel
theorem dX1_run_30 : decode cX1_run 30 = .ok (.aload_n 0, 1) := by decide +kernel
theorem dX1_run_31 : decode cX1_run 31 = .ok (.getfield 9, 3) := by decide +kernel
theorem dX1_run_34 : decode cX1_run 34 = .ok (.if_icmp .ge 69, 3) := by decide +kernel
theorem dX1_run_37 : decode cX1_run 37 = .ok (.aload_n 0, 1) := by decide +kernel
theorem dX1_run_38 : decode cX1_run 38 = .ok (.getfield 37, 3) := by decide +kernel
theorem dX1_run_41 : decode cX1_run 41 = .ok (.iload 7, 2) := by decide +kernel
theorem dX1_run_43 : decode cX1_run 43 = .ok (.aload_n 0, 1) := by decide +kernel
theorem dX1_run_44 : decode cX1_run 44 = .ok (.getfield 34, 3) := by decide +kernel
theorem dX1_run_47 : decode cX1_run 47 = .ok (.iload 7, 2) := by decide +kernel
theorem dX1_run_49 : decode cX1_run 49 = .ok (.iaload, 1) := by decide +kernel
theorem dX1_run_50 : decode cX1_run 50 = .ok (.iastore, 1) := by decide +kernel
theorem dX1_run_51 : decode cX1_run 51 = .ok (.aload_n 0, 1) := by decide +kernel
theorem dX1_run_52 : decode cX1_run 52 = .ok (.getfield 34, 3) := by decide +kernel
theorem dX1_run_55 : decode cX1_run 55 = .ok (.iload 7, 2) := by decide +kernel
theorem dX1_run_57 : decode cX1_run 57 = .ok (.iaload, 1) := by decide +kernel
theorem dX1_run_58 : decode cX1_run 58 = .ok (.iconst (-1), 1) := by decide +kernel
theorem dX1_run_59 : decode cX1_run 59 = .ok (.if_icmp .eq 38, 3) := by decide +kernel
theorem dX1_run_62 : decode cX1_run 62 = .ok (.aload_n 0, 1) := by decide +kernel
theorem dX1_run_63 : decode cX1_run 63 = .ok (.iload 7, 2) := by decide +kernel
theorem dX1_run_65 : decode cX1_run 65 = .ok (.aload_n 1, 1) := by decide +kernel
theorem dX1_run_66 : decode cX1_run 66 = .ok (.getfield 57, 3) := by decide +kernel
theorem dX1_run_69 : decode cX1_run 69 = .ok (.iload 7, 2) := by decide +kernel
theorem dX1_run_71 : decode cX1_run 71 = .ok (.iaload, 1) := by decide +kernel
theorem dX1_run_72 : decode cX1_run 72 = .ok (.aload_n 1, 1) := by decide +kernel
theorem dX1_run_73 : decode cX1_run 73 = .ok (.getfield 62, 3) := by decide +kernel
theorem dX1_run_76 : decode cX1_run 76 = .ok (.iload 7, 2) := by decide +kernel
theorem dX1_run_78 : decode cX1_run 78 = .ok (.iaload, 1) := by decide +kernel
theorem dX1_run_79 : decode cX1_run 79 = .ok (.invokevirtual 65, 3) := by decide +kernel
theorem dX1_run_82 : decode cX1_run 82 = .ok (.aload_n 0, 1) := by decide +kernel
theorem dX1_run_83 : decode cX1_run 83 = .ok (.iload 7, 2) := by decide +kernel
theorem dX1_run_85 : decode cX1_run 85 = .ok (.aload_n 1, 1) := by decide +kernel
theorem dX1_run_86 : decode cX1_run 86 = .ok (.getfield 57, 3) := by decide +kernel
theorem dX1_run_89 : decode cX1_run 89 = .ok (.iload 7, 2) := by decide +kernel
theorem dX1_run_91 : decode cX1_run 91 = .ok (.iaload, 1) := by decide +kernel
theorem dX1_run_92 : decode cX1_run 92 = .ok (.iload 5, 2) := by decide +kernel
theorem dX1_run_94 : decode cX1_run 94 = .ok (.invokevirtual 69, 3) := by decide +kernel
theorem dX1_run_97 : decode cX1_run 97 = .ok (.iinc 7 1, 3) := by decide +kernel
theorem dX1_run_100 : decode cX1_run 100 = .ok (.goto (-72), 3) := by decide +kernel
theorem dX1_run_103 : decode cX1_run 103 = .ok (.aload_n 0, 1) := by decide +kernel
theorem dX1_run_104 : decode cX1_run 104 = .ok (.invokevirtual 72, 3) := by decide +kernel
theorem dX1_run_107 : decode cX1_run 107 = .ok (.aload_n 0, 1) := by decide +kernel
theorem dX1_run_108 : decode cX1_run 108 = .ok (.iload 4, 2) := by decide +kernel
theorem dX1_run_110 : decode cX1_run 110 = .ok (.iload 6, 2) := by decide +kernel
theorem dX1_run_112 : decode cX1_run 112 = .ok (.invokevirtual 75, 3) := by decide +kernel
theorem dX1_run_115 : decode cX1_run 115 = .ok (.aload_n 0, 1) := by decide +kernel
theorem dX1_run_116 : decode cX1_run 116 = .ok (.iload 5, 2) := by decide +kernel
theorem dX1_run_118 : decode cX1_run 118 = .ok (.invokevirtual 79, 3) := by decide +kernel
theorem dX1_run_121 : decode cX1_run 121 = .ok (.aload_n 0, 1) := by decide +kernel
theorem dX1_run_122 : decode cX1_run 122 = .ok (.iload 5, 2) := by decide +kernel
theorem dX1_run_124 : decode cX1_run 124 = .ok (.invokevirtual 83, 3) := by decide +kernel
theorem dX1_run_127 : decode cX1_run 127 = .ok (.iinc 5 1, 3) := by decide +kernel
theorem dX1_run_130 : decode cX1_run 130 = .ok (.goto (-122), 3) := by decide +kernel
theorem dX1_run_133 : decode cX1_run 133 = .ok (.return_, 1) := by decide +kernel
theorem dX1_begin_0 : decode cX1_begin 0 = .ok (.aload_n 0, 1) := by decide +kernel
theorem dX1_begin_1 : decode cX1_begin 1 = .ok (.aload_n 1, 1) := by decide +kernel
theorem dX1_begin_2 : decode cX1_begin 2 = .ok (.getfield 86, 3) := by decide +kernel
theorem dX1_begin_5 : decode cX1_begin 5 = .ok (.putfield 9, 3) := by decide +kernel
theorem dX1_begin_8 : decode cX1_begin 8 = .ok (.iconst 0, 1) := by decide +kernel
theorem dX1_begin_9 : decode cX1_begin 9 = .ok (.istore_n 2, 1) := by decide +kernel
theorem dX1_begin_10 : decode cX1_begin 10 = .ok (.iload_n 2, 1) := by decide +kernel
theorem dX1_begin_11 : decode cX1_begin 11 = .ok (.aload_n 0, 1) := by decide +kernel
theorem dX1_begin_12 : decode cX1_begin 12 = .ok (.getfield 9, 3) := by decide +kernel
theorem dX1_begin_15 : decode cX1_begin 15 = .ok (.if_icmp .ge 58, 3) := by decide +kernel
theorem dX1_begin_18 : decode cX1_begin 18 = .ok (.aload_n 0, 1) := by decide +kernel
theorem dX1_begin_19 : decode cX1_begin 19 = .ok (.getfield 15, 3) := by decide +kernel
theorem dX1_begin_22 : decode cX1_begin 22 = .ok (.iload_n 2, 1) := by decide +kernel
theorem dX1_begin_23 : decode cX1_begin 23 = .ok (.iconst (-1), 1) := by decide +kernel
theorem dX1_begin_24 : decode cX1_begin 24 = .ok (.iastore, 1) := by decide +kernel
theorem dX1_begin_25 : decode cX1_begin 25 = .ok (.aload_n 0, 1) := by decide +kernel
theorem dX1_begin_26 : decode cX1_begin 26 = .ok (.getfield 19, 3) := by decide +kernel
theorem dX1_begin_29 : decode cX1_begin 29 = .ok (.iload_n 2, 1) := by decide +kernel
theorem dX1_begin_30 : decode cX1_begin 30 = .ok (.iconst 0, 1) := by decide +kernel
theorem dX1_begin_31 : decode cX1_begin 31 = .ok (.iastore, 1) := by decide +kernel
theorem dX1_begin_32 : decode cX1_begin 32 = .ok (.aload_n 0, 1) := by decide +kernel
theorem dX1_begin_33 : decode cX1_begin 33 = .ok (.getfield 22, 3) := by decide +kernel
theorem dX1_begin_36 : decode cX1_begin 36 = .ok (.iload_n 2, 1) := by decide +kernel
theorem dX1_begin_37 : decode cX1_begin 37 = .ok (.iconst 0, 1) := by decide +kernel
theorem dX1_begin_38 : decode cX1_begin 38 = .ok (.iastore, 1) := by decide +kernel
theorem dX1_begin_39 : decode cX1_begin 39 = .ok (.aload_n 0, 1) := by decide +kernel
theorem dX1_begin_40 : decode cX1_begin 40 = .ok (.getfield 34, 3) := by decide +kernel
theorem dX1_begin_43 : decode cX1_begin 43 = .ok (.iload_n 2, 1) := by decide +kernel
theorem dX1_begin_44 : decode cX1_begin 44 = .ok (.iconst 0, 1) := by decide +kernel
theorem dX1_begin_45 : decode cX1_begin 45 = .ok (.iastore, 1) := by decide +kernel
theorem dX1_begin_46 : decode cX1_begin 46 = .ok (.aload_n 0, 1) := by decide +kernel
theorem dX1_begin_47 : decode cX1_begin 47 = .ok (.getfield 40, 3) := by decide +kernel
theorem dX1_begin_50 : decode cX1_begin 50 = .ok (.iload_n 2, 1) := by decide +kernel
theorem dX1_begin_51 : decode cX1_begin 51 = .ok (.iconst 3, 1) := by decide +kernel
theorem dX1_begin_52 : decode cX1_begin 52 = .ok (.aload_n 1, 1) := by decide +kernel
theorem dX1_begin_53 : decode cX1_begin 53 = .ok (.getfield 87, 3) := by decide +kernel
theorem dX1_begin_56 : decode cX1_begin 56 = .ok (.iload_n 2, 1) := by decide +kernel
theorem dX1_begin_57 : decode cX1_begin 57 = .ok (.iaload, 1) := by decide +kernel
theorem dX1_begin_58 : decode cX1_begin 58 = .ok (.imul, 1) := by decide +kernel
theorem dX1_begin_59 : decode cX1_begin 59 = .ok (.iastore, 1) := by decide +kernel
theorem dX1_begin_60 : decode cX1_begin 60 = .ok (.aload_n 0, 1) := by decide +kernel
theorem dX1_begin_61 : decode cX1_begin 61 = .ok (.getfield 43, 3) := by decide +kernel
theorem dX1_begin_64 : decode cX1_begin 64 = .ok (.iload_n 2, 1) := by decide +kernel
theorem dX1_begin_65 : decode cX1_begin 65 = .ok (.iload_n 2, 1) := by decide +kernel
theorem dX1_begin_66 : decode cX1_begin 66 = .ok (.iastore, 1) := by decide +kernel
theorem dX1_begin_67 : decode cX1_begin 67 = .ok (.iinc 2 1, 3) := by decide +kernel
theorem dX1_begin_70 : decode cX1_begin 70 = .ok (.goto (-60), 3) := by decide +kernel
theorem dX1_begin_73 : decode cX1_begin 73 = .ok (.return_, 1) := by decide +kernel
theorem dX1_meetEvents_0 : decode cX1_meetEvents 0 = .ok (.iconst 0, 1) := by decide +kernel
theorem dX1_meetEvents_1 : decode cX1_meetEvents 1 = .ok (.istore 4, 2) := by decide +kernel
theorem dX1_meetEvents_3 : decode cX1_meetEvents 3 = .ok (.iconst 0, 1) := by decide +kernel
theorem dX1_meetEvents_4 : decode cX1_meetEvents 4 = .ok (.istore 5, 2) := by decide +kernel
theorem dX1_meetEvents_6 : decode cX1_meetEvents 6 = .ok (.iload 5, 2) := by decide +kernel
theorem dX1_meetEvents_8 : decode cX1_meetEvents 8 = .ok (.aload_n 1, 1) := by decide +kernel
theorem dX1_meetEvents_9 : decode cX1_meetEvents 9 = .ok (.getfield 90, 3) := by decide +kernel
theorem dX1_meetEvents_12 : decode cX1_meetEvents 12 = .ok (.if_icmp .ge 102, 3) := by decide +kernel
theorem dX1_meetEvents_15 : decode cX1_meetEvents 15 = .ok (.aload_n 1, 1) := by decide +kernel
theorem dX1_meetEvents_16 : decode cX1_meetEvents 16 = .ok (.getfield 93, 3) := by decide +kernel
theorem dX1_meetEvents_19 : decode cX1_meetEvents 19 = .ok (.iload 5, 2) := by decide +kernel
theorem dX1_meetEvents_21 : decode cX1_meetEvents 21 = .ok (.iaload, 1) := by decide +kernel
theorem dX1_meetEvents_22 : decode cX1_meetEvents 22 = .ok (.iload_n 3, 1) := by decide +kernel
theorem dX1_meetEvents_23 : decode cX1_meetEvents 23 = .ok (.if_icmp .ne 85, 3) := by decide +kernel
theorem dX1_meetEvents_26 : decode cX1_meetEvents 26 = .ok (.iload_n 2, 1) := by decide +kernel
theorem dX1_meetEvents_27 : decode cX1_meetEvents 27 = .ok (.iload 5, 2) := by decide +kernel
theorem dX1_meetEvents_29 : decode cX1_meetEvents 29 = .ok (.ishr, 1) := by decide +kernel
theorem dX1_meetEvents_30 : decode cX1_meetEvents 30 = .ok (.iconst 1, 1) := by decide +kernel
theorem dX1_meetEvents_31 : decode cX1_meetEvents 31 = .ok (.iand, 1) := by decide +kernel
theorem dX1_meetEvents_32 : decode cX1_meetEvents 32 = .ok (.ifCond .eq 76, 3) := by decide +kernel
theorem dX1_meetEvents_35 : decode cX1_meetEvents 35 = .ok (.aload_n 1, 1) := by decide +kernel
theorem dX1_meetEvents_36 : decode cX1_meetEvents 36 = .ok (.getfield 96, 3) := by decide +kernel
theorem dX1_meetEvents_39 : decode cX1_meetEvents 39 = .ok (.iload 5, 2) := by decide +kernel
theorem dX1_meetEvents_41 : decode cX1_meetEvents 41 = .ok (.iaload, 1) := by decide +kernel
theorem dX1_meetEvents_42 : decode cX1_meetEvents 42 = .ok (.istore 6, 2) := by decide +kernel
theorem dX1_meetEvents_44 : decode cX1_meetEvents 44 = .ok (.aload_n 1, 1) := by decide +kernel
theorem dX1_meetEvents_45 : decode cX1_meetEvents 45 = .ok (.getfield 99, 3) := by decide +kernel
theorem dX1_meetEvents_48 : decode cX1_meetEvents 48 = .ok (.iload 5, 2) := by decide +kernel
theorem dX1_meetEvents_50 : decode cX1_meetEvents 50 = .ok (.iaload, 1) := by decide +kernel
theorem dX1_meetEvents_51 : decode cX1_meetEvents 51 = .ok (.iconst 2, 1) := by decide +kernel
theorem dX1_meetEvents_52 : decode cX1_meetEvents 52 = .ok (.if_icmp .ne 9, 3) := by decide +kernel
theorem dX1_meetEvents_55 : decode cX1_meetEvents 55 = .ok (.iconst 1, 1) := by decide +kernel
theorem dX1_meetEvents_56 : decode cX1_meetEvents 56 = .ok (.istore 4, 2) := by decide +kernel
theorem dX1_meetEvents_58 : decode cX1_meetEvents 58 = .ok (.goto 50, 3) := by decide +kernel
theorem dX1_meetEvents_61 : decode cX1_meetEvents 61 = .ok (.iload 6, 2) := by decide +kernel
theorem dX1_meetEvents_63 : decode cX1_meetEvents 63 = .ok (.aload_n 0, 1) := by decide +kernel
theorem dX1_meetEvents_64 : decode cX1_meetEvents 64 = .ok (.getfield 9, 3) := by decide +kernel
theorem dX1_meetEvents_67 : decode cX1_meetEvents 67 = .ok (.if_icmp .ge 41, 3) := by decide +kernel
theorem dX1_meetEvents_70 : decode cX1_meetEvents 70 = .ok (.aload_n 0, 1) := by decide +kernel
theorem dX1_meetEvents_71 : decode cX1_meetEvents 71 = .ok (.getfield 34, 3) := by decide +kernel
theorem dX1_meetEvents_74 : decode cX1_meetEvents 74 = .ok (.iload 6, 2) := by decide +kernel
theorem dX1_meetEvents_76 : decode cX1_meetEvents 76 = .ok (.iaload, 1) := by decide +kernel
theorem dX1_meetEvents_77 : decode cX1_meetEvents 77 = .ok (.iconst (-1), 1) := by decide +kernel
theorem dX1_meetEvents_78 : decode cX1_meetEvents 78 = .ok (.if_icmp .eq 30, 3) := by decide +kernel
theorem dX1_meetEvents_81 : decode cX1_meetEvents 81 = .ok (.aload_n 0, 1) := by decide +kernel
theorem dX1_meetEvents_82 : decode cX1_meetEvents 82 = .ok (.getfield 40, 3) := by decide +kernel
theorem dX1_meetEvents_85 : decode cX1_meetEvents 85 = .ok (.iload 6, 2) := by decide +kernel
theorem dX1_meetEvents_87 : decode cX1_meetEvents 87 = .ok (.dup2, 1) := by decide +kernel
theorem dX1_meetEvents_88 : decode cX1_meetEvents 88 = .ok (.iaload, 1) := by decide +kernel
theorem dX1_meetEvents_89 : decode cX1_meetEvents 89 = .ok (.aload_n 1, 1) := by decide +kernel
theorem dX1_meetEvents_90 : decode cX1_meetEvents 90 = .ok (.getfield 99, 3) := by decide +kernel
theorem dX1_meetEvents_93 : decode cX1_meetEvents 93 = .ok (.iload 5, 2) := by decide +kernel
theorem dX1_meetEvents_95 : decode cX1_meetEvents 95 = .ok (.iaload, 1) := by decide +kernel
theorem dX1_meetEvents_96 : decode cX1_meetEvents 96 = .ok (.iconst 1, 1) := by decide +kernel
theorem dX1_meetEvents_97 : decode cX1_meetEvents 97 = .ok (.if_icmp .ne 7, 3) := by decide +kernel
theorem dX1_meetEvents_100 : decode cX1_meetEvents 100 = .ok (.iconst 3, 1) := by decide +kernel
theorem dX1_meetEvents_101 : decode cX1_meetEvents 101 = .ok (.goto 5, 3) := by decide +kernel
theorem dX1_meetEvents_104 : decode cX1_meetEvents 104 = .ok (.bipush (-4), 2) := by decide +kernel
theorem dX1_meetEvents_106 : decode cX1_meetEvents 106 = .ok (.iadd, 1) := by decide +kernel
theorem dX1_meetEvents_107 : decode cX1_meetEvents 107 = .ok (.iastore, 1) := by decide +kernel
theorem dX1_meetEvents_108 : decode cX1_meetEvents 108 = .ok (.iinc 5 1, 3) := by decide +kernel
theorem dX1_meetEvents_111 : decode cX1_meetEvents 111 = .ok (.goto (-105), 3) := by decide +kernel
theorem dX1_meetEvents_114 : decode cX1_meetEvents 114 = .ok (.iload 4, 2) := by decide +kernel
theorem dX1_meetEvents_116 : decode cX1_meetEvents 116 = .ok (.ireturn, 1) := by decide +kernel
theorem dX1_pay_0 : decode cX1_pay 0 = .ok (.aload_n 0, 1) := by decide +kernel
theorem dX1_pay_1 : decode cX1_pay 1 = .ok (.getfield 34, 3) := by decide +kernel
theorem dX1_pay_4 : decode cX1_pay 4 = .ok (.iload_n 1, 1) := by decide +kernel
theorem dX1_pay_5 : decode cX1_pay 5 = .ok (.iaload, 1) := by decide +kernel
theorem dX1_pay_6 : decode cX1_pay 6 = .ok (.iconst 2, 1) := by decide +kernel
theorem dX1_pay_7 : decode cX1_pay 7 = .ok (.idiv, 1) := by decide +kernel
theorem dX1_pay_8 : decode cX1_pay 8 = .ok (.iconst 1, 1) := by decide +kernel
theorem dX1_pay_9 : decode cX1_pay 9 = .ok (.iadd, 1) := by decide +kernel
theorem dX1_pay_10 : decode cX1_pay 10 = .ok (.istore 4, 2) := by decide +kernel
theorem dX1_pay_12 : decode cX1_pay 12 = .ok (.iload_n 2, 1) := by decide +kernel
theorem dX1_pay_13 : decode cX1_pay 13 = .ok (.iconst 1, 1) := by decide +kernel
theorem dX1_pay_14 : decode cX1_pay 14 = .ok (.if_icmp .ne 9, 3) := by decide +kernel
theorem dX1_pay_17 : decode cX1_pay 17 = .ok (.iinc 4 (-1), 3) := by decide +kernel
theorem dX1_pay_20 : decode cX1_pay 20 = .ok (.goto 11, 3) := by decide +kernel
theorem dX1_pay_23 : decode cX1_pay 23 = .ok (.iload_n 2, 1) := by decide +kernel
theorem dX1_pay_24 : decode cX1_pay 24 = .ok (.iconst 2, 1) := by decide +kernel
theorem dX1_pay_25 : decode cX1_pay 25 = .ok (.if_icmp .ne 6, 3) := by decide +kernel
theorem dX1_pay_28 : decode cX1_pay 28 = .ok (.iconst 0, 1) := by decide +kernel
theorem dX1_pay_29 : decode cX1_pay 29 = .ok (.istore 4, 2) := by decide +kernel
theorem dX1_pay_31 : decode cX1_pay 31 = .ok (.aload_n 0, 1) := by decide +kernel
theorem dX1_pay_32 : decode cX1_pay 32 = .ok (.getfield 40, 3) := by decide +kernel
theorem dX1_pay_35 : decode cX1_pay 35 = .ok (.iload_n 1, 1) := by decide +kernel
theorem dX1_pay_36 : decode cX1_pay 36 = .ok (.bipush 60, 2) := by decide +kernel
theorem dX1_pay_38 : decode cX1_pay 38 = .ok (.aload_n 0, 1) := by decide +kernel
theorem dX1_pay_39 : decode cX1_pay 39 = .ok (.getfield 40, 3) := by decide +kernel
theorem dX1_pay_42 : decode cX1_pay 42 = .ok (.iload_n 1, 1) := by decide +kernel
theorem dX1_pay_43 : decode cX1_pay 43 = .ok (.iaload, 1) := by decide +kernel
theorem dX1_pay_44 : decode cX1_pay 44 = .ok (.iload_n 2, 1) := by decide +kernel
theorem dX1_pay_45 : decode cX1_pay 45 = .ok (.iconst 2, 1) := by decide +kernel
theorem dX1_pay_46 : decode cX1_pay 46 = .ok (.if_icmp .ne 9, 3) := by decide +kernel
theorem dX1_pay_49 : decode cX1_pay 49 = .ok (.iload_n 3, 1) := by decide +kernel
theorem dX1_pay_50 : decode cX1_pay 50 = .ok (.iconst 2, 1) := by decide +kernel
theorem dX1_pay_51 : decode cX1_pay 51 = .ok (.idiv, 1) := by decide +kernel
theorem dX1_pay_52 : decode cX1_pay 52 = .ok (.goto 4, 3) := by decide +kernel
theorem dX1_pay_55 : decode cX1_pay 55 = .ok (.iload_n 3, 1) := by decide +kernel
theorem dX1_pay_56 : decode cX1_pay 56 = .ok (.iadd, 1) := by decide +kernel
theorem dX1_pay_57 : decode cX1_pay 57 = .ok (.iload 4, 2) := by decide +kernel
theorem dX1_pay_59 : decode cX1_pay 59 = .ok (.isub, 1) := by decide +kernel
theorem dX1_pay_60 : decode cX1_pay 60 = .ok (.invokestatic 102, 3) := by decide +kernel
theorem dX1_pay_63 : decode cX1_pay 63 = .ok (.iastore, 1) := by decide +kernel
theorem dX1_pay_64 : decode cX1_pay 64 = .ok (.return_, 1) := by decide +kernel
theorem dX1_settle_0 : decode cX1_settle 0 = .ok (.aload_n 0, 1) := by decide +kernel
theorem dX1_settle_1 : decode cX1_settle 1 = .ok (.getfield 40, 3) := by decide +kernel
theorem dX1_settle_4 : decode cX1_settle 4 = .ok (.iload_n 1, 1) := by decide +kernel
theorem dX1_settle_5 : decode cX1_settle 5 = .ok (.iaload, 1) := by decide +kernel
theorem dX1_settle_6 : decode cX1_settle 6 = .ok (.iload_n 2, 1) := by decide +kernel
theorem dX1_settle_7 : decode cX1_settle 7 = .ok (.iconst 3, 1) := by decide +kernel
theorem dX1_settle_8 : decode cX1_settle 8 = .ok (.if_icmp .ne 8, 3) := by decide +kernel
theorem dX1_settle_11 : decode cX1_settle 11 = .ok (.bipush (-6), 2) := by decide +kernel
theorem dX1_settle_13 : decode cX1_settle 13 = .ok (.goto 4, 3) := by decide +kernel
theorem dX1_settle_16 : decode cX1_settle 16 = .ok (.iconst 0, 1) := by decide +kernel
theorem dX1_settle_17 : decode cX1_settle 17 = .ok (.if_icmp .ge 17, 3) := by decide +kernel
theorem dX1_settle_20 : decode cX1_settle 20 = .ok (.aload_n 0, 1) := by decide +kernel
theorem dX1_settle_21 : decode cX1_settle 21 = .ok (.getfield 15, 3) := by decide +kernel
theorem dX1_settle_24 : decode cX1_settle 24 = .ok (.iload_n 1, 1) := by decide +kernel
theorem dX1_settle_25 : decode cX1_settle 25 = .ok (.iload_n 3, 1) := by decide +kernel
theorem dX1_settle_26 : decode cX1_settle 26 = .ok (.iastore, 1) := by decide +kernel
theorem dX1_settle_27 : decode cX1_settle 27 = .ok (.aload_n 0, 1) := by decide +kernel
theorem dX1_settle_28 : decode cX1_settle 28 = .ok (.getfield 34, 3) := by decide +kernel
theorem dX1_settle_31 : decode cX1_settle 31 = .ok (.iload_n 1, 1) := by decide +kernel
theorem dX1_settle_32 : decode cX1_settle 32 = .ok (.iconst (-1), 1) := by decide +kernel
theorem dX1_settle_33 : decode cX1_settle 33 = .ok (.iastore, 1) := by decide +kernel
theorem dX1_settle_34 : decode cX1_settle 34 = .ok (.return_, 1) := by decide +kernel
theorem dX1_sortByLeft_0 : decode cX1_sortByLeft 0 = .ok (.iconst 1, 1) := by decide +kernel
theorem dX1_sortByLeft_1 : decode cX1_sortByLeft 1 = .ok (.istore_n 1, 1) := by decide +kernel
theorem dX1_sortByLeft_2 : decode cX1_sortByLeft 2 = .ok (.iload_n 1, 1) := by decide +kernel
theorem dX1_sortByLeft_3 : decode cX1_sortByLeft 3 = .ok (.aload_n 0, 1) := by decide +kernel
theorem dX1_sortByLeft_4 : decode cX1_sortByLeft 4 = .ok (.getfield 9, 3) := by decide +kernel
theorem dX1_sortByLeft_7 : decode cX1_sortByLeft 7 = .ok (.if_icmp .ge 65, 3) := by decide +kernel
theorem dX1_sortByLeft_10 : decode cX1_sortByLeft 10 = .ok (.aload_n 0, 1) := by decide +kernel
theorem dX1_sortByLeft_11 : decode cX1_sortByLeft 11 = .ok (.getfield 43, 3) := by decide +kernel
theorem dX1_sortByLeft_14 : decode cX1_sortByLeft 14 = .ok (.iload_n 1, 1) := by decide +kernel
theorem dX1_sortByLeft_15 : decode cX1_sortByLeft 15 = .ok (.iaload, 1) := by decide +kernel
theorem dX1_sortByLeft_16 : decode cX1_sortByLeft 16 = .ok (.istore_n 2, 1) := by decide +kernel
theorem dX1_sortByLeft_17 : decode cX1_sortByLeft 17 = .ok (.iload_n 1, 1) := by decide +kernel
theorem dX1_sortByLeft_18 : decode cX1_sortByLeft 18 = .ok (.istore_n 3, 1) := by decide +kernel
theorem dX1_sortByLeft_19 : decode cX1_sortByLeft 19 = .ok (.iload_n 3, 1) := by decide +kernel
theorem dX1_sortByLeft_20 : decode cX1_sortByLeft 20 = .ok (.ifCond .le 39, 3) := by decide +kernel
theorem dX1_sortByLeft_23 : decode cX1_sortByLeft 23 = .ok (.aload_n 0, 1) := by decide +kernel
theorem dX1_sortByLeft_24 : decode cX1_sortByLeft 24 = .ok (.iload_n 2, 1) := by decide +kernel
theorem dX1_sortByLeft_25 : decode cX1_sortByLeft 25 = .ok (.aload_n 0, 1) := by decide +kernel
theorem dX1_sortByLeft_26 : decode cX1_sortByLeft 26 = .ok (.getfield 43, 3) := by decide +kernel
theorem dX1_sortByLeft_29 : decode cX1_sortByLeft 29 = .ok (.iload_n 3, 1) := by decide +kernel
theorem dX1_sortByLeft_30 : decode cX1_sortByLeft 30 = .ok (.iconst 1, 1) := by decide +kernel
theorem dX1_sortByLeft_31 : decode cX1_sortByLeft 31 = .ok (.isub, 1) := by decide +kernel
theorem dX1_sortByLeft_32 : decode cX1_sortByLeft 32 = .ok (.iaload, 1) := by decide +kernel
theorem dX1_sortByLeft_33 : decode cX1_sortByLeft 33 = .ok (.invokevirtual 108, 3) := by decide +kernel
theorem dX1_sortByLeft_36 : decode cX1_sortByLeft 36 = .ok (.ifCond .eq 23, 3) := by decide +kernel
theorem dX1_sortByLeft_39 : decode cX1_sortByLeft 39 = .ok (.aload_n 0, 1) := by decide +kernel
theorem dX1_sortByLeft_40 : decode cX1_sortByLeft 40 = .ok (.getfield 43, 3) := by decide +kernel
theorem dX1_sortByLeft_43 : decode cX1_sortByLeft 43 = .ok (.iload_n 3, 1) := by decide +kernel
theorem dX1_sortByLeft_44 : decode cX1_sortByLeft 44 = .ok (.aload_n 0, 1) := by decide +kernel
theorem dX1_sortByLeft_45 : decode cX1_sortByLeft 45 = .ok (.getfield 43, 3) := by decide +kernel
theorem dX1_sortByLeft_48 : decode cX1_sortByLeft 48 = .ok (.iload_n 3, 1) := by decide +kernel
theorem dX1_sortByLeft_49 : decode cX1_sortByLeft 49 = .ok (.iconst 1, 1) := by decide +kernel
theorem dX1_sortByLeft_50 : decode cX1_sortByLeft 50 = .ok (.isub, 1) := by decide +kernel
theorem dX1_sortByLeft_51 : decode cX1_sortByLeft 51 = .ok (.iaload, 1) := by decide +kernel
theorem dX1_sortByLeft_52 : decode cX1_sortByLeft 52 = .ok (.iastore, 1) := by decide +kernel
theorem dX1_sortByLeft_53 : decode cX1_sortByLeft 53 = .ok (.iinc 3 (-1), 3) := by decide +kernel
theorem dX1_sortByLeft_56 : decode cX1_sortByLeft 56 = .ok (.goto (-37), 3) := by decide +kernel
theorem dX1_sortByLeft_59 : decode cX1_sortByLeft 59 = .ok (.aload_n 0, 1) := by decide +kernel
theorem dX1_sortByLeft_60 : decode cX1_sortByLeft 60 = .ok (.getfield 43, 3) := by decide +kernel
theorem dX1_sortByLeft_63 : decode cX1_sortByLeft 63 = .ok (.iload_n 3, 1) := by decide +kernel
theorem dX1_sortByLeft_64 : decode cX1_sortByLeft 64 = .ok (.iload_n 2, 1) := by decide +kernel
theorem dX1_sortByLeft_65 : decode cX1_sortByLeft 65 = .ok (.iastore, 1) := by decide +kernel
theorem dX1_sortByLeft_66 : decode cX1_sortByLeft 66 = .ok (.iinc 1 1, 3) := by decide +kernel
theorem dX1_sortByLeft_69 : decode cX1_sortByLeft 69 = .ok (.goto (-67), 3) := by decide +kernel
theorem dX1_sortByLeft_72 : decode cX1_sortByLeft 72 = .ok (.return_, 1) := by decide +kernel
theorem dX1_isAhead_0 : decode cX1_isAhead 0 = .ok (.aload_n 0, 1) := by decide +kernel
theorem dX1_isAhead_1 : decode cX1_isAhead 1 = .ok (.getfield 40, 3) := by decide +kernel
theorem dX1_isAhead_4 : decode cX1_isAhead 4 = .ok (.iload_n 1, 1) := by decide +kernel
theorem dX1_isAhead_5 : decode cX1_isAhead 5 = .ok (.iaload, 1) := by decide +kernel
theorem dX1_isAhead_6 : decode cX1_isAhead 6 = .ok (.aload_n 0, 1) := by decide +kernel
theorem dX1_isAhead_7 : decode cX1_isAhead 7 = .ok (.getfield 40, 3) := by decide +kernel
theorem dX1_isAhead_10 : decode cX1_isAhead 10 = .ok (.iload_n 2, 1) := by decide +kernel
theorem dX1_isAhead_11 : decode cX1_isAhead 11 = .ok (.iaload, 1) := by decide +kernel
theorem dX1_isAhead_12 : decode cX1_isAhead 12 = .ok (.if_icmp .gt 23, 3) := by decide +kernel
theorem dX1_isAhead_15 : decode cX1_isAhead 15 = .ok (.aload_n 0, 1) := by decide +kernel
theorem dX1_isAhead_16 : decode cX1_isAhead 16 = .ok (.getfield 40, 3) := by decide +kernel
theorem dX1_isAhead_19 : decode cX1_isAhead 19 = .ok (.iload_n 1, 1) := by decide +kernel
theorem dX1_isAhead_20 : decode cX1_isAhead 20 = .ok (.iaload, 1) := by decide +kernel
theorem dX1_isAhead_21 : decode cX1_isAhead 21 = .ok (.aload_n 0, 1) := by decide +kernel
theorem dX1_isAhead_22 : decode cX1_isAhead 22 = .ok (.getfield 40, 3) := by decide +kernel
theorem dX1_isAhead_25 : decode cX1_isAhead 25 = .ok (.iload_n 2, 1) := by decide +kernel
theorem dX1_isAhead_26 : decode cX1_isAhead 26 = .ok (.iaload, 1) := by decide +kernel
theorem dX1_isAhead_27 : decode cX1_isAhead 27 = .ok (.if_icmp .ne 12, 3) := by decide +kernel
theorem dX1_isAhead_30 : decode cX1_isAhead 30 = .ok (.iload_n 1, 1) := by decide +kernel
theorem dX1_isAhead_31 : decode cX1_isAhead 31 = .ok (.iload_n 2, 1) := by decide +kernel
theorem dX1_isAhead_32 : decode cX1_isAhead 32 = .ok (.if_icmp .ge 7, 3) := by decide +kernel
theorem dX1_isAhead_35 : decode cX1_isAhead 35 = .ok (.iconst 1, 1) := by decide +kernel
theorem dX1_isAhead_36 : decode cX1_isAhead 36 = .ok (.goto 4, 3) := by decide +kernel
theorem dX1_isAhead_39 : decode cX1_isAhead 39 = .ok (.iconst 0, 1) := by decide +kernel
theorem dX1_isAhead_40 : decode cX1_isAhead 40 = .ok (.ireturn, 1) := by decide +kernel
theorem dX1_giveFloors_0 : decode cX1_giveFloors 0 = .ok (.aload_n 0, 1) := by decide +kernel
theorem dX1_giveFloors_1 : decode cX1_giveFloors 1 = .ok (.getfield 46, 3) := by decide +kernel
theorem dX1_giveFloors_4 : decode cX1_giveFloors 4 = .ok (.iconst 0, 1) := by decide +kernel
theorem dX1_giveFloors_5 : decode cX1_giveFloors 5 = .ok (.invokestatic 112, 3) := by decide +kernel
theorem dX1_giveFloors_8 : decode cX1_giveFloors 8 = .ok (.iconst 0, 1) := by decide +kernel
theorem dX1_giveFloors_9 : decode cX1_giveFloors 9 = .ok (.istore_n 3, 1) := by decide +kernel
theorem dX1_giveFloors_10 : decode cX1_giveFloors 10 = .ok (.iload_n 3, 1) := by decide +kernel
theorem dX1_giveFloors_11 : decode cX1_giveFloors 11 = .ok (.aload_n 0, 1) := by decide +kernel
theorem dX1_giveFloors_12 : decode cX1_giveFloors 12 = .ok (.getfield 9, 3) := by decide +kernel
theorem dX1_giveFloors_15 : decode cX1_giveFloors 15 = .ok (.if_icmp .ge 47, 3) := by decide +kernel
theorem dX1_giveFloors_18 : decode cX1_giveFloors 18 = .ok (.aload_n 0, 1) := by decide +kernel
theorem dX1_giveFloors_19 : decode cX1_giveFloors 19 = .ok (.getfield 43, 3) := by decide +kernel
theorem dX1_giveFloors_22 : decode cX1_giveFloors 22 = .ok (.iload_n 3, 1) := by decide +kernel
theorem dX1_giveFloors_23 : decode cX1_giveFloors 23 = .ok (.iaload, 1) := by decide +kernel
theorem dX1_giveFloors_24 : decode cX1_giveFloors 24 = .ok (.istore 4, 2) := by decide +kernel
theorem dX1_giveFloors_26 : decode cX1_giveFloors 26 = .ok (.aload_n 0, 1) := by decide +kernel
theorem dX1_giveFloors_27 : decode cX1_giveFloors 27 = .ok (.getfield 34, 3) := by decide +kernel
theorem dX1_giveFloors_30 : decode cX1_giveFloors 30 = .ok (.iload 4, 2) := by decide +kernel
theorem dX1_giveFloors_32 : decode cX1_giveFloors 32 = .ok (.iaload, 1) := by decide +kernel
theorem dX1_giveFloors_33 : decode cX1_giveFloors 33 = .ok (.iconst (-1), 1) := by decide +kernel
theorem dX1_giveFloors_34 : decode cX1_giveFloors 34 = .ok (.if_icmp .eq 22, 3) := by decide +kernel
theorem dX1_giveFloors_37 : decode cX1_giveFloors 37 = .ok (.aload_n 0, 1) := by decide +kernel
theorem dX1_giveFloors_38 : decode cX1_giveFloors 38 = .ok (.getfield 34, 3) := by decide +kernel
theorem dX1_giveFloors_41 : decode cX1_giveFloors 41 = .ok (.iload 4, 2) := by decide +kernel
theorem dX1_giveFloors_43 : decode cX1_giveFloors 43 = .ok (.aload_n 0, 1) := by decide +kernel
theorem dX1_giveFloors_44 : decode cX1_giveFloors 44 = .ok (.aload_n 0, 1) := by decide +kernel
theorem dX1_giveFloors_45 : decode cX1_giveFloors 45 = .ok (.iload 4, 2) := by decide +kernel
theorem dX1_giveFloors_47 : decode cX1_giveFloors 47 = .ok (.iload_n 2, 1) := by decide +kernel
theorem dX1_giveFloors_48 : decode cX1_giveFloors 48 = .ok (.invokevirtual 118, 3) := by decide +kernel
theorem dX1_giveFloors_51 : decode cX1_giveFloors 51 = .ok (.iload_n 1, 1) := by decide +kernel
theorem dX1_giveFloors_52 : decode cX1_giveFloors 52 = .ok (.invokevirtual 122, 3) := by decide +kernel
theorem dX1_giveFloors_55 : decode cX1_giveFloors 55 = .ok (.iastore, 1) := by decide +kernel
theorem dX1_giveFloors_56 : decode cX1_giveFloors 56 = .ok (.iinc 3 1, 3) := by decide +kernel
theorem dX1_giveFloors_59 : decode cX1_giveFloors 59 = .ok (.goto (-49), 3) := by decide +kernel
theorem dX1_giveFloors_62 : decode cX1_giveFloors 62 = .ok (.return_, 1) := by decide +kernel
theorem dX1_wanted_0 : decode cX1_wanted 0 = .ok (.aload_n 0, 1) := by decide +kernel
theorem dX1_wanted_1 : decode cX1_wanted 1 = .ok (.getfield 40, 3) := by decide +kernel
theorem dX1_wanted_4 : decode cX1_wanted 4 = .ok (.iload_n 1, 1) := by decide +kernel
theorem dX1_wanted_5 : decode cX1_wanted 5 = .ok (.iaload, 1) := by decide +kernel
theorem dX1_wanted_6 : decode cX1_wanted 6 = .ok (.ifCond .ge 5, 3) := by decide +kernel
theorem dX1_wanted_9 : decode cX1_wanted 9 = .ok (.iconst 0, 1) := by decide +kernel
theorem dX1_wanted_10 : decode cX1_wanted 10 = .ok (.ireturn, 1) := by decide +kernel
theorem dX1_wanted_11 : decode cX1_wanted 11 = .ok (.bipush 12, 2) := by decide +kernel
theorem dX1_wanted_13 : decode cX1_wanted 13 = .ok (.aload_n 0, 1) := by decide +kernel
theorem dX1_wanted_14 : decode cX1_wanted 14 = .ok (.getfield 40, 3) := by decide +kernel
theorem dX1_wanted_17 : decode cX1_wanted 17 = .ok (.iload_n 1, 1) := by decide +kernel
theorem dX1_wanted_18 : decode cX1_wanted 18 = .ok (.iaload, 1) := by decide +kernel
theorem dX1_wanted_19 : decode cX1_wanted 19 = .ok (.iconst 3, 1) := by decide +kernel
theorem dX1_wanted_20 : decode cX1_wanted 20 = .ok (.idiv, 1) := by decide +kernel
theorem dX1_wanted_21 : decode cX1_wanted 21 = .ok (.iload_n 2, 1) := by decide +kernel
theorem dX1_wanted_22 : decode cX1_wanted 22 = .ok (.ifCond .eq 7, 3) := by decide +kernel
theorem dX1_wanted_25 : decode cX1_wanted 25 = .ok (.iconst 0, 1) := by decide +kernel
theorem dX1_wanted_26 : decode cX1_wanted 26 = .ok (.goto 4, 3) := by decide +kernel
theorem dX1_wanted_29 : decode cX1_wanted 29 = .ok (.iconst 1, 1) := by decide +kernel
theorem dX1_wanted_30 : decode cX1_wanted 30 = .ok (.iadd, 1) := by decide +kernel
theorem dX1_wanted_31 : decode cX1_wanted 31 = .ok (.invokestatic 102, 3) := by decide +kernel
theorem dX1_wanted_34 : decode cX1_wanted 34 = .ok (.ireturn, 1) := by decide +kernel
theorem dX1_roomBelow_0 : decode cX1_roomBelow 0 = .ok (.iload_n 1, 1) := by decide +kernel
theorem dX1_roomBelow_1 : decode cX1_roomBelow 1 = .ok (.istore_n 3, 1) := by decide +kernel
theorem dX1_roomBelow_2 : decode cX1_roomBelow 2 = .ok (.iload_n 3, 1) := by decide +kernel
theorem dX1_roomBelow_3 : decode cX1_roomBelow 3 = .ok (.ifCond .le 31, 3) := by decide +kernel
theorem dX1_roomBelow_6 : decode cX1_roomBelow 6 = .ok (.aload_n 0, 1) := by decide +kernel
theorem dX1_roomBelow_7 : decode cX1_roomBelow 7 = .ok (.getfield 46, 3) := by decide +kernel
theorem dX1_roomBelow_10 : decode cX1_roomBelow 10 = .ok (.iload_n 3, 1) := by decide +kernel
theorem dX1_roomBelow_11 : decode cX1_roomBelow 11 = .ok (.iaload, 1) := by decide +kernel
theorem dX1_roomBelow_12 : decode cX1_roomBelow 12 = .ok (.iload_n 2, 1) := by decide +kernel
theorem dX1_roomBelow_13 : decode cX1_roomBelow 13 = .ok (.if_icmp .ge 15, 3) := by decide +kernel
theorem dX1_roomBelow_16 : decode cX1_roomBelow 16 = .ok (.aload_n 0, 1) := by decide +kernel
theorem dX1_roomBelow_17 : decode cX1_roomBelow 17 = .ok (.getfield 46, 3) := by decide +kernel
theorem dX1_roomBelow_20 : decode cX1_roomBelow 20 = .ok (.iload_n 3, 1) := by decide +kernel
theorem dX1_roomBelow_21 : decode cX1_roomBelow 21 = .ok (.dup2, 1) := by decide +kernel
theorem dX1_roomBelow_22 : decode cX1_roomBelow 22 = .ok (.iaload, 1) := by decide +kernel
theorem dX1_roomBelow_23 : decode cX1_roomBelow 23 = .ok (.iconst 1, 1) := by decide +kernel
theorem dX1_roomBelow_24 : decode cX1_roomBelow 24 = .ok (.iadd, 1) := by decide +kernel
theorem dX1_roomBelow_25 : decode cX1_roomBelow 25 = .ok (.iastore, 1) := by decide +kernel
theorem dX1_roomBelow_26 : decode cX1_roomBelow 26 = .ok (.iload_n 3, 1) := by decide +kernel
theorem dX1_roomBelow_27 : decode cX1_roomBelow 27 = .ok (.ireturn, 1) := by decide +kernel
theorem dX1_roomBelow_28 : decode cX1_roomBelow 28 = .ok (.iinc 3 (-1), 3) := by decide +kernel
theorem dX1_roomBelow_31 : decode cX1_roomBelow 31 = .ok (.goto (-29), 3) := by decide +kernel
theorem dX1_roomBelow_34 : decode cX1_roomBelow 34 = .ok (.iconst 0, 1) := by decide +kernel
theorem dX1_roomBelow_35 : decode cX1_roomBelow 35 = .ok (.ireturn, 1) := by decide +kernel
theorem dX1_countFalls_0 : decode cX1_countFalls 0 = .ok (.aload_n 0, 1) := by decide +kernel
theorem dX1_countFalls_1 : decode cX1_countFalls 1 = .ok (.getfield 31, 3) := by decide +kernel
theorem dX1_countFalls_4 : decode cX1_countFalls 4 = .ok (.iload_n 1, 1) := by decide +kernel
theorem dX1_countFalls_5 : decode cX1_countFalls 5 = .ok (.iconst 0, 1) := by decide +kernel
theorem dX1_countFalls_6 : decode cX1_countFalls 6 = .ok (.iastore, 1) := by decide +kernel
theorem dX1_countFalls_7 : decode cX1_countFalls 7 = .ok (.iconst 0, 1) := by decide +kernel
theorem dX1_countFalls_8 : decode cX1_countFalls 8 = .ok (.istore_n 2, 1) := by decide +kernel
theorem dX1_countFalls_9 : decode cX1_countFalls 9 = .ok (.iload_n 2, 1) := by decide +kernel
theorem dX1_countFalls_10 : decode cX1_countFalls 10 = .ok (.aload_n 0, 1) := by decide +kernel
theorem dX1_countFalls_11 : decode cX1_countFalls 11 = .ok (.getfield 9, 3) := by decide +kernel
theorem dX1_countFalls_14 : decode cX1_countFalls 14 = .ok (.if_icmp .ge 73, 3) := by decide +kernel
theorem dX1_countFalls_17 : decode cX1_countFalls 17 = .ok (.aload_n 0, 1) := by decide +kernel
theorem dX1_countFalls_18 : decode cX1_countFalls 18 = .ok (.getfield 34, 3) := by decide +kernel
theorem dX1_countFalls_21 : decode cX1_countFalls 21 = .ok (.iload_n 2, 1) := by decide +kernel
theorem dX1_countFalls_22 : decode cX1_countFalls 22 = .ok (.iaload, 1) := by decide +kernel
theorem dX1_countFalls_23 : decode cX1_countFalls 23 = .ok (.aload_n 0, 1) := by decide +kernel
theorem dX1_countFalls_24 : decode cX1_countFalls 24 = .ok (.getfield 37, 3) := by decide +kernel
theorem dX1_countFalls_27 : decode cX1_countFalls 27 = .ok (.iload_n 2, 1) := by decide +kernel
theorem dX1_countFalls_28 : decode cX1_countFalls 28 = .ok (.iaload, 1) := by decide +kernel
theorem dX1_countFalls_29 : decode cX1_countFalls 29 = .ok (.iconst 2, 1) := by decide +kernel
theorem dX1_countFalls_30 : decode cX1_countFalls 30 = .ok (.isub, 1) := by decide +kernel
theorem dX1_countFalls_31 : decode cX1_countFalls 31 = .ok (.if_icmp .gt 50, 3) := by decide +kernel
theorem dX1_countFalls_34 : decode cX1_countFalls 34 = .ok (.aload_n 0, 1) := by decide +kernel
theorem dX1_countFalls_35 : decode cX1_countFalls 35 = .ok (.getfield 31, 3) := by decide +kernel
theorem dX1_countFalls_38 : decode cX1_countFalls 38 = .ok (.iload_n 1, 1) := by decide +kernel
theorem dX1_countFalls_39 : decode cX1_countFalls 39 = .ok (.dup2, 1) := by decide +kernel
theorem dX1_countFalls_40 : decode cX1_countFalls 40 = .ok (.iaload, 1) := by decide +kernel
theorem dX1_countFalls_41 : decode cX1_countFalls 41 = .ok (.iconst 1, 1) := by decide +kernel
theorem dX1_countFalls_42 : decode cX1_countFalls 42 = .ok (.iload_n 2, 1) := by decide +kernel
theorem dX1_countFalls_43 : decode cX1_countFalls 43 = .ok (.ishl, 1) := by decide +kernel
theorem dX1_countFalls_44 : decode cX1_countFalls 44 = .ok (.ior, 1) := by decide +kernel
theorem dX1_countFalls_45 : decode cX1_countFalls 45 = .ok (.iastore, 1) := by decide +kernel
theorem dX1_countFalls_46 : decode cX1_countFalls 46 = .ok (.aload_n 0, 1) := by decide +kernel
theorem dX1_countFalls_47 : decode cX1_countFalls 47 = .ok (.getfield 19, 3) := by decide +kernel
theorem dX1_countFalls_50 : decode cX1_countFalls 50 = .ok (.iload_n 2, 1) := by decide +kernel
theorem dX1_countFalls_51 : decode cX1_countFalls 51 = .ok (.dup2, 1) := by decide +kernel
theorem dX1_countFalls_52 : decode cX1_countFalls 52 = .ok (.iaload, 1) := by decide +kernel
theorem dX1_countFalls_53 : decode cX1_countFalls 53 = .ok (.iconst 1, 1) := by decide +kernel
theorem dX1_countFalls_54 : decode cX1_countFalls 54 = .ok (.iadd, 1) := by decide +kernel
theorem dX1_countFalls_55 : decode cX1_countFalls 55 = .ok (.iastore, 1) := by decide +kernel
theorem dX1_countFalls_56 : decode cX1_countFalls 56 = .ok (.aload_n 0, 1) := by decide +kernel
theorem dX1_countFalls_57 : decode cX1_countFalls 57 = .ok (.getfield 22, 3) := by decide +kernel
theorem dX1_countFalls_60 : decode cX1_countFalls 60 = .ok (.iload_n 2, 1) := by decide +kernel
theorem dX1_countFalls_61 : decode cX1_countFalls 61 = .ok (.dup2, 1) := by decide +kernel
theorem dX1_countFalls_62 : decode cX1_countFalls 62 = .ok (.iaload, 1) := by decide +kernel
theorem dX1_countFalls_63 : decode cX1_countFalls 63 = .ok (.aload_n 0, 1) := by decide +kernel
theorem dX1_countFalls_64 : decode cX1_countFalls 64 = .ok (.aload_n 0, 1) := by decide +kernel
theorem dX1_countFalls_65 : decode cX1_countFalls 65 = .ok (.getfield 34, 3) := by decide +kernel
theorem dX1_countFalls_68 : decode cX1_countFalls 68 = .ok (.iload_n 2, 1) := by decide +kernel
theorem dX1_countFalls_69 : decode cX1_countFalls 69 = .ok (.iaload, 1) := by decide +kernel
theorem dX1_countFalls_70 : decode cX1_countFalls 70 = .ok (.aload_n 0, 1) := by decide +kernel
theorem dX1_countFalls_71 : decode cX1_countFalls 71 = .ok (.getfield 37, 3) := by decide +kernel
theorem dX1_countFalls_74 : decode cX1_countFalls 74 = .ok (.iload_n 2, 1) := by decide +kernel
theorem dX1_countFalls_75 : decode cX1_countFalls 75 = .ok (.iaload, 1) := by decide +kernel
theorem dX1_countFalls_76 : decode cX1_countFalls 76 = .ok (.invokevirtual 125, 3) := by decide +kernel
theorem dX1_countFalls_79 : decode cX1_countFalls 79 = .ok (.iadd, 1) := by decide +kernel
theorem dX1_countFalls_80 : decode cX1_countFalls 80 = .ok (.iastore, 1) := by decide +kernel
theorem dX1_countFalls_81 : decode cX1_countFalls 81 = .ok (.iinc 2 1, 3) := by decide +kernel
theorem dX1_countFalls_84 : decode cX1_countFalls 84 = .ok (.goto (-75), 3) := by decide +kernel
theorem dX1_countFalls_87 : decode cX1_countFalls 87 = .ok (.return_, 1) := by decide +kernel
theorem dX1_livingBetween_0 : decode cX1_livingBetween 0 = .ok (.iconst 0, 1) := by decide +kernel
theorem dX1_livingBetween_1 : decode cX1_livingBetween 1 = .ok (.istore_n 3, 1) := by decide +kernel
theorem dX1_livingBetween_2 : decode cX1_livingBetween 2 = .ok (.iconst 0, 1) := by decide +kernel
theorem dX1_livingBetween_3 : decode cX1_livingBetween 3 = .ok (.istore 4, 2) := by decide +kernel
theorem dX1_livingBetween_5 : decode cX1_livingBetween 5 = .ok (.iload 4, 2) := by decide +kernel
theorem dX1_livingBetween_7 : decode cX1_livingBetween 7 = .ok (.aload_n 0, 1) := by decide +kernel
theorem dX1_livingBetween_8 : decode cX1_livingBetween 8 = .ok (.getfield 9, 3) := by decide +kernel
theorem dX1_livingBetween_11 : decode cX1_livingBetween 11 = .ok (.if_icmp .ge 34, 3) := by decide +kernel
theorem dX1_livingBetween_14 : decode cX1_livingBetween 14 = .ok (.aload_n 0, 1) := by decide +kernel
theorem dX1_livingBetween_15 : decode cX1_livingBetween 15 = .ok (.getfield 34, 3) := by decide +kernel
theorem dX1_livingBetween_18 : decode cX1_livingBetween 18 = .ok (.iload 4, 2) := by decide +kernel
theorem dX1_livingBetween_20 : decode cX1_livingBetween 20 = .ok (.iaload, 1) := by decide +kernel
theorem dX1_livingBetween_21 : decode cX1_livingBetween 21 = .ok (.iload_n 1, 1) := by decide +kernel
theorem dX1_livingBetween_22 : decode cX1_livingBetween 22 = .ok (.if_icmp .le 17, 3) := by decide +kernel
theorem dX1_livingBetween_25 : decode cX1_livingBetween 25 = .ok (.aload_n 0, 1) := by decide +kernel
theorem dX1_livingBetween_26 : decode cX1_livingBetween 26 = .ok (.getfield 34, 3) := by decide +kernel
theorem dX1_livingBetween_29 : decode cX1_livingBetween 29 = .ok (.iload 4, 2) := by decide +kernel
theorem dX1_livingBetween_31 : decode cX1_livingBetween 31 = .ok (.iaload, 1) := by decide +kernel
theorem dX1_livingBetween_32 : decode cX1_livingBetween 32 = .ok (.iload_n 2, 1) := by decide +kernel
theorem dX1_livingBetween_33 : decode cX1_livingBetween 33 = .ok (.if_icmp .ge 6, 3) := by decide +kernel
theorem dX1_livingBetween_36 : decode cX1_livingBetween 36 = .ok (.iinc 3 1, 3) := by decide +kernel
theorem dX1_livingBetween_39 : decode cX1_livingBetween 39 = .ok (.iinc 4 1, 3) := by decide +kernel
theorem dX1_livingBetween_42 : decode cX1_livingBetween 42 = .ok (.goto (-37), 3) := by decide +kernel
theorem dX1_livingBetween_45 : decode cX1_livingBetween 45 = .ok (.iload_n 3, 1) := by decide +kernel
theorem dX1_livingBetween_46 : decode cX1_livingBetween 46 = .ok (.ireturn, 1) := by decide +kernel
theorem dX1_keep_0 : decode cX1_keep 0 = .ok (.iconst 0, 1) := by decide +kernel
theorem dX1_keep_1 : decode cX1_keep 1 = .ok (.istore_n 2, 1) := by decide +kernel
theorem dX1_keep_2 : decode cX1_keep 2 = .ok (.iload_n 2, 1) := by decide +kernel
theorem dX1_keep_3 : decode cX1_keep 3 = .ok (.aload_n 0, 1) := by decide +kernel
theorem dX1_keep_4 : decode cX1_keep 4 = .ok (.getfield 9, 3) := by decide +kernel
theorem dX1_keep_7 : decode cX1_keep 7 = .ok (.if_icmp .ge 43, 3) := by decide +kernel
theorem dX1_keep_10 : decode cX1_keep 10 = .ok (.aload_n 0, 1) := by decide +kernel
theorem dX1_keep_11 : decode cX1_keep 11 = .ok (.getfield 25, 3) := by decide +kernel
theorem dX1_keep_14 : decode cX1_keep 14 = .ok (.iload_n 1, 1) := by decide +kernel
theorem dX1_keep_15 : decode cX1_keep 15 = .ok (.bipush 8, 2) := by decide +kernel
theorem dX1_keep_17 : decode cX1_keep 17 = .ok (.imul, 1) := by decide +kernel
theorem dX1_keep_18 : decode cX1_keep 18 = .ok (.iload_n 2, 1) := by decide +kernel
theorem dX1_keep_19 : decode cX1_keep 19 = .ok (.iadd, 1) := by decide +kernel
theorem dX1_keep_20 : decode cX1_keep 20 = .ok (.aload_n 0, 1) := by decide +kernel
theorem dX1_keep_21 : decode cX1_keep 21 = .ok (.getfield 34, 3) := by decide +kernel
theorem dX1_keep_24 : decode cX1_keep 24 = .ok (.iload_n 2, 1) := by decide +kernel
theorem dX1_keep_25 : decode cX1_keep 25 = .ok (.iaload, 1) := by decide +kernel
theorem dX1_keep_26 : decode cX1_keep 26 = .ok (.iastore, 1) := by decide +kernel
theorem dX1_keep_27 : decode cX1_keep 27 = .ok (.aload_n 0, 1) := by decide +kernel
theorem dX1_keep_28 : decode cX1_keep 28 = .ok (.getfield 28, 3) := by decide +kernel
theorem dX1_keep_31 : decode cX1_keep 31 = .ok (.iload_n 1, 1) := by decide +kernel
theorem dX1_keep_32 : decode cX1_keep 32 = .ok (.bipush 8, 2) := by decide +kernel
theorem dX1_keep_34 : decode cX1_keep 34 = .ok (.imul, 1) := by decide +kernel
theorem dX1_keep_35 : decode cX1_keep 35 = .ok (.iload_n 2, 1) := by decide +kernel
theorem dX1_keep_36 : decode cX1_keep 36 = .ok (.iadd, 1) := by decide +kernel
theorem dX1_keep_37 : decode cX1_keep 37 = .ok (.aload_n 0, 1) := by decide +kernel
theorem dX1_keep_38 : decode cX1_keep 38 = .ok (.getfield 40, 3) := by decide +kernel
theorem dX1_keep_41 : decode cX1_keep 41 = .ok (.iload_n 2, 1) := by decide +kernel
theorem dX1_keep_42 : decode cX1_keep 42 = .ok (.iaload, 1) := by decide +kernel
theorem dX1_keep_43 : decode cX1_keep 43 = .ok (.iastore, 1) := by decide +kernel
theorem dX1_keep_44 : decode cX1_keep 44 = .ok (.iinc 2 1, 3) := by decide +kernel
theorem dX1_keep_47 : decode cX1_keep 47 = .ok (.goto (-45), 3) := by decide +kernel
theorem dX1_keep_50 : decode cX1_keep 50 = .ok (.return_, 1) := by decide +kernel
theorem dX1_floorAt_0 : decode cX1_floorAt 0 = .ok (.aload_n 0, 1) := by decide +kernel
theorem dX1_floorAt_1 : decode cX1_floorAt 1 = .ok (.getfield 25, 3) := by decide +kernel
theorem dX1_floorAt_4 : decode cX1_floorAt 4 = .ok (.iload_n 1, 1) := by decide +kernel
theorem dX1_floorAt_5 : decode cX1_floorAt 5 = .ok (.bipush 8, 2) := by decide +kernel
theorem dX1_floorAt_7 : decode cX1_floorAt 7 = .ok (.imul, 1) := by decide +kernel
theorem dX1_floorAt_8 : decode cX1_floorAt 8 = .ok (.iload_n 2, 1) := by decide +kernel
theorem dX1_floorAt_9 : decode cX1_floorAt 9 = .ok (.iadd, 1) := by decide +kernel
theorem dX1_floorAt_10 : decode cX1_floorAt 10 = .ok (.iaload, 1) := by decide +kernel
theorem dX1_floorAt_11 : decode cX1_floorAt 11 = .ok (.ireturn, 1) := by decide +kernel
theorem dX1_leftAt_0 : decode cX1_leftAt 0 = .ok (.aload_n 0, 1) := by decide +kernel
theorem dX1_leftAt_1 : decode cX1_leftAt 1 = .ok (.getfield 28, 3) := by decide +kernel
theorem dX1_leftAt_4 : decode cX1_leftAt 4 = .ok (.iload_n 1, 1) := by decide +kernel
theorem dX1_leftAt_5 : decode cX1_leftAt 5 = .ok (.bipush 8, 2) := by decide +kernel
theorem dX1_leftAt_7 : decode cX1_leftAt 7 = .ok (.imul, 1) := by decide +kernel
theorem dX1_leftAt_8 : decode cX1_leftAt 8 = .ok (.iload_n 2, 1) := by decide +kernel
theorem dX1_leftAt_9 : decode cX1_leftAt 9 = .ok (.iadd, 1) := by decide +kernel
theorem dX1_leftAt_10 : decode cX1_leftAt 10 = .ok (.iaload, 1) := by decide +kernel
theorem dX1_leftAt_11 : decode cX1_leftAt 11 = .ok (.ireturn, 1) := by decide +kernel
theorem dX1_owes_0 : decode cX1_owes 0 = .ok (.aload_n 0, 1) := by decide +kernel
theorem dX1_owes_1 : decode cX1_owes 1 = .ok (.iload_n 1, 1) := by decide +kernel
theorem dX1_owes_2 : decode cX1_owes 2 = .ok (.iload_n 2, 1) := by decide +kernel
theorem dX1_owes_3 : decode cX1_owes 3 = .ok (.invokevirtual 128, 3) := by decide +kernel
theorem dX1_owes_6 : decode cX1_owes 6 = .ok (.iconst 0, 1) := by decide +kernel
theorem dX1_owes_7 : decode cX1_owes 7 = .ok (.aload_n 0, 1) := by decide +kernel
theorem dX1_owes_8 : decode cX1_owes 8 = .ok (.iload_n 1, 1) := by decide +kernel
theorem dX1_owes_9 : decode cX1_owes 9 = .ok (.iload_n 2, 1) := by decide +kernel
theorem dX1_owes_10 : decode cX1_owes 10 = .ok (.invokevirtual 131, 3) := by decide +kernel
theorem dX1_owes_13 : decode cX1_owes 13 = .ok (.invokestatic 134, 3) := by decide +kernel
theorem dX1_owes_16 : decode cX1_owes 16 = .ok (.iconst 3, 1) := by decide +kernel
theorem dX1_owes_17 : decode cX1_owes 17 = .ok (.idiv, 1) := by decide +kernel
theorem dX1_owes_18 : decode cX1_owes 18 = .ok (.if_icmp .le 7, 3) := by decide +kernel
theorem dX1_owes_21 : decode cX1_owes 21 = .ok (.iconst 1, 1) := by decide +kernel
theorem dX1_owes_22 : decode cX1_owes 22 = .ok (.goto 4, 3) := by decide +kernel
theorem dX1_owes_25 : decode cX1_owes 25 = .ok (.iconst 0, 1) := by decide +kernel
theorem dX1_owes_26 : decode cX1_owes 26 = .ok (.ireturn, 1) := by decide +kernel
theorem dX1_fellIn_0 : decode cX1_fellIn 0 = .ok (.aload_n 0, 1) := by decide +kernel
theorem dX1_fellIn_1 : decode cX1_fellIn 1 = .ok (.getfield 31, 3) := by decide +kernel
theorem dX1_fellIn_4 : decode cX1_fellIn 4 = .ok (.iload_n 1, 1) := by decide +kernel
theorem dX1_fellIn_5 : decode cX1_fellIn 5 = .ok (.iaload, 1) := by decide +kernel
theorem dX1_fellIn_6 : decode cX1_fellIn 6 = .ok (.iload_n 2, 1) := by decide +kernel
theorem dX1_fellIn_7 : decode cX1_fellIn 7 = .ok (.ishr, 1) := by decide +kernel
theorem dX1_fellIn_8 : decode cX1_fellIn 8 = .ok (.iconst 1, 1) := by decide +kernel
theorem dX1_fellIn_9 : decode cX1_fellIn 9 = .ok (.iand, 1) := by decide +kernel
theorem dX1_fellIn_10 : decode cX1_fellIn 10 = .ok (.ifCond .eq 7, 3) := by decide +kernel
theorem dX1_fellIn_13 : decode cX1_fellIn 13 = .ok (.iconst 1, 1) := by decide +kernel
theorem dX1_fellIn_14 : decode cX1_fellIn 14 = .ok (.goto 4, 3) := by decide +kernel
theorem dX1_fellIn_17 : decode cX1_fellIn 17 = .ok (.iconst 0, 1) := by decide +kernel
theorem dX1_fellIn_18 : decode cX1_fellIn 18 = .ok (.ireturn, 1) := by decide +kernel
theorem dX1_whoLives_0 : decode cX1_whoLives 0 = .ok (.iconst 0, 1) := by decide +kernel
theorem dX1_whoLives_1 : decode cX1_whoLives 1 = .ok (.istore_n 3, 1) := by decide +kernel
theorem dX1_whoLives_2 : decode cX1_whoLives 2 = .ok (.iconst 0, 1) := by decide +kernel
theorem dX1_whoLives_3 : decode cX1_whoLives 3 = .ok (.istore 4, 2) := by decide +kernel
theorem dX1_whoLives_5 : decode cX1_whoLives 5 = .ok (.iload 4, 2) := by decide +kernel
theorem dX1_whoLives_7 : decode cX1_whoLives 7 = .ok (.aload_n 0, 1) := by decide +kernel
theorem dX1_whoLives_8 : decode cX1_whoLives 8 = .ok (.getfield 9, 3) := by decide +kernel
theorem dX1_whoLives_11 : decode cX1_whoLives 11 = .ok (.if_icmp .ge 27, 3) := by decide +kernel
theorem dX1_whoLives_14 : decode cX1_whoLives 14 = .ok (.aload_n 0, 1) := by decide +kernel
theorem dX1_whoLives_15 : decode cX1_whoLives 15 = .ok (.iload_n 1, 1) := by decide +kernel
theorem dX1_whoLives_16 : decode cX1_whoLives 16 = .ok (.iload 4, 2) := by decide +kernel
theorem dX1_whoLives_18 : decode cX1_whoLives 18 = .ok (.invokevirtual 128, 3) := by decide +kernel
theorem dX1_whoLives_21 : decode cX1_whoLives 21 = .ok (.iload_n 2, 1) := by decide +kernel
theorem dX1_whoLives_22 : decode cX1_whoLives 22 = .ok (.if_icmp .ne 10, 3) := by decide +kernel
theorem dX1_whoLives_25 : decode cX1_whoLives 25 = .ok (.iload_n 3, 1) := by decide +kernel
theorem dX1_whoLives_26 : decode cX1_whoLives 26 = .ok (.iconst 1, 1) := by decide +kernel
theorem dX1_whoLives_27 : decode cX1_whoLives 27 = .ok (.iload 4, 2) := by decide +kernel
theorem dX1_whoLives_29 : decode cX1_whoLives 29 = .ok (.ishl, 1) := by decide +kernel
theorem dX1_whoLives_30 : decode cX1_whoLives 30 = .ok (.ior, 1) := by decide +kernel
theorem dX1_whoLives_31 : decode cX1_whoLives 31 = .ok (.istore_n 3, 1) := by decide +kernel
theorem dX1_whoLives_32 : decode cX1_whoLives 32 = .ok (.iinc 4 1, 3) := by decide +kernel
theorem dX1_whoLives_35 : decode cX1_whoLives 35 = .ok (.goto (-30), 3) := by decide +kernel
theorem dX1_whoLives_38 : decode cX1_whoLives 38 = .ok (.iload_n 3, 1) := by decide +kernel
theorem dX1_whoLives_39 : decode cX1_whoLives 39 = .ok (.ireturn, 1) := by decide +kernel
theorem dX1_liftStops_0 : decode cX1_liftStops 0 = .ok (.iconst 0, 1) := by decide +kernel
theorem dX1_liftStops_1 : decode cX1_liftStops 1 = .ok (.istore_n 2, 1) := by decide +kernel
theorem dX1_liftStops_2 : decode cX1_liftStops 2 = .ok (.iconst 0, 1) := by decide +kernel
theorem dX1_liftStops_3 : decode cX1_liftStops 3 = .ok (.istore_n 3, 1) := by decide +kernel
theorem dX1_liftStops_4 : decode cX1_liftStops 4 = .ok (.iconst 0, 1) := by decide +kernel
theorem dX1_liftStops_5 : decode cX1_liftStops 5 = .ok (.istore 4, 2) := by decide +kernel
theorem dX1_liftStops_7 : decode cX1_liftStops 7 = .ok (.iload 4, 2) := by decide +kernel
theorem dX1_liftStops_9 : decode cX1_liftStops 9 = .ok (.aload_n 0, 1) := by decide +kernel
theorem dX1_liftStops_10 : decode cX1_liftStops 10 = .ok (.getfield 9, 3) := by decide +kernel
theorem dX1_liftStops_13 : decode cX1_liftStops 13 = .ok (.if_icmp .ge 51, 3) := by decide +kernel
theorem dX1_liftStops_16 : decode cX1_liftStops 16 = .ok (.aload_n 0, 1) := by decide +kernel
theorem dX1_liftStops_17 : decode cX1_liftStops 17 = .ok (.iload_n 1, 1) := by decide +kernel
theorem dX1_liftStops_18 : decode cX1_liftStops 18 = .ok (.iload 4, 2) := by decide +kernel
theorem dX1_liftStops_20 : decode cX1_liftStops 20 = .ok (.invokevirtual 128, 3) := by decide +kernel
theorem dX1_liftStops_23 : decode cX1_liftStops 23 = .ok (.istore 5, 2) := by decide +kernel
theorem dX1_liftStops_25 : decode cX1_liftStops 25 = .ok (.iload 5, 2) := by decide +kernel
theorem dX1_liftStops_27 : decode cX1_liftStops 27 = .ok (.ifCond .le 31, 3) := by decide +kernel
theorem dX1_liftStops_30 : decode cX1_liftStops 30 = .ok (.iload_n 2, 1) := by decide +kernel
theorem dX1_liftStops_31 : decode cX1_liftStops 31 = .ok (.iconst 1, 1) := by decide +kernel
theorem dX1_liftStops_32 : decode cX1_liftStops 32 = .ok (.iload 5, 2) := by decide +kernel
theorem dX1_liftStops_34 : decode cX1_liftStops 34 = .ok (.ishl, 1) := by decide +kernel
theorem dX1_liftStops_35 : decode cX1_liftStops 35 = .ok (.ior, 1) := by decide +kernel
theorem dX1_liftStops_36 : decode cX1_liftStops 36 = .ok (.istore_n 2, 1) := by decide +kernel
theorem dX1_liftStops_37 : decode cX1_liftStops 37 = .ok (.iload_n 3, 1) := by decide +kernel
theorem dX1_liftStops_38 : decode cX1_liftStops 38 = .ok (.aload_n 0, 1) := by decide +kernel
theorem dX1_liftStops_39 : decode cX1_liftStops 39 = .ok (.iload_n 1, 1) := by decide +kernel
theorem dX1_liftStops_40 : decode cX1_liftStops 40 = .ok (.iload 4, 2) := by decide +kernel
theorem dX1_liftStops_42 : decode cX1_liftStops 42 = .ok (.invokevirtual 137, 3) := by decide +kernel
theorem dX1_liftStops_45 : decode cX1_liftStops 45 = .ok (.ifCond .eq 10, 3) := by decide +kernel
theorem dX1_liftStops_48 : decode cX1_liftStops 48 = .ok (.iconst 1, 1) := by decide +kernel
theorem dX1_liftStops_49 : decode cX1_liftStops 49 = .ok (.iload 5, 2) := by decide +kernel
theorem dX1_liftStops_51 : decode cX1_liftStops 51 = .ok (.ishl, 1) := by decide +kernel
theorem dX1_liftStops_52 : decode cX1_liftStops 52 = .ok (.goto 4, 3) := by decide +kernel
theorem dX1_liftStops_55 : decode cX1_liftStops 55 = .ok (.iconst 0, 1) := by decide +kernel
theorem dX1_liftStops_56 : decode cX1_liftStops 56 = .ok (.ior, 1) := by decide +kernel
theorem dX1_liftStops_57 : decode cX1_liftStops 57 = .ok (.istore_n 3, 1) := by decide +kernel
theorem dX1_liftStops_58 : decode cX1_liftStops 58 = .ok (.iinc 4 1, 3) := by decide +kernel
theorem dX1_liftStops_61 : decode cX1_liftStops 61 = .ok (.goto (-54), 3) := by decide +kernel
theorem dX1_liftStops_64 : decode cX1_liftStops 64 = .ok (.iload_n 2, 1) := by decide +kernel
theorem dX1_liftStops_65 : decode cX1_liftStops 65 = .ok (.iload_n 3, 1) := by decide +kernel
theorem dX1_liftStops_66 : decode cX1_liftStops 66 = .ok (.iconst (-1), 1) := by decide +kernel
theorem dX1_liftStops_67 : decode cX1_liftStops 67 = .ok (.ixor, 1) := by decide +kernel
theorem dX1_liftStops_68 : decode cX1_liftStops 68 = .ok (.iand, 1) := by decide +kernel
theorem dX1_liftStops_69 : decode cX1_liftStops 69 = .ok (.ireturn, 1) := by decide +kernel
theorem dX1_view_0 : decode cX1_view 0 = .ok (.iconst 0, 1) := by decide +kernel
theorem dX1_view_1 : decode cX1_view 1 = .ok (.istore_n 2, 1) := by decide +kernel
theorem dX1_view_2 : decode cX1_view 2 = .ok (.iconst 0, 1) := by decide +kernel
theorem dX1_view_3 : decode cX1_view 3 = .ok (.istore_n 3, 1) := by decide +kernel
theorem dX1_view_4 : decode cX1_view 4 = .ok (.iload_n 3, 1) := by decide +kernel
theorem dX1_view_5 : decode cX1_view 5 = .ok (.aload_n 0, 1) := by decide +kernel
theorem dX1_view_6 : decode cX1_view 6 = .ok (.getfield 9, 3) := by decide +kernel
theorem dX1_view_9 : decode cX1_view 9 = .ok (.if_icmp .ge 22, 3) := by decide +kernel
theorem dX1_view_12 : decode cX1_view 12 = .ok (.iload_n 2, 1) := by decide +kernel
theorem dX1_view_13 : decode cX1_view 13 = .ok (.iconst 4, 1) := by decide +kernel
theorem dX1_view_14 : decode cX1_view 14 = .ok (.ishl, 1) := by decide +kernel
theorem dX1_view_15 : decode cX1_view 15 = .ok (.aload_n 0, 1) := by decide +kernel
theorem dX1_view_16 : decode cX1_view 16 = .ok (.iload_n 1, 1) := by decide +kernel
theorem dX1_view_17 : decode cX1_view 17 = .ok (.iload_n 3, 1) := by decide +kernel
theorem dX1_view_18 : decode cX1_view 18 = .ok (.invokevirtual 128, 3) := by decide +kernel
theorem dX1_view_21 : decode cX1_view 21 = .ok (.iconst (-1), 1) := by decide +kernel
theorem dX1_view_22 : decode cX1_view 22 = .ok (.isub, 1) := by decide +kernel
theorem dX1_view_23 : decode cX1_view 23 = .ok (.ior, 1) := by decide +kernel
theorem dX1_view_24 : decode cX1_view 24 = .ok (.istore_n 2, 1) := by decide +kernel
theorem dX1_view_25 : decode cX1_view 25 = .ok (.iinc 3 1, 3) := by decide +kernel
theorem dX1_view_28 : decode cX1_view 28 = .ok (.goto (-24), 3) := by decide +kernel
theorem dX1_view_31 : decode cX1_view 31 = .ok (.iload_n 2, 1) := by decide +kernel
theorem dX1_view_32 : decode cX1_view 32 = .ok (.ireturn, 1) := by decide +kernel
theorem dX1_highestOf_0 : decode cX1_highestOf 0 = .ok (.iconst (-1), 1) := by decide +kernel
theorem dX1_highestOf_1 : decode cX1_highestOf 1 = .ok (.istore_n 2, 1) := by decide +kernel
theorem dX1_highestOf_2 : decode cX1_highestOf 2 = .ok (.iconst 0, 1) := by decide +kernel
theorem dX1_highestOf_3 : decode cX1_highestOf 3 = .ok (.istore_n 3, 1) := by decide +kernel
theorem dX1_highestOf_4 : decode cX1_highestOf 4 = .ok (.iload_n 3, 1) := by decide +kernel
theorem dX1_highestOf_5 : decode cX1_highestOf 5 = .ok (.bipush 24, 2) := by decide +kernel
theorem dX1_highestOf_7 : decode cX1_highestOf 7 = .ok (.if_icmp .ge 20, 3) := by decide +kernel
theorem dX1_highestOf_10 : decode cX1_highestOf 10 = .ok (.iload_n 2, 1) := by decide +kernel
theorem dX1_highestOf_11 : decode cX1_highestOf 11 = .ok (.aload_n 0, 1) := by decide +kernel
theorem dX1_highestOf_12 : decode cX1_highestOf 12 = .ok (.iload_n 3, 1) := by decide +kernel
theorem dX1_highestOf_13 : decode cX1_highestOf 13 = .ok (.iload_n 1, 1) := by decide +kernel
theorem dX1_highestOf_14 : decode cX1_highestOf 14 = .ok (.invokevirtual 128, 3) := by decide +kernel
theorem dX1_highestOf_17 : decode cX1_highestOf 17 = .ok (.invokestatic 134, 3) := by decide +kernel
theorem dX1_highestOf_20 : decode cX1_highestOf 20 = .ok (.istore_n 2, 1) := by decide +kernel
theorem dX1_highestOf_21 : decode cX1_highestOf 21 = .ok (.iinc 3 1, 3) := by decide +kernel
theorem dX1_highestOf_24 : decode cX1_highestOf 24 = .ok (.goto (-20), 3) := by decide +kernel
theorem dX1_highestOf_27 : decode cX1_highestOf 27 = .ok (.iload_n 2, 1) := by decide +kernel
theorem dX1_highestOf_28 : decode cX1_highestOf 28 = .ok (.ireturn, 1) := by decide +kernel
theorem dX1_settledBits_0 : decode cX1_settledBits 0 = .ok (.iconst 0, 1) := by decide +kernel
theorem dX1_settledBits_1 : decode cX1_settledBits 1 = .ok (.istore_n 1, 1) := by decide +kernel
theorem dX1_settledBits_2 : decode cX1_settledBits 2 = .ok (.iconst 0, 1) := by decide +kernel
theorem dX1_settledBits_3 : decode cX1_settledBits 3 = .ok (.istore_n 2, 1) := by decide +kernel
theorem dX1_settledBits_4 : decode cX1_settledBits 4 = .ok (.iload_n 2, 1) := by decide +kernel
theorem dX1_settledBits_5 : decode cX1_settledBits 5 = .ok (.aload_n 0, 1) := by decide +kernel
theorem dX1_settledBits_6 : decode cX1_settledBits 6 = .ok (.getfield 9, 3) := by decide +kernel
theorem dX1_settledBits_9 : decode cX1_settledBits 9 = .ok (.if_icmp .ge 25, 3) := by decide +kernel
theorem dX1_settledBits_12 : decode cX1_settledBits 12 = .ok (.aload_n 0, 1) := by decide +kernel
theorem dX1_settledBits_13 : decode cX1_settledBits 13 = .ok (.getfield 15, 3) := by decide +kernel
theorem dX1_settledBits_16 : decode cX1_settledBits 16 = .ok (.iload_n 2, 1) := by decide +kernel
theorem dX1_settledBits_17 : decode cX1_settledBits 17 = .ok (.iaload, 1) := by decide +kernel
theorem dX1_settledBits_18 : decode cX1_settledBits 18 = .ok (.iconst (-1), 1) := by decide +kernel
theorem dX1_settledBits_19 : decode cX1_settledBits 19 = .ok (.if_icmp .eq 9, 3) := by decide +kernel
theorem dX1_settledBits_22 : decode cX1_settledBits 22 = .ok (.iload_n 1, 1) := by decide +kernel
theorem dX1_settledBits_23 : decode cX1_settledBits 23 = .ok (.iconst 1, 1) := by decide +kernel
theorem dX1_settledBits_24 : decode cX1_settledBits 24 = .ok (.iload_n 2, 1) := by decide +kernel
theorem dX1_settledBits_25 : decode cX1_settledBits 25 = .ok (.ishl, 1) := by decide +kernel
theorem dX1_settledBits_26 : decode cX1_settledBits 26 = .ok (.ior, 1) := by decide +kernel
theorem dX1_settledBits_27 : decode cX1_settledBits 27 = .ok (.istore_n 1, 1) := by decide +kernel
theorem dX1_settledBits_28 : decode cX1_settledBits 28 = .ok (.iinc 2 1, 3) := by decide +kernel
theorem dX1_settledBits_31 : decode cX1_settledBits 31 = .ok (.goto (-27), 3) := by decide +kernel
theorem dX1_settledBits_34 : decode cX1_settledBits 34 = .ok (.iload_n 1, 1) := by decide +kernel
theorem dX1_settledBits_35 : decode cX1_settledBits 35 = .ok (.ireturn, 1) := by decide +kernel
theorem dX1_settledInAll_0 : decode cX1_settledInAll 0 = .ok (.aload_n 0, 1) := by decide +kernel
theorem dX1_settledInAll_1 : decode cX1_settledInAll 1 = .ok (.invokevirtual 140, 3) := by decide +kernel
theorem dX1_settledInAll_4 : decode cX1_settledInAll 4 = .ok (.invokestatic 144, 3) := by decide +kernel
theorem dX1_settledInAll_7 : decode cX1_settledInAll 7 = .ok (.ireturn, 1) := by decide +kernel
theorem dX1_fallsInAll_0 : decode cX1_fallsInAll 0 = .ok (.iconst 0, 1) := by decide +kernel
theorem dX1_fallsInAll_1 : decode cX1_fallsInAll 1 = .ok (.istore_n 1, 1) := by decide +kernel
theorem dX1_fallsInAll_2 : decode cX1_fallsInAll 2 = .ok (.iconst 0, 1) := by decide +kernel
theorem dX1_fallsInAll_3 : decode cX1_fallsInAll 3 = .ok (.istore_n 2, 1) := by decide +kernel
theorem dX1_fallsInAll_4 : decode cX1_fallsInAll 4 = .ok (.iload_n 2, 1) := by decide +kernel
theorem dX1_fallsInAll_5 : decode cX1_fallsInAll 5 = .ok (.aload_n 0, 1) := by decide +kernel
theorem dX1_fallsInAll_6 : decode cX1_fallsInAll 6 = .ok (.getfield 9, 3) := by decide +kernel
theorem dX1_fallsInAll_9 : decode cX1_fallsInAll 9 = .ok (.if_icmp .ge 18, 3) := by decide +kernel
theorem dX1_fallsInAll_12 : decode cX1_fallsInAll 12 = .ok (.iload_n 1, 1) := by decide +kernel
theorem dX1_fallsInAll_13 : decode cX1_fallsInAll 13 = .ok (.aload_n 0, 1) := by decide +kernel
theorem dX1_fallsInAll_14 : decode cX1_fallsInAll 14 = .ok (.getfield 19, 3) := by decide +kernel
theorem dX1_fallsInAll_17 : decode cX1_fallsInAll 17 = .ok (.iload_n 2, 1) := by decide +kernel
theorem dX1_fallsInAll_18 : decode cX1_fallsInAll 18 = .ok (.iaload, 1) := by decide +kernel
theorem dX1_fallsInAll_19 : decode cX1_fallsInAll 19 = .ok (.iadd, 1) := by decide +kernel
theorem dX1_fallsInAll_20 : decode cX1_fallsInAll 20 = .ok (.istore_n 1, 1) := by decide +kernel
theorem dX1_fallsInAll_21 : decode cX1_fallsInAll 21 = .ok (.iinc 2 1, 3) := by decide +kernel
theorem dX1_fallsInAll_24 : decode cX1_fallsInAll 24 = .ok (.goto (-20), 3) := by decide +kernel
theorem dX1_fallsInAll_27 : decode cX1_fallsInAll 27 = .ok (.iload_n 1, 1) := by decide +kernel
theorem dX1_fallsInAll_28 : decode cX1_fallsInAll 28 = .ok (.ireturn, 1) := by decide +kernel
theorem dX1_passedInAll_0 : decode cX1_passedInAll 0 = .ok (.iconst 0, 1) := by decide +kernel
theorem dX1_passedInAll_1 : decode cX1_passedInAll 1 = .ok (.istore_n 1, 1) := by decide +kernel
theorem dX1_passedInAll_2 : decode cX1_passedInAll 2 = .ok (.iconst 0, 1) := by decide +kernel
theorem dX1_passedInAll_3 : decode cX1_passedInAll 3 = .ok (.istore_n 2, 1) := by decide +kernel
theorem dX1_passedInAll_4 : decode cX1_passedInAll 4 = .ok (.iload_n 2, 1) := by decide +kernel
theorem dX1_passedInAll_5 : decode cX1_passedInAll 5 = .ok (.aload_n 0, 1) := by decide +kernel
theorem dX1_passedInAll_6 : decode cX1_passedInAll 6 = .ok (.getfield 9, 3) := by decide +kernel
theorem dX1_passedInAll_9 : decode cX1_passedInAll 9 = .ok (.if_icmp .ge 18, 3) := by decide +kernel
theorem dX1_passedInAll_12 : decode cX1_passedInAll 12 = .ok (.iload_n 1, 1) := by decide +kernel
theorem dX1_passedInAll_13 : decode cX1_passedInAll 13 = .ok (.aload_n 0, 1) := by decide +kernel
theorem dX1_passedInAll_14 : decode cX1_passedInAll 14 = .ok (.getfield 22, 3) := by decide +kernel
theorem dX1_passedInAll_17 : decode cX1_passedInAll 17 = .ok (.iload_n 2, 1) := by decide +kernel
theorem dX1_passedInAll_18 : decode cX1_passedInAll 18 = .ok (.iaload, 1) := by decide +kernel
theorem dX1_passedInAll_19 : decode cX1_passedInAll 19 = .ok (.iadd, 1) := by decide +kernel
theorem dX1_passedInAll_20 : decode cX1_passedInAll 20 = .ok (.istore_n 1, 1) := by decide +kernel
theorem dX1_passedInAll_21 : decode cX1_passedInAll 21 = .ok (.iinc 2 1, 3) := by decide +kernel
theorem dX1_passedInAll_24 : decode cX1_passedInAll 24 = .ok (.goto (-20), 3) := by decide +kernel
theorem dX1_passedInAll_27 : decode cX1_passedInAll 27 = .ok (.iload_n 1, 1) := by decide +kernel
theorem dX1_passedInAll_28 : decode cX1_passedInAll 28 = .ok (.ireturn, 1) := by decide +kernel
theorem dX1_owedInAll_0 : decode cX1_owedInAll 0 = .ok (.iconst 0, 1) := by decide +kernel
theorem dX1_owedInAll_1 : decode cX1_owedInAll 1 = .ok (.istore_n 1, 1) := by decide +kernel
theorem dX1_owedInAll_2 : decode cX1_owedInAll 2 = .ok (.iconst 0, 1) := by decide +kernel
theorem dX1_owedInAll_3 : decode cX1_owedInAll 3 = .ok (.istore_n 2, 1) := by decide +kernel
theorem dX1_owedInAll_4 : decode cX1_owedInAll 4 = .ok (.iload_n 2, 1) := by decide +kernel
theorem dX1_owedInAll_5 : decode cX1_owedInAll 5 = .ok (.bipush 24, 2) := by decide +kernel
theorem dX1_owedInAll_7 : decode cX1_owedInAll 7 = .ok (.if_icmp .ge 42, 3) := by decide +kernel
theorem dX1_owedInAll_10 : decode cX1_owedInAll 10 = .ok (.iconst 0, 1) := by decide +kernel
theorem dX1_owedInAll_11 : decode cX1_owedInAll 11 = .ok (.istore_n 3, 1) := by decide +kernel
theorem dX1_owedInAll_12 : decode cX1_owedInAll 12 = .ok (.iload_n 3, 1) := by decide +kernel
theorem dX1_owedInAll_13 : decode cX1_owedInAll 13 = .ok (.aload_n 0, 1) := by decide +kernel
theorem dX1_owedInAll_14 : decode cX1_owedInAll 14 = .ok (.getfield 9, 3) := by decide +kernel
theorem dX1_owedInAll_17 : decode cX1_owedInAll 17 = .ok (.if_icmp .ge 26, 3) := by decide +kernel
theorem dX1_owedInAll_20 : decode cX1_owedInAll 20 = .ok (.iload_n 1, 1) := by decide +kernel
theorem dX1_owedInAll_21 : decode cX1_owedInAll 21 = .ok (.aload_n 0, 1) := by decide +kernel
theorem dX1_owedInAll_22 : decode cX1_owedInAll 22 = .ok (.iload_n 2, 1) := by decide +kernel
theorem dX1_owedInAll_23 : decode cX1_owedInAll 23 = .ok (.iload_n 3, 1) := by decide +kernel
theorem dX1_owedInAll_24 : decode cX1_owedInAll 24 = .ok (.invokevirtual 137, 3) := by decide +kernel
theorem dX1_owedInAll_27 : decode cX1_owedInAll 27 = .ok (.ifCond .eq 7, 3) := by decide +kernel
theorem dX1_owedInAll_30 : decode cX1_owedInAll 30 = .ok (.iconst 1, 1) := by decide +kernel
theorem dX1_owedInAll_31 : decode cX1_owedInAll 31 = .ok (.goto 4, 3) := by decide +kernel
theorem dX1_owedInAll_34 : decode cX1_owedInAll 34 = .ok (.iconst 0, 1) := by decide +kernel
theorem dX1_owedInAll_35 : decode cX1_owedInAll 35 = .ok (.iadd, 1) := by decide +kernel
theorem dX1_owedInAll_36 : decode cX1_owedInAll 36 = .ok (.istore_n 1, 1) := by decide +kernel
theorem dX1_owedInAll_37 : decode cX1_owedInAll 37 = .ok (.iinc 3 1, 3) := by decide +kernel
theorem dX1_owedInAll_40 : decode cX1_owedInAll 40 = .ok (.goto (-28), 3) := by decide +kernel
theorem dX1_owedInAll_43 : decode cX1_owedInAll 43 = .ok (.iinc 2 1, 3) := by decide +kernel
theorem dX1_owedInAll_46 : decode cX1_owedInAll 46 = .ok (.goto (-42), 3) := by decide +kernel
theorem dX1_owedInAll_49 : decode cX1_owedInAll 49 = .ok (.iload_n 1, 1) := by decide +kernel
theorem dX1_owedInAll_50 : decode cX1_owedInAll 50 = .ok (.ireturn, 1) := by decide +kernel
theorem dX1_topTenant_0 : decode cX1_topTenant 0 = .ok (.iconst (-1), 1) := by decide +kernel
theorem dX1_topTenant_1 : decode cX1_topTenant 1 = .ok (.istore_n 1, 1) := by decide +kernel
theorem dX1_topTenant_2 : decode cX1_topTenant 2 = .ok (.iconst (-1), 1) := by decide +kernel
theorem dX1_topTenant_3 : decode cX1_topTenant 3 = .ok (.istore_n 2, 1) := by decide +kernel
theorem dX1_topTenant_4 : decode cX1_topTenant 4 = .ok (.iconst 0, 1) := by decide +kernel
theorem dX1_topTenant_5 : decode cX1_topTenant 5 = .ok (.istore_n 3, 1) := by decide +kernel
theorem dX1_topTenant_6 : decode cX1_topTenant 6 = .ok (.iload_n 3, 1) := by decide +kernel
theorem dX1_topTenant_7 : decode cX1_topTenant 7 = .ok (.aload_n 0, 1) := by decide +kernel
theorem dX1_topTenant_8 : decode cX1_topTenant 8 = .ok (.getfield 9, 3) := by decide +kernel
theorem dX1_topTenant_11 : decode cX1_topTenant 11 = .ok (.if_icmp .ge 30, 3) := by decide +kernel
theorem dX1_topTenant_14 : decode cX1_topTenant 14 = .ok (.aload_n 0, 1) := by decide +kernel
theorem dX1_topTenant_15 : decode cX1_topTenant 15 = .ok (.bipush 23, 2) := by decide +kernel
theorem dX1_topTenant_17 : decode cX1_topTenant 17 = .ok (.iload_n 3, 1) := by decide +kernel
theorem dX1_topTenant_18 : decode cX1_topTenant 18 = .ok (.invokevirtual 128, 3) := by decide +kernel
theorem dX1_topTenant_21 : decode cX1_topTenant 21 = .ok (.iload_n 2, 1) := by decide +kernel
theorem dX1_topTenant_22 : decode cX1_topTenant 22 = .ok (.if_icmp .le 13, 3) := by decide +kernel
theorem dX1_topTenant_25 : decode cX1_topTenant 25 = .ok (.aload_n 0, 1) := by decide +kernel
theorem dX1_topTenant_26 : decode cX1_topTenant 26 = .ok (.bipush 23, 2) := by decide +kernel
theorem dX1_topTenant_28 : decode cX1_topTenant 28 = .ok (.iload_n 3, 1) := by decide +kernel
theorem dX1_topTenant_29 : decode cX1_topTenant 29 = .ok (.invokevirtual 128, 3) := by decide +kernel
theorem dX1_topTenant_32 : decode cX1_topTenant 32 = .ok (.istore_n 2, 1) := by decide +kernel
theorem dX1_topTenant_33 : decode cX1_topTenant 33 = .ok (.iload_n 3, 1) := by decide +kernel
theorem dX1_topTenant_34 : decode cX1_topTenant 34 = .ok (.istore_n 1, 1) := by decide +kernel
theorem dX1_topTenant_35 : decode cX1_topTenant 35 = .ok (.iinc 3 1, 3) := by decide +kernel
theorem dX1_topTenant_38 : decode cX1_topTenant 38 = .ok (.goto (-32), 3) := by decide +kernel
theorem dX1_topTenant_41 : decode cX1_topTenant 41 = .ok (.iload_n 1, 1) := by decide +kernel
theorem dX1_topTenant_42 : decode cX1_topTenant 42 = .ok (.ireturn, 1) := by decide +kernel
theorem dX1_heardFloors_0 : decode cX1_heardFloors 0 = .ok (.iconst 0, 1) := by decide +kernel
theorem dX1_heardFloors_1 : decode cX1_heardFloors 1 = .ok (.istore_n 1, 1) := by decide +kernel
theorem dX1_heardFloors_2 : decode cX1_heardFloors 2 = .ok (.iconst 0, 1) := by decide +kernel
theorem dX1_heardFloors_3 : decode cX1_heardFloors 3 = .ok (.istore_n 2, 1) := by decide +kernel
theorem dX1_heardFloors_4 : decode cX1_heardFloors 4 = .ok (.iload_n 2, 1) := by decide +kernel
theorem dX1_heardFloors_5 : decode cX1_heardFloors 5 = .ok (.bipush 24, 2) := by decide +kernel
theorem dX1_heardFloors_7 : decode cX1_heardFloors 7 = .ok (.if_icmp .ge 49, 3) := by decide +kernel
theorem dX1_heardFloors_10 : decode cX1_heardFloors 10 = .ok (.iconst 0, 1) := by decide +kernel
theorem dX1_heardFloors_11 : decode cX1_heardFloors 11 = .ok (.istore_n 3, 1) := by decide +kernel
theorem dX1_heardFloors_12 : decode cX1_heardFloors 12 = .ok (.iload_n 3, 1) := by decide +kernel
theorem dX1_heardFloors_13 : decode cX1_heardFloors 13 = .ok (.aload_n 0, 1) := by decide +kernel
theorem dX1_heardFloors_14 : decode cX1_heardFloors 14 = .ok (.getfield 9, 3) := by decide +kernel
theorem dX1_heardFloors_17 : decode cX1_heardFloors 17 = .ok (.if_icmp .ge 33, 3) := by decide +kernel
theorem dX1_heardFloors_20 : decode cX1_heardFloors 20 = .ok (.aload_n 0, 1) := by decide +kernel
theorem dX1_heardFloors_21 : decode cX1_heardFloors 21 = .ok (.iload_n 2, 1) := by decide +kernel
theorem dX1_heardFloors_22 : decode cX1_heardFloors 22 = .ok (.iload_n 3, 1) := by decide +kernel
theorem dX1_heardFloors_23 : decode cX1_heardFloors 23 = .ok (.invokevirtual 128, 3) := by decide +kernel
theorem dX1_heardFloors_26 : decode cX1_heardFloors 26 = .ok (.istore 4, 2) := by decide +kernel
theorem dX1_heardFloors_28 : decode cX1_heardFloors 28 = .ok (.iload_n 1, 1) := by decide +kernel
theorem dX1_heardFloors_29 : decode cX1_heardFloors 29 = .ok (.iload 4, 2) := by decide +kernel
theorem dX1_heardFloors_31 : decode cX1_heardFloors 31 = .ok (.ifCond .le 10, 3) := by decide +kernel
theorem dX1_heardFloors_34 : decode cX1_heardFloors 34 = .ok (.iconst 1, 1) := by decide +kernel
theorem dX1_heardFloors_35 : decode cX1_heardFloors 35 = .ok (.iload 4, 2) := by decide +kernel
theorem dX1_heardFloors_37 : decode cX1_heardFloors 37 = .ok (.ishl, 1) := by decide +kernel
theorem dX1_heardFloors_38 : decode cX1_heardFloors 38 = .ok (.goto 4, 3) := by decide +kernel
theorem dX1_heardFloors_41 : decode cX1_heardFloors 41 = .ok (.iconst 0, 1) := by decide +kernel
theorem dX1_heardFloors_42 : decode cX1_heardFloors 42 = .ok (.ior, 1) := by decide +kernel
theorem dX1_heardFloors_43 : decode cX1_heardFloors 43 = .ok (.istore_n 1, 1) := by decide +kernel
theorem dX1_heardFloors_44 : decode cX1_heardFloors 44 = .ok (.iinc 3 1, 3) := by decide +kernel
theorem dX1_heardFloors_47 : decode cX1_heardFloors 47 = .ok (.goto (-35), 3) := by decide +kernel
theorem dX1_heardFloors_50 : decode cX1_heardFloors 50 = .ok (.iinc 2 1, 3) := by decide +kernel
theorem dX1_heardFloors_53 : decode cX1_heardFloors 53 = .ok (.goto (-49), 3) := by decide +kernel
theorem dX1_heardFloors_56 : decode cX1_heardFloors 56 = .ok (.iconst 0, 1) := by decide +kernel
theorem dX1_heardFloors_57 : decode cX1_heardFloors 57 = .ok (.istore_n 2, 1) := by decide +kernel
theorem dX1_heardFloors_58 : decode cX1_heardFloors 58 = .ok (.iconst 0, 1) := by decide +kernel
theorem dX1_heardFloors_59 : decode cX1_heardFloors 59 = .ok (.istore_n 3, 1) := by decide +kernel
theorem dX1_heardFloors_60 : decode cX1_heardFloors 60 = .ok (.bipush 12, 2) := by decide +kernel
theorem dX1_heardFloors_62 : decode cX1_heardFloors 62 = .ok (.istore 4, 2) := by decide +kernel
theorem dX1_heardFloors_64 : decode cX1_heardFloors 64 = .ok (.iload 4, 2) := by decide +kernel
theorem dX1_heardFloors_66 : decode cX1_heardFloors 66 = .ok (.ifCond .le 34, 3) := by decide +kernel
theorem dX1_heardFloors_69 : decode cX1_heardFloors 69 = .ok (.iload_n 1, 1) := by decide +kernel
theorem dX1_heardFloors_70 : decode cX1_heardFloors 70 = .ok (.iload 4, 2) := by decide +kernel
theorem dX1_heardFloors_72 : decode cX1_heardFloors 72 = .ok (.ishr, 1) := by decide +kernel
theorem dX1_heardFloors_73 : decode cX1_heardFloors 73 = .ok (.iconst 1, 1) := by decide +kernel
theorem dX1_heardFloors_74 : decode cX1_heardFloors 74 = .ok (.iand, 1) := by decide +kernel
theorem dX1_heardFloors_75 : decode cX1_heardFloors 75 = .ok (.ifCond .eq 8, 3) := by decide +kernel
theorem dX1_heardFloors_78 : decode cX1_heardFloors 78 = .ok (.iconst 1, 1) := by decide +kernel
theorem dX1_heardFloors_79 : decode cX1_heardFloors 79 = .ok (.istore_n 3, 1) := by decide +kernel
theorem dX1_heardFloors_80 : decode cX1_heardFloors 80 = .ok (.goto 14, 3) := by decide +kernel
theorem dX1_heardFloors_83 : decode cX1_heardFloors 83 = .ok (.iload_n 3, 1) := by decide +kernel
theorem dX1_heardFloors_84 : decode cX1_heardFloors 84 = .ok (.ifCond .eq 10, 3) := by decide +kernel
theorem dX1_heardFloors_87 : decode cX1_heardFloors 87 = .ok (.iload_n 2, 1) := by decide +kernel
theorem dX1_heardFloors_88 : decode cX1_heardFloors 88 = .ok (.iconst 1, 1) := by decide +kernel
theorem dX1_heardFloors_89 : decode cX1_heardFloors 89 = .ok (.iload 4, 2) := by decide +kernel
theorem dX1_heardFloors_91 : decode cX1_heardFloors 91 = .ok (.ishl, 1) := by decide +kernel
theorem dX1_heardFloors_92 : decode cX1_heardFloors 92 = .ok (.ior, 1) := by decide +kernel
theorem dX1_heardFloors_93 : decode cX1_heardFloors 93 = .ok (.istore_n 2, 1) := by decide +kernel
theorem dX1_heardFloors_94 : decode cX1_heardFloors 94 = .ok (.iinc 4 (-1), 3) := by decide +kernel
theorem dX1_heardFloors_97 : decode cX1_heardFloors 97 = .ok (.goto (-33), 3) := by decide +kernel
theorem dX1_heardFloors_100 : decode cX1_heardFloors 100 = .ok (.iload_n 2, 1) := by decide +kernel
theorem dX1_heardFloors_101 : decode cX1_heardFloors 101 = .ok (.ireturn, 1) := by decide +kernel
theorem dX1_housedAtLast_0 : decode cX1_housedAtLast 0 = .ok (.iconst 0, 1) := by decide +kernel
theorem dX1_housedAtLast_1 : decode cX1_housedAtLast 1 = .ok (.istore_n 1, 1) := by decide +kernel
theorem dX1_housedAtLast_2 : decode cX1_housedAtLast 2 = .ok (.iconst 0, 1) := by decide +kernel
theorem dX1_housedAtLast_3 : decode cX1_housedAtLast 3 = .ok (.istore_n 2, 1) := by decide +kernel
theorem dX1_housedAtLast_4 : decode cX1_housedAtLast 4 = .ok (.iload_n 2, 1) := by decide +kernel
theorem dX1_housedAtLast_5 : decode cX1_housedAtLast 5 = .ok (.aload_n 0, 1) := by decide +kernel
theorem dX1_housedAtLast_6 : decode cX1_housedAtLast 6 = .ok (.getfield 9, 3) := by decide +kernel
theorem dX1_housedAtLast_9 : decode cX1_housedAtLast 9 = .ok (.if_icmp .ge 27, 3) := by decide +kernel
theorem dX1_housedAtLast_12 : decode cX1_housedAtLast 12 = .ok (.iload_n 1, 1) := by decide +kernel
theorem dX1_housedAtLast_13 : decode cX1_housedAtLast 13 = .ok (.aload_n 0, 1) := by decide +kernel
theorem dX1_housedAtLast_14 : decode cX1_housedAtLast 14 = .ok (.bipush 23, 2) := by decide +kernel
theorem dX1_housedAtLast_16 : decode cX1_housedAtLast 16 = .ok (.iload_n 2, 1) := by decide +kernel
theorem dX1_housedAtLast_17 : decode cX1_housedAtLast 17 = .ok (.invokevirtual 128, 3) := by decide +kernel
theorem dX1_housedAtLast_20 : decode cX1_housedAtLast 20 = .ok (.ifCond .le 7, 3) := by decide +kernel
theorem dX1_housedAtLast_23 : decode cX1_housedAtLast 23 = .ok (.iconst 1, 1) := by decide +kernel
theorem dX1_housedAtLast_24 : decode cX1_housedAtLast 24 = .ok (.goto 4, 3) := by decide +kernel
theorem dX1_housedAtLast_27 : decode cX1_housedAtLast 27 = .ok (.iconst 0, 1) := by decide +kernel
theorem dX1_housedAtLast_28 : decode cX1_housedAtLast 28 = .ok (.iadd, 1) := by decide +kernel
theorem dX1_housedAtLast_29 : decode cX1_housedAtLast 29 = .ok (.istore_n 1, 1) := by decide +kernel
theorem dX1_housedAtLast_30 : decode cX1_housedAtLast 30 = .ok (.iinc 2 1, 3) := by decide +kernel
theorem dX1_housedAtLast_33 : decode cX1_housedAtLast 33 = .ok (.goto (-29), 3) := by decide +kernel
theorem dX1_housedAtLast_36 : decode cX1_housedAtLast 36 = .ok (.iload_n 1, 1) := by decide +kernel
theorem dX1_housedAtLast_37 : decode cX1_housedAtLast 37 = .ok (.ireturn, 1) := by decide +kernel
theorem dX2_init_0 : decode cX2_init 0 = .ok (.aload_n 0, 1) := by decide +kernel
theorem dX2_init_1 : decode cX2_init 1 = .ok (.invokespecial 3, 3) := by decide +kernel
theorem dX2_init_4 : decode cX2_init 4 = .ok (.aload_n 0, 1) := by decide +kernel
theorem dX2_init_5 : decode cX2_init 5 = .ok (.bipush 8, 2) := by decide +kernel
theorem dX2_init_7 : decode cX2_init 7 = .ok (.newarray .int, 2) := by decide +kernel
theorem dX2_init_9 : decode cX2_init 9 = .ok (.putfield 9, 3) := by decide +kernel
theorem dX2_init_12 : decode cX2_init 12 = .ok (.aload_n 0, 1) := by decide +kernel
theorem dX2_init_13 : decode cX2_init 13 = .ok (.bipush 8, 2) := by decide +kernel
theorem dX2_init_15 : decode cX2_init 15 = .ok (.newarray .int, 2) := by decide +kernel
theorem dX2_init_17 : decode cX2_init 17 = .ok (.putfield 15, 3) := by decide +kernel
theorem dX2_init_20 : decode cX2_init 20 = .ok (.aload_n 0, 1) := by decide +kernel
theorem dX2_init_21 : decode cX2_init 21 = .ok (.bipush 8, 2) := by decide +kernel
theorem dX2_init_23 : decode cX2_init 23 = .ok (.newarray .int, 2) := by decide +kernel
theorem dX2_init_25 : decode cX2_init 25 = .ok (.putfield 18, 3) := by decide +kernel
theorem dX2_init_28 : decode cX2_init 28 = .ok (.aload_n 0, 1) := by decide +kernel
theorem dX2_init_29 : decode cX2_init 29 = .ok (.iconst 0, 1) := by decide +kernel
theorem dX2_init_30 : decode cX2_init 30 = .ok (.putfield 21, 3) := by decide +kernel
theorem dX2_init_33 : decode cX2_init 33 = .ok (.return_, 1) := by decide +kernel
theorem dX2_canBe_0 : decode cX2_canBe 0 = .ok (.iload_n 0, 1) := by decide +kernel
theorem dX2_canBe_1 : decode cX2_canBe 1 = .ok (.iconst 0, 1) := by decide +kernel
theorem dX2_canBe_2 : decode cX2_canBe 2 = .ok (.iconst 2, 1) := by decide +kernel
theorem dX2_canBe_3 : decode cX2_canBe 3 = .ok (.invokestatic 25, 3) := by decide +kernel
theorem dX2_canBe_6 : decode cX2_canBe 6 = .ok (.ifCond .eq 24, 3) := by decide +kernel
theorem dX2_canBe_9 : decode cX2_canBe 9 = .ok (.iload_n 1, 1) := by decide +kernel
theorem dX2_canBe_10 : decode cX2_canBe 10 = .ok (.invokestatic 29, 3) := by decide +kernel
theorem dX2_canBe_13 : decode cX2_canBe 13 = .ok (.ifCond .eq 17, 3) := by decide +kernel
theorem dX2_canBe_16 : decode cX2_canBe 16 = .ok (.iload_n 2, 1) := by decide +kernel
theorem dX2_canBe_17 : decode cX2_canBe 17 = .ok (.iconst 0, 1) := by decide +kernel
theorem dX2_canBe_18 : decode cX2_canBe 18 = .ok (.bipush 7, 2) := by decide +kernel
theorem dX2_canBe_20 : decode cX2_canBe 20 = .ok (.invokestatic 25, 3) := by decide +kernel
theorem dX2_canBe_23 : decode cX2_canBe 23 = .ok (.ifCond .eq 7, 3) := by decide +kernel
theorem dX2_canBe_26 : decode cX2_canBe 26 = .ok (.iconst 1, 1) := by decide +kernel
theorem dX2_canBe_27 : decode cX2_canBe 27 = .ok (.goto 4, 3) := by decide +kernel
theorem dX2_canBe_30 : decode cX2_canBe 30 = .ok (.iconst 0, 1) := by decide +kernel
theorem dX2_canBe_31 : decode cX2_canBe 31 = .ok (.ireturn, 1) := by decide +kernel
theorem dX2_add_0 : decode cX2_add 0 = .ok (.aload_n 0, 1) := by decide +kernel
theorem dX2_add_1 : decode cX2_add 1 = .ok (.getfield 9, 3) := by decide +kernel
theorem dX2_add_4 : decode cX2_add 4 = .ok (.aload_n 0, 1) := by decide +kernel
theorem dX2_add_5 : decode cX2_add 5 = .ok (.getfield 21, 3) := by decide +kernel
theorem dX2_add_8 : decode cX2_add 8 = .ok (.iload_n 1, 1) := by decide +kernel
theorem dX2_add_9 : decode cX2_add 9 = .ok (.iastore, 1) := by decide +kernel
theorem dX2_add_10 : decode cX2_add 10 = .ok (.aload_n 0, 1) := by decide +kernel
theorem dX2_add_11 : decode cX2_add 11 = .ok (.getfield 15, 3) := by decide +kernel
theorem dX2_add_14 : decode cX2_add 14 = .ok (.aload_n 0, 1) := by decide +kernel
theorem dX2_add_15 : decode cX2_add 15 = .ok (.getfield 21, 3) := by decide +kernel
theorem dX2_add_18 : decode cX2_add 18 = .ok (.iload_n 2, 1) := by decide +kernel
theorem dX2_add_19 : decode cX2_add 19 = .ok (.iastore, 1) := by decide +kernel
theorem dX2_add_20 : decode cX2_add 20 = .ok (.aload_n 0, 1) := by decide +kernel
theorem dX2_add_21 : decode cX2_add 21 = .ok (.getfield 18, 3) := by decide +kernel
theorem dX2_add_24 : decode cX2_add 24 = .ok (.aload_n 0, 1) := by decide +kernel
theorem dX2_add_25 : decode cX2_add 25 = .ok (.getfield 21, 3) := by decide +kernel
theorem dX2_add_28 : decode cX2_add 28 = .ok (.iload_n 3, 1) := by decide +kernel
theorem dX2_add_29 : decode cX2_add 29 = .ok (.iastore, 1) := by decide +kernel
theorem dX2_add_30 : decode cX2_add 30 = .ok (.aload_n 0, 1) := by decide +kernel
theorem dX2_add_31 : decode cX2_add 31 = .ok (.dup, 1) := by decide +kernel
theorem dX2_add_32 : decode cX2_add 32 = .ok (.getfield 21, 3) := by decide +kernel
theorem dX2_add_35 : decode cX2_add 35 = .ok (.iconst 1, 1) := by decide +kernel
theorem dX2_add_36 : decode cX2_add 36 = .ok (.iadd, 1) := by decide +kernel
theorem dX2_add_37 : decode cX2_add 37 = .ok (.putfield 21, 3) := by decide +kernel
theorem dX2_add_40 : decode cX2_add 40 = .ok (.return_, 1) := by decide +kernel
theorem dX3_init_0 : decode cX3_init 0 = .ok (.aload_n 0, 1) := by decide +kernel
theorem dX3_init_1 : decode cX3_init 1 = .ok (.invokespecial 3, 3) := by decide +kernel
theorem dX3_init_4 : decode cX3_init 4 = .ok (.aload_n 0, 1) := by decide +kernel
theorem dX3_init_5 : decode cX3_init 5 = .ok (.bipush 8, 2) := by decide +kernel
theorem dX3_init_7 : decode cX3_init 7 = .ok (.newarray .int, 2) := by decide +kernel
theorem dX3_init_9 : decode cX3_init 9 = .ok (.putfield 9, 3) := by decide +kernel
theorem dX3_init_12 : decode cX3_init 12 = .ok (.aload_n 0, 1) := by decide +kernel
theorem dX3_init_13 : decode cX3_init 13 = .ok (.bipush 8, 2) := by decide +kernel
theorem dX3_init_15 : decode cX3_init 15 = .ok (.newarray .int, 2) := by decide +kernel
theorem dX3_init_17 : decode cX3_init 17 = .ok (.putfield 15, 3) := by decide +kernel
theorem dX3_init_20 : decode cX3_init 20 = .ok (.aload_n 0, 1) := by decide +kernel
theorem dX3_init_21 : decode cX3_init 21 = .ok (.bipush 8, 2) := by decide +kernel
theorem dX3_init_23 : decode cX3_init 23 = .ok (.newarray .int, 2) := by decide +kernel
theorem dX3_init_25 : decode cX3_init 25 = .ok (.putfield 18, 3) := by decide +kernel
theorem dX3_init_28 : decode cX3_init 28 = .ok (.aload_n 0, 1) := by decide +kernel
theorem dX3_init_29 : decode cX3_init 29 = .ok (.iconst 0, 1) := by decide +kernel
theorem dX3_init_30 : decode cX3_init 30 = .ok (.putfield 21, 3) := by decide +kernel
theorem dX3_init_33 : decode cX3_init 33 = .ok (.return_, 1) := by decide +kernel
theorem dX3_add_0 : decode cX3_add 0 = .ok (.aload_n 0, 1) := by decide +kernel
theorem dX3_add_1 : decode cX3_add 1 = .ok (.getfield 9, 3) := by decide +kernel
theorem dX3_add_4 : decode cX3_add 4 = .ok (.aload_n 0, 1) := by decide +kernel
theorem dX3_add_5 : decode cX3_add 5 = .ok (.getfield 21, 3) := by decide +kernel
theorem dX3_add_8 : decode cX3_add 8 = .ok (.iload_n 1, 1) := by decide +kernel
theorem dX3_add_9 : decode cX3_add 9 = .ok (.iastore, 1) := by decide +kernel
theorem dX3_add_10 : decode cX3_add 10 = .ok (.aload_n 0, 1) := by decide +kernel
theorem dX3_add_11 : decode cX3_add 11 = .ok (.getfield 15, 3) := by decide +kernel
theorem dX3_add_14 : decode cX3_add 14 = .ok (.aload_n 0, 1) := by decide +kernel
theorem dX3_add_15 : decode cX3_add 15 = .ok (.getfield 21, 3) := by decide +kernel
theorem dX3_add_18 : decode cX3_add 18 = .ok (.iload_n 2, 1) := by decide +kernel
theorem dX3_add_19 : decode cX3_add 19 = .ok (.iastore, 1) := by decide +kernel
theorem dX3_add_20 : decode cX3_add 20 = .ok (.aload_n 0, 1) := by decide +kernel
theorem dX3_add_21 : decode cX3_add 21 = .ok (.getfield 18, 3) := by decide +kernel
theorem dX3_add_24 : decode cX3_add 24 = .ok (.aload_n 0, 1) := by decide +kernel
theorem dX3_add_25 : decode cX3_add 25 = .ok (.getfield 21, 3) := by decide +kernel
theorem dX3_add_28 : decode cX3_add 28 = .ok (.iload_n 3, 1) := by decide +kernel
theorem dX3_add_29 : decode cX3_add 29 = .ok (.iastore, 1) := by decide +kernel
theorem dX3_add_30 : decode cX3_add 30 = .ok (.aload_n 0, 1) := by decide +kernel
theorem dX3_add_31 : decode cX3_add 31 = .ok (.dup, 1) := by decide +kernel
theorem dX3_add_32 : decode cX3_add 32 = .ok (.getfield 21, 3) := by decide +kernel
theorem dX3_add_35 : decode cX3_add 35 = .ok (.iconst 1, 1) := by decide +kernel
theorem dX3_add_36 : decode cX3_add 36 = .ok (.iadd, 1) := by decide +kernel
theorem dX3_add_37 : decode cX3_add 37 = .ok (.putfield 21, 3) := by decide +kernel
theorem dX3_add_40 : decode cX3_add 40 = .ok (.return_, 1) := by decide +kernel
theorem dX3_comesOut_0 : decode cX3_comesOut 0 = .ok (.iconst 0, 1) := by decide +kernel
theorem dX3_comesOut_1 : decode cX3_comesOut 1 = .ok (.istore_n 2, 1) := by decide +kernel
theorem dX3_comesOut_2 : decode cX3_comesOut 2 = .ok (.iload_n 2, 1) := by decide +kernel
theorem dX3_comesOut_3 : decode cX3_comesOut 3 = .ok (.aload_n 0, 1) := by decide +kernel
theorem dX3_comesOut_4 : decode cX3_comesOut 4 = .ok (.getfield 21, 3) := by decide +kernel
theorem dX3_comesOut_7 : decode cX3_comesOut 7 = .ok (.if_icmp .ge 49, 3) := by decide +kernel
theorem dX3_comesOut_10 : decode cX3_comesOut 10 = .ok (.aload_n 0, 1) := by decide +kernel
theorem dX3_comesOut_11 : decode cX3_comesOut 11 = .ok (.getfield 15, 3) := by decide +kernel
theorem dX3_comesOut_14 : decode cX3_comesOut 14 = .ok (.iload_n 2, 1) := by decide +kernel
theorem dX3_comesOut_15 : decode cX3_comesOut 15 = .ok (.iaload, 1) := by decide +kernel
theorem dX3_comesOut_16 : decode cX3_comesOut 16 = .ok (.aload_n 1, 1) := by decide +kernel
theorem dX3_comesOut_17 : decode cX3_comesOut 17 = .ok (.getfield 25, 3) := by decide +kernel
theorem dX3_comesOut_20 : decode cX3_comesOut 20 = .ok (.if_icmp .ge 28, 3) := by decide +kernel
theorem dX3_comesOut_23 : decode cX3_comesOut 23 = .ok (.aload_n 1, 1) := by decide +kernel
theorem dX3_comesOut_24 : decode cX3_comesOut 24 = .ok (.aload_n 0, 1) := by decide +kernel
theorem dX3_comesOut_25 : decode cX3_comesOut 25 = .ok (.getfield 9, 3) := by decide +kernel
theorem dX3_comesOut_28 : decode cX3_comesOut 28 = .ok (.iload_n 2, 1) := by decide +kernel
theorem dX3_comesOut_29 : decode cX3_comesOut 29 = .ok (.iaload, 1) := by decide +kernel
theorem dX3_comesOut_30 : decode cX3_comesOut 30 = .ok (.aload_n 0, 1) := by decide +kernel
theorem dX3_comesOut_31 : decode cX3_comesOut 31 = .ok (.getfield 15, 3) := by decide +kernel
theorem dX3_comesOut_34 : decode cX3_comesOut 34 = .ok (.iload_n 2, 1) := by decide +kernel
theorem dX3_comesOut_35 : decode cX3_comesOut 35 = .ok (.iaload, 1) := by decide +kernel
theorem dX3_comesOut_36 : decode cX3_comesOut 36 = .ok (.invokevirtual 28, 3) := by decide +kernel
theorem dX3_comesOut_39 : decode cX3_comesOut 39 = .ok (.aload_n 0, 1) := by decide +kernel
theorem dX3_comesOut_40 : decode cX3_comesOut 40 = .ok (.getfield 18, 3) := by decide +kernel
theorem dX3_comesOut_43 : decode cX3_comesOut 43 = .ok (.iload_n 2, 1) := by decide +kernel
theorem dX3_comesOut_44 : decode cX3_comesOut 44 = .ok (.iaload, 1) := by decide +kernel
theorem dX3_comesOut_45 : decode cX3_comesOut 45 = .ok (.if_icmp .eq 5, 3) := by decide +kernel
theorem dX3_comesOut_48 : decode cX3_comesOut 48 = .ok (.iconst 0, 1) := by decide +kernel
theorem dX3_comesOut_49 : decode cX3_comesOut 49 = .ok (.ireturn, 1) := by decide +kernel
theorem dX3_comesOut_50 : decode cX3_comesOut 50 = .ok (.iinc 2 1, 3) := by decide +kernel
theorem dX3_comesOut_53 : decode cX3_comesOut 53 = .ok (.goto (-51), 3) := by decide +kernel
theorem dX3_comesOut_56 : decode cX3_comesOut 56 = .ok (.iconst 1, 1) := by decide +kernel
theorem dX3_comesOut_57 : decode cX3_comesOut 57 = .ok (.ireturn, 1) := by decide +kernel
theorem dX4_init_0 : decode cX4_init 0 = .ok (.aload_n 0, 1) := by decide +kernel
theorem dX4_init_1 : decode cX4_init 1 = .ok (.invokespecial 3, 3) := by decide +kernel
theorem dX4_init_4 : decode cX4_init 4 = .ok (.aload_n 0, 1) := by decide +kernel
theorem dX4_init_5 : decode cX4_init 5 = .ok (.bipush 60, 2) := by decide +kernel
theorem dX4_init_7 : decode cX4_init 7 = .ok (.newarray .int, 2) := by decide +kernel
theorem dX4_init_9 : decode cX4_init 9 = .ok (.putfield 9, 3) := by decide +kernel
theorem dX4_init_12 : decode cX4_init 12 = .ok (.aload_n 0, 1) := by decide +kernel
theorem dX4_init_13 : decode cX4_init 13 = .ok (.iconst 0, 1) := by decide +kernel
theorem dX4_init_14 : decode cX4_init 14 = .ok (.putfield 15, 3) := by decide +kernel
theorem dX4_init_17 : decode cX4_init 17 = .ok (.aload_n 0, 1) := by decide +kernel
theorem dX4_init_18 : decode cX4_init 18 = .ok (.iconst 0, 1) := by decide +kernel
theorem dX4_init_19 : decode cX4_init 19 = .ok (.putfield 19, 3) := by decide +kernel
theorem dX4_init_22 : decode cX4_init 22 = .ok (.aload_n 0, 1) := by decide +kernel
theorem dX4_init_23 : decode cX4_init 23 = .ok (.iconst 1, 1) := by decide +kernel
theorem dX4_init_24 : decode cX4_init 24 = .ok (.putfield 22, 3) := by decide +kernel
theorem dX4_init_27 : decode cX4_init 27 = .ok (.return_, 1) := by decide +kernel
theorem dX4_renew_0 : decode cX4_renew 0 = .ok (.aload_n 0, 1) := by decide +kernel
theorem dX4_renew_1 : decode cX4_renew 1 = .ok (.getfield 9, 3) := by decide +kernel
theorem dX4_renew_4 : decode cX4_renew 4 = .ok (.iconst 0, 1) := by decide +kernel
theorem dX4_renew_5 : decode cX4_renew 5 = .ok (.invokestatic 26, 3) := by decide +kernel
theorem dX4_renew_8 : decode cX4_renew 8 = .ok (.aload_n 0, 1) := by decide +kernel
theorem dX4_renew_9 : decode cX4_renew 9 = .ok (.iload_n 1, 1) := by decide +kernel
theorem dX4_renew_10 : decode cX4_renew 10 = .ok (.putfield 15, 3) := by decide +kernel
theorem dX4_renew_13 : decode cX4_renew 13 = .ok (.aload_n 0, 1) := by decide +kernel
theorem dX4_renew_14 : decode cX4_renew 14 = .ok (.iload_n 2, 1) := by decide +kernel
theorem dX4_renew_15 : decode cX4_renew 15 = .ok (.putfield 19, 3) := by decide +kernel
theorem dX4_renew_18 : decode cX4_renew 18 = .ok (.aload_n 0, 1) := by decide +kernel
theorem dX4_renew_19 : decode cX4_renew 19 = .ok (.iconst 0, 1) := by decide +kernel
theorem dX4_renew_20 : decode cX4_renew 20 = .ok (.putfield 22, 3) := by decide +kernel
theorem dX4_renew_23 : decode cX4_renew 23 = .ok (.return_, 1) := by decide +kernel
theorem dX4_flaw_0 : decode cX4_flaw 0 = .ok (.aload_n 0, 1) := by decide +kernel
theorem dX4_flaw_1 : decode cX4_flaw 1 = .ok (.getfield 22, 3) := by decide +kernel
theorem dX4_flaw_4 : decode cX4_flaw 4 = .ok (.ifCond .eq 5, 3) := by decide +kernel
theorem dX4_flaw_7 : decode cX4_flaw 7 = .ok (.iconst 1, 1) := by decide +kernel
theorem dX4_flaw_8 : decode cX4_flaw 8 = .ok (.ireturn, 1) := by decide +kernel
theorem dX4_flaw_9 : decode cX4_flaw 9 = .ok (.aload_n 0, 1) := by decide +kernel
theorem dX4_flaw_10 : decode cX4_flaw 10 = .ok (.getfield 15, 3) := by decide +kernel
theorem dX4_flaw_13 : decode cX4_flaw 13 = .ok (.iload_n 1, 1) := by decide +kernel
theorem dX4_flaw_14 : decode cX4_flaw 14 = .ok (.if_icmp .eq 5, 3) := by decide +kernel
theorem dX4_flaw_17 : decode cX4_flaw 17 = .ok (.iconst 3, 1) := by decide +kernel
theorem dX4_flaw_18 : decode cX4_flaw 18 = .ok (.ireturn, 1) := by decide +kernel
theorem dX4_flaw_19 : decode cX4_flaw 19 = .ok (.iload_n 2, 1) := by decide +kernel
theorem dX4_flaw_20 : decode cX4_flaw 20 = .ok (.ifCond .lt 11, 3) := by decide +kernel
theorem dX4_flaw_23 : decode cX4_flaw 23 = .ok (.iload_n 2, 1) := by decide +kernel
theorem dX4_flaw_24 : decode cX4_flaw 24 = .ok (.aload_n 0, 1) := by decide +kernel
theorem dX4_flaw_25 : decode cX4_flaw 25 = .ok (.getfield 19, 3) := by decide +kernel
theorem dX4_flaw_28 : decode cX4_flaw 28 = .ok (.if_icmp .lt 7, 3) := by decide +kernel
theorem dX4_flaw_31 : decode cX4_flaw 31 = .ok (.iconst 2, 1) := by decide +kernel
theorem dX4_flaw_32 : decode cX4_flaw 32 = .ok (.goto 4, 3) := by decide +kernel
theorem dX4_flaw_35 : decode cX4_flaw 35 = .ok (.iconst 0, 1) := by decide +kernel
theorem dX4_flaw_36 : decode cX4_flaw 36 = .ok (.ireturn, 1) := by decide +kernel
theorem dX4_hasSpan_0 : decode cX4_hasSpan 0 = .ok (.iload_n 1, 1) := by decide +kernel
theorem dX4_hasSpan_1 : decode cX4_hasSpan 1 = .ok (.ifCond .lt 29, 3) := by decide +kernel
theorem dX4_hasSpan_4 : decode cX4_hasSpan 4 = .ok (.iload_n 2, 1) := by decide +kernel
theorem dX4_hasSpan_5 : decode cX4_hasSpan 5 = .ok (.ifCond .lt 25, 3) := by decide +kernel
theorem dX4_hasSpan_8 : decode cX4_hasSpan 8 = .ok (.iload_n 1, 1) := by decide +kernel
theorem dX4_hasSpan_9 : decode cX4_hasSpan 9 = .ok (.aload_n 0, 1) := by decide +kernel
theorem dX4_hasSpan_10 : decode cX4_hasSpan 10 = .ok (.getfield 19, 3) := by decide +kernel
theorem dX4_hasSpan_13 : decode cX4_hasSpan 13 = .ok (.if_icmp .gt 17, 3) := by decide +kernel
theorem dX4_hasSpan_16 : decode cX4_hasSpan 16 = .ok (.iload_n 2, 1) := by decide +kernel
theorem dX4_hasSpan_17 : decode cX4_hasSpan 17 = .ok (.aload_n 0, 1) := by decide +kernel
theorem dX4_hasSpan_18 : decode cX4_hasSpan 18 = .ok (.getfield 19, 3) := by decide +kernel
theorem dX4_hasSpan_21 : decode cX4_hasSpan 21 = .ok (.iload_n 1, 1) := by decide +kernel
theorem dX4_hasSpan_22 : decode cX4_hasSpan 22 = .ok (.isub, 1) := by decide +kernel
theorem dX4_hasSpan_23 : decode cX4_hasSpan 23 = .ok (.if_icmp .gt 7, 3) := by decide +kernel
theorem dX4_hasSpan_26 : decode cX4_hasSpan 26 = .ok (.iconst 1, 1) := by decide +kernel
theorem dX4_hasSpan_27 : decode cX4_hasSpan 27 = .ok (.goto 4, 3) := by decide +kernel
theorem dX4_hasSpan_30 : decode cX4_hasSpan 30 = .ok (.iconst 0, 1) := by decide +kernel
theorem dX4_hasSpan_31 : decode cX4_hasSpan 31 = .ok (.ireturn, 1) := by decide +kernel
theorem dX4_put_0 : decode cX4_put 0 = .ok (.aload_n 0, 1) := by decide +kernel
theorem dX4_put_1 : decode cX4_put 1 = .ok (.getfield 15, 3) := by decide +kernel
theorem dX4_put_4 : decode cX4_put 4 = .ok (.ifCond .ne 14, 3) := by decide +kernel
theorem dX4_put_7 : decode cX4_put 7 = .ok (.aload_n 0, 1) := by decide +kernel
theorem dX4_put_8 : decode cX4_put 8 = .ok (.getfield 9, 3) := by decide +kernel
theorem dX4_put_11 : decode cX4_put 11 = .ok (.iload_n 1, 1) := by decide +kernel
theorem dX4_put_12 : decode cX4_put 12 = .ok (.iload_n 2, 1) := by decide +kernel
theorem dX4_put_13 : decode cX4_put 13 = .ok (.i2b, 1) := by decide +kernel
theorem dX4_put_14 : decode cX4_put 14 = .ok (.iastore, 1) := by decide +kernel
theorem dX4_put_15 : decode cX4_put 15 = .ok (.goto 29, 3) := by decide +kernel
theorem dX4_put_18 : decode cX4_put 18 = .ok (.aload_n 0, 1) := by decide +kernel
theorem dX4_put_19 : decode cX4_put 19 = .ok (.getfield 15, 3) := by decide +kernel
theorem dX4_put_22 : decode cX4_put 22 = .ok (.iconst 1, 1) := by decide +kernel
theorem dX4_put_23 : decode cX4_put 23 = .ok (.if_icmp .ne 14, 3) := by decide +kernel
theorem dX4_put_26 : decode cX4_put 26 = .ok (.aload_n 0, 1) := by decide +kernel
theorem dX4_put_27 : decode cX4_put 27 = .ok (.getfield 9, 3) := by decide +kernel
theorem dX4_put_30 : decode cX4_put 30 = .ok (.iload_n 1, 1) := by decide +kernel
theorem dX4_put_31 : decode cX4_put 31 = .ok (.iload_n 2, 1) := by decide +kernel
theorem dX4_put_32 : decode cX4_put 32 = .ok (.i2s, 1) := by decide +kernel
theorem dX4_put_33 : decode cX4_put 33 = .ok (.iastore, 1) := by decide +kernel
theorem dX4_put_34 : decode cX4_put 34 = .ok (.goto 10, 3) := by decide +kernel
theorem dX4_put_37 : decode cX4_put 37 = .ok (.aload_n 0, 1) := by decide +kernel
theorem dX4_put_38 : decode cX4_put 38 = .ok (.getfield 9, 3) := by decide +kernel
theorem dX4_put_41 : decode cX4_put 41 = .ok (.iload_n 1, 1) := by decide +kernel
theorem dX4_put_42 : decode cX4_put 42 = .ok (.iload_n 2, 1) := by decide +kernel
theorem dX4_put_43 : decode cX4_put 43 = .ok (.iastore, 1) := by decide +kernel
theorem dX4_put_44 : decode cX4_put 44 = .ok (.return_, 1) := by decide +kernel
theorem dX5_init_0 : decode cX5_init 0 = .ok (.aload_n 0, 1) := by decide +kernel
theorem dX5_init_1 : decode cX5_init 1 = .ok (.invokespecial 3, 3) := by decide +kernel
theorem dX5_init_4 : decode cX5_init 4 = .ok (.aload_n 0, 1) := by decide +kernel
theorem dX5_init_5 : decode cX5_init 5 = .ok (.bipush 8, 2) := by decide +kernel
theorem dX5_init_7 : decode cX5_init 7 = .ok (.newarray .int, 2) := by decide +kernel
theorem dX5_init_9 : decode cX5_init 9 = .ok (.putfield 9, 3) := by decide +kernel
theorem dX5_init_12 : decode cX5_init 12 = .ok (.aload_n 0, 1) := by decide +kernel
theorem dX5_init_13 : decode cX5_init 13 = .ok (.bipush 8, 2) := by decide +kernel
theorem dX5_init_15 : decode cX5_init 15 = .ok (.newarray .int, 2) := by decide +kernel
theorem dX5_init_17 : decode cX5_init 17 = .ok (.putfield 15, 3) := by decide +kernel
theorem dX5_init_20 : decode cX5_init 20 = .ok (.aload_n 0, 1) := by decide +kernel
theorem dX5_init_21 : decode cX5_init 21 = .ok (.bipush 8, 2) := by decide +kernel
theorem dX5_init_23 : decode cX5_init 23 = .ok (.newarray .int, 2) := by decide +kernel
theorem dX5_init_25 : decode cX5_init 25 = .ok (.putfield 18, 3) := by decide +kernel
theorem dX5_init_28 : decode cX5_init 28 = .ok (.aload_n 0, 1) := by decide +kernel
theorem dX5_init_29 : decode cX5_init 29 = .ok (.iconst 0, 1) := by decide +kernel
theorem dX5_init_30 : decode cX5_init 30 = .ok (.putfield 21, 3) := by decide +kernel
theorem dX5_init_33 : decode cX5_init 33 = .ok (.return_, 1) := by decide +kernel
theorem dX5_takeFrom_0 : decode cX5_takeFrom 0 = .ok (.aload_n 0, 1) := by decide +kernel
theorem dX5_takeFrom_1 : decode cX5_takeFrom 1 = .ok (.iconst 0, 1) := by decide +kernel
theorem dX5_takeFrom_2 : decode cX5_takeFrom 2 = .ok (.putfield 21, 3) := by decide +kernel
theorem dX5_takeFrom_5 : decode cX5_takeFrom 5 = .ok (.aload_n 1, 1) := by decide +kernel
theorem dX5_takeFrom_6 : decode cX5_takeFrom 6 = .ok (.invokevirtual 25, 3) := by decide +kernel
theorem dX5_takeFrom_9 : decode cX5_takeFrom 9 = .ok (.iconst (-1), 1) := by decide +kernel
theorem dX5_takeFrom_10 : decode cX5_takeFrom 10 = .ok (.if_icmp .eq 4, 3) := by decide +kernel
theorem dX5_takeFrom_13 : decode cX5_takeFrom 13 = .ok (.return_, 1) := by decide +kernel
theorem dX5_takeFrom_14 : decode cX5_takeFrom 14 = .ok (.iconst 0, 1) := by decide +kernel
theorem dX5_takeFrom_15 : decode cX5_takeFrom 15 = .ok (.istore_n 2, 1) := by decide +kernel
theorem dX5_takeFrom_16 : decode cX5_takeFrom 16 = .ok (.iload_n 2, 1) := by decide +kernel
theorem dX5_takeFrom_17 : decode cX5_takeFrom 17 = .ok (.iconst 2, 1) := by decide +kernel
theorem dX5_takeFrom_18 : decode cX5_takeFrom 18 = .ok (.iadd, 1) := by decide +kernel
theorem dX5_takeFrom_19 : decode cX5_takeFrom 19 = .ok (.aload_n 1, 1) := by decide +kernel
theorem dX5_takeFrom_20 : decode cX5_takeFrom 20 = .ok (.getfield 31, 3) := by decide +kernel
theorem dX5_takeFrom_23 : decode cX5_takeFrom 23 = .ok (.if_icmp .ge 86, 3) := by decide +kernel
theorem dX5_takeFrom_26 : decode cX5_takeFrom 26 = .ok (.aload_n 0, 1) := by decide +kernel
theorem dX5_takeFrom_27 : decode cX5_takeFrom 27 = .ok (.getfield 21, 3) := by decide +kernel
theorem dX5_takeFrom_30 : decode cX5_takeFrom 30 = .ok (.bipush 8, 2) := by decide +kernel
theorem dX5_takeFrom_32 : decode cX5_takeFrom 32 = .ok (.if_icmp .ge 77, 3) := by decide +kernel
theorem dX5_takeFrom_35 : decode cX5_takeFrom 35 = .ok (.aload_n 0, 1) := by decide +kernel
theorem dX5_takeFrom_36 : decode cX5_takeFrom 36 = .ok (.getfield 9, 3) := by decide +kernel
theorem dX5_takeFrom_39 : decode cX5_takeFrom 39 = .ok (.aload_n 0, 1) := by decide +kernel
theorem dX5_takeFrom_40 : decode cX5_takeFrom 40 = .ok (.getfield 21, 3) := by decide +kernel
theorem dX5_takeFrom_43 : decode cX5_takeFrom 43 = .ok (.aload_n 1, 1) := by decide +kernel
theorem dX5_takeFrom_44 : decode cX5_takeFrom 44 = .ok (.getfield 32, 3) := by decide +kernel
theorem dX5_takeFrom_47 : decode cX5_takeFrom 47 = .ok (.iload_n 2, 1) := by decide +kernel
theorem dX5_takeFrom_48 : decode cX5_takeFrom 48 = .ok (.iaload, 1) := by decide +kernel
theorem dX5_takeFrom_49 : decode cX5_takeFrom 49 = .ok (.invokestatic 35, 3) := by decide +kernel
theorem dX5_takeFrom_52 : decode cX5_takeFrom 52 = .ok (.iastore, 1) := by decide +kernel
theorem dX5_takeFrom_53 : decode cX5_takeFrom 53 = .ok (.aload_n 0, 1) := by decide +kernel
theorem dX5_takeFrom_54 : decode cX5_takeFrom 54 = .ok (.getfield 15, 3) := by decide +kernel
theorem dX5_takeFrom_57 : decode cX5_takeFrom 57 = .ok (.aload_n 0, 1) := by decide +kernel
theorem dX5_takeFrom_58 : decode cX5_takeFrom 58 = .ok (.getfield 21, 3) := by decide +kernel
theorem dX5_takeFrom_61 : decode cX5_takeFrom 61 = .ok (.aload_n 1, 1) := by decide +kernel
theorem dX5_takeFrom_62 : decode cX5_takeFrom 62 = .ok (.getfield 32, 3) := by decide +kernel
theorem dX5_takeFrom_65 : decode cX5_takeFrom 65 = .ok (.iload_n 2, 1) := by decide +kernel
theorem dX5_takeFrom_66 : decode cX5_takeFrom 66 = .ok (.iconst 1, 1) := by decide +kernel
theorem dX5_takeFrom_67 : decode cX5_takeFrom 67 = .ok (.iadd, 1) := by decide +kernel
theorem dX5_takeFrom_68 : decode cX5_takeFrom 68 = .ok (.iaload, 1) := by decide +kernel
theorem dX5_takeFrom_69 : decode cX5_takeFrom 69 = .ok (.bipush 48, 2) := by decide +kernel
theorem dX5_takeFrom_71 : decode cX5_takeFrom 71 = .ok (.isub, 1) := by decide +kernel
theorem dX5_takeFrom_72 : decode cX5_takeFrom 72 = .ok (.iastore, 1) := by decide +kernel
theorem dX5_takeFrom_73 : decode cX5_takeFrom 73 = .ok (.aload_n 0, 1) := by decide +kernel
theorem dX5_takeFrom_74 : decode cX5_takeFrom 74 = .ok (.getfield 18, 3) := by decide +kernel
theorem dX5_takeFrom_77 : decode cX5_takeFrom 77 = .ok (.aload_n 0, 1) := by decide +kernel
theorem dX5_takeFrom_78 : decode cX5_takeFrom 78 = .ok (.getfield 21, 3) := by decide +kernel
theorem dX5_takeFrom_81 : decode cX5_takeFrom 81 = .ok (.aload_n 1, 1) := by decide +kernel
theorem dX5_takeFrom_82 : decode cX5_takeFrom 82 = .ok (.getfield 32, 3) := by decide +kernel
theorem dX5_takeFrom_85 : decode cX5_takeFrom 85 = .ok (.iload_n 2, 1) := by decide +kernel
theorem dX5_takeFrom_86 : decode cX5_takeFrom 86 = .ok (.iconst 2, 1) := by decide +kernel
theorem dX5_takeFrom_87 : decode cX5_takeFrom 87 = .ok (.iadd, 1) := by decide +kernel
theorem dX5_takeFrom_88 : decode cX5_takeFrom 88 = .ok (.iaload, 1) := by decide +kernel
theorem dX5_takeFrom_89 : decode cX5_takeFrom 89 = .ok (.bipush 48, 2) := by decide +kernel
theorem dX5_takeFrom_91 : decode cX5_takeFrom 91 = .ok (.isub, 1) := by decide +kernel
theorem dX5_takeFrom_92 : decode cX5_takeFrom 92 = .ok (.iastore, 1) := by decide +kernel
theorem dX5_takeFrom_93 : decode cX5_takeFrom 93 = .ok (.aload_n 0, 1) := by decide +kernel
theorem dX5_takeFrom_94 : decode cX5_takeFrom 94 = .ok (.dup, 1) := by decide +kernel
theorem dX5_takeFrom_95 : decode cX5_takeFrom 95 = .ok (.getfield 21, 3) := by decide +kernel
theorem dX5_takeFrom_98 : decode cX5_takeFrom 98 = .ok (.iconst 1, 1) := by decide +kernel
theorem dX5_takeFrom_99 : decode cX5_takeFrom 99 = .ok (.iadd, 1) := by decide +kernel
theorem dX5_takeFrom_100 : decode cX5_takeFrom 100 = .ok (.putfield 21, 3) := by decide +kernel
theorem dX5_takeFrom_103 : decode cX5_takeFrom 103 = .ok (.iinc 2 4, 3) := by decide +kernel
theorem dX5_takeFrom_106 : decode cX5_takeFrom 106 = .ok (.goto (-90), 3) := by decide +kernel
theorem dX5_takeFrom_109 : decode cX5_takeFrom 109 = .ok (.return_, 1) := by decide +kernel
theorem dX5_copyOf_0 : decode cX5_copyOf 0 = .ok (.aload_n 0, 1) := by decide +kernel
theorem dX5_copyOf_1 : decode cX5_copyOf 1 = .ok (.aload_n 1, 1) := by decide +kernel
theorem dX5_copyOf_2 : decode cX5_copyOf 2 = .ok (.getfield 21, 3) := by decide +kernel
theorem dX5_copyOf_5 : decode cX5_copyOf 5 = .ok (.putfield 21, 3) := by decide +kernel
theorem dX5_copyOf_8 : decode cX5_copyOf 8 = .ok (.iconst 0, 1) := by decide +kernel
theorem dX5_copyOf_9 : decode cX5_copyOf 9 = .ok (.istore_n 2, 1) := by decide +kernel
theorem dX5_copyOf_10 : decode cX5_copyOf 10 = .ok (.iload_n 2, 1) := by decide +kernel
theorem dX5_copyOf_11 : decode cX5_copyOf 11 = .ok (.bipush 8, 2) := by decide +kernel
theorem dX5_copyOf_13 : decode cX5_copyOf 13 = .ok (.if_icmp .ge 45, 3) := by decide +kernel
theorem dX5_copyOf_16 : decode cX5_copyOf 16 = .ok (.aload_n 0, 1) := by decide +kernel
theorem dX5_copyOf_17 : decode cX5_copyOf 17 = .ok (.getfield 9, 3) := by decide +kernel
theorem dX5_copyOf_20 : decode cX5_copyOf 20 = .ok (.iload_n 2, 1) := by decide +kernel
theorem dX5_copyOf_21 : decode cX5_copyOf 21 = .ok (.aload_n 1, 1) := by decide +kernel
theorem dX5_copyOf_22 : decode cX5_copyOf 22 = .ok (.getfield 9, 3) := by decide +kernel
theorem dX5_copyOf_25 : decode cX5_copyOf 25 = .ok (.iload_n 2, 1) := by decide +kernel
theorem dX5_copyOf_26 : decode cX5_copyOf 26 = .ok (.iaload, 1) := by decide +kernel
theorem dX5_copyOf_27 : decode cX5_copyOf 27 = .ok (.iastore, 1) := by decide +kernel
theorem dX5_copyOf_28 : decode cX5_copyOf 28 = .ok (.aload_n 0, 1) := by decide +kernel
theorem dX5_copyOf_29 : decode cX5_copyOf 29 = .ok (.getfield 15, 3) := by decide +kernel
theorem dX5_copyOf_32 : decode cX5_copyOf 32 = .ok (.iload_n 2, 1) := by decide +kernel
theorem dX5_copyOf_33 : decode cX5_copyOf 33 = .ok (.aload_n 1, 1) := by decide +kernel
theorem dX5_copyOf_34 : decode cX5_copyOf 34 = .ok (.getfield 15, 3) := by decide +kernel
theorem dX5_copyOf_37 : decode cX5_copyOf 37 = .ok (.iload_n 2, 1) := by decide +kernel
theorem dX5_copyOf_38 : decode cX5_copyOf 38 = .ok (.iaload, 1) := by decide +kernel
theorem dX5_copyOf_39 : decode cX5_copyOf 39 = .ok (.iastore, 1) := by decide +kernel
theorem dX5_copyOf_40 : decode cX5_copyOf 40 = .ok (.aload_n 0, 1) := by decide +kernel
theorem dX5_copyOf_41 : decode cX5_copyOf 41 = .ok (.getfield 18, 3) := by decide +kernel
theorem dX5_copyOf_44 : decode cX5_copyOf 44 = .ok (.iload_n 2, 1) := by decide +kernel
theorem dX5_copyOf_45 : decode cX5_copyOf 45 = .ok (.aload_n 1, 1) := by decide +kernel
theorem dX5_copyOf_46 : decode cX5_copyOf 46 = .ok (.getfield 18, 3) := by decide +kernel
theorem dX5_copyOf_49 : decode cX5_copyOf 49 = .ok (.iload_n 2, 1) := by decide +kernel
theorem dX5_copyOf_50 : decode cX5_copyOf 50 = .ok (.iaload, 1) := by decide +kernel
theorem dX5_copyOf_51 : decode cX5_copyOf 51 = .ok (.iastore, 1) := by decide +kernel
theorem dX5_copyOf_52 : decode cX5_copyOf 52 = .ok (.iinc 2 1, 3) := by decide +kernel
theorem dX5_copyOf_55 : decode cX5_copyOf 55 = .ok (.goto (-45), 3) := by decide +kernel
theorem dX5_copyOf_58 : decode cX5_copyOf 58 = .ok (.return_, 1) := by decide +kernel
theorem dX5_drawLots_0 : decode cX5_drawLots 0 = .ok (.iload_n 1, 1) := by decide +kernel
theorem dX5_drawLots_1 : decode cX5_drawLots 1 = .ok (.istore_n 3, 1) := by decide +kernel
theorem dX5_drawLots_2 : decode cX5_drawLots 2 = .ok (.aload_n 0, 1) := by decide +kernel
theorem dX5_drawLots_3 : decode cX5_drawLots 3 = .ok (.iload_n 2, 1) := by decide +kernel
theorem dX5_drawLots_4 : decode cX5_drawLots 4 = .ok (.putfield 21, 3) := by decide +kernel
theorem dX5_drawLots_7 : decode cX5_drawLots 7 = .ok (.iconst 0, 1) := by decide +kernel
theorem dX5_drawLots_8 : decode cX5_drawLots 8 = .ok (.istore 4, 2) := by decide +kernel
theorem dX5_drawLots_10 : decode cX5_drawLots 10 = .ok (.iload 4, 2) := by decide +kernel
theorem dX5_drawLots_12 : decode cX5_drawLots 12 = .ok (.iload_n 2, 1) := by decide +kernel
theorem dX5_drawLots_13 : decode cX5_drawLots 13 = .ok (.if_icmp .ge 62, 3) := by decide +kernel
theorem dX5_drawLots_16 : decode cX5_drawLots 16 = .ok (.iload_n 3, 1) := by decide +kernel
theorem dX5_drawLots_17 : decode cX5_drawLots 17 = .ok (.invokestatic 39, 3) := by decide +kernel
theorem dX5_drawLots_20 : decode cX5_drawLots 20 = .ok (.istore_n 3, 1) := by decide +kernel
theorem dX5_drawLots_21 : decode cX5_drawLots 21 = .ok (.aload_n 0, 1) := by decide +kernel
theorem dX5_drawLots_22 : decode cX5_drawLots 22 = .ok (.getfield 9, 3) := by decide +kernel
theorem dX5_drawLots_25 : decode cX5_drawLots 25 = .ok (.iload 4, 2) := by decide +kernel
theorem dX5_drawLots_27 : decode cX5_drawLots 27 = .ok (.iload_n 3, 1) := by decide +kernel
theorem dX5_drawLots_28 : decode cX5_drawLots 28 = .ok (.iconst 4, 1) := by decide +kernel
theorem dX5_drawLots_29 : decode cX5_drawLots 29 = .ok (.invokestatic 42, 3) := by decide +kernel
theorem dX5_drawLots_32 : decode cX5_drawLots 32 = .ok (.iastore, 1) := by decide +kernel
theorem dX5_drawLots_33 : decode cX5_drawLots 33 = .ok (.iload_n 3, 1) := by decide +kernel
theorem dX5_drawLots_34 : decode cX5_drawLots 34 = .ok (.invokestatic 39, 3) := by decide +kernel
theorem dX5_drawLots_37 : decode cX5_drawLots 37 = .ok (.istore_n 3, 1) := by decide +kernel
theorem dX5_drawLots_38 : decode cX5_drawLots 38 = .ok (.aload_n 0, 1) := by decide +kernel
theorem dX5_drawLots_39 : decode cX5_drawLots 39 = .ok (.getfield 15, 3) := by decide +kernel
theorem dX5_drawLots_42 : decode cX5_drawLots 42 = .ok (.iload 4, 2) := by decide +kernel
theorem dX5_drawLots_44 : decode cX5_drawLots 44 = .ok (.iload_n 3, 1) := by decide +kernel
theorem dX5_drawLots_45 : decode cX5_drawLots 45 = .ok (.bipush 10, 2) := by decide +kernel
theorem dX5_drawLots_47 : decode cX5_drawLots 47 = .ok (.invokestatic 42, 3) := by decide +kernel
theorem dX5_drawLots_50 : decode cX5_drawLots 50 = .ok (.iastore, 1) := by decide +kernel
theorem dX5_drawLots_51 : decode cX5_drawLots 51 = .ok (.iload_n 3, 1) := by decide +kernel
theorem dX5_drawLots_52 : decode cX5_drawLots 52 = .ok (.invokestatic 39, 3) := by decide +kernel
theorem dX5_drawLots_55 : decode cX5_drawLots 55 = .ok (.istore_n 3, 1) := by decide +kernel
theorem dX5_drawLots_56 : decode cX5_drawLots 56 = .ok (.aload_n 0, 1) := by decide +kernel
theorem dX5_drawLots_57 : decode cX5_drawLots 57 = .ok (.getfield 18, 3) := by decide +kernel
theorem dX5_drawLots_60 : decode cX5_drawLots 60 = .ok (.iload 4, 2) := by decide +kernel
theorem dX5_drawLots_62 : decode cX5_drawLots 62 = .ok (.iload_n 3, 1) := by decide +kernel
theorem dX5_drawLots_63 : decode cX5_drawLots 63 = .ok (.bipush 10, 2) := by decide +kernel
theorem dX5_drawLots_65 : decode cX5_drawLots 65 = .ok (.invokestatic 42, 3) := by decide +kernel
theorem dX5_drawLots_68 : decode cX5_drawLots 68 = .ok (.iastore, 1) := by decide +kernel
theorem dX5_drawLots_69 : decode cX5_drawLots 69 = .ok (.iinc 4 1, 3) := by decide +kernel
theorem dX5_drawLots_72 : decode cX5_drawLots 72 = .ok (.goto (-62), 3) := by decide +kernel
theorem dX5_drawLots_75 : decode cX5_drawLots 75 = .ok (.return_, 1) := by decide +kernel
theorem dX5_nextSeed_0 : decode cX5_nextSeed 0 = .ok (.ldc 46, 2) := by decide +kernel
theorem dX5_nextSeed_2 : decode cX5_nextSeed 2 = .ok (.iload_n 0, 1) := by decide +kernel
theorem dX5_nextSeed_3 : decode cX5_nextSeed 3 = .ok (.imul, 1) := by decide +kernel
theorem dX5_nextSeed_4 : decode cX5_nextSeed 4 = .ok (.sipush 12345, 3) := by decide +kernel
theorem dX5_nextSeed_7 : decode cX5_nextSeed 7 = .ok (.iadd, 1) := by decide +kernel
theorem dX5_nextSeed_8 : decode cX5_nextSeed 8 = .ok (.ireturn, 1) := by decide +kernel
theorem dX5_lot_0 : decode cX5_lot 0 = .ok (.iload_n 1, 1) := by decide +kernel
theorem dX5_lot_1 : decode cX5_lot 1 = .ok (.ifCond .le 12, 3) := by decide +kernel
theorem dX5_lot_4 : decode cX5_lot 4 = .ok (.iload_n 0, 1) := by decide +kernel
theorem dX5_lot_5 : decode cX5_lot 5 = .ok (.bipush 16, 2) := by decide +kernel
theorem dX5_lot_7 : decode cX5_lot 7 = .ok (.iushr, 1) := by decide +kernel
theorem dX5_lot_8 : decode cX5_lot 8 = .ok (.iload_n 1, 1) := by decide +kernel
theorem dX5_lot_9 : decode cX5_lot 9 = .ok (.irem, 1) := by decide +kernel
theorem dX5_lot_10 : decode cX5_lot 10 = .ok (.goto 4, 3) := by decide +kernel
theorem dX5_lot_13 : decode cX5_lot 13 = .ok (.iconst 0, 1) := by decide +kernel
theorem dX5_lot_14 : decode cX5_lot 14 = .ok (.ireturn, 1) := by decide +kernel
theorem dX6_init_0 : decode cX6_init 0 = .ok (.aload_n 0, 1) := by decide +kernel
theorem dX6_init_1 : decode cX6_init 1 = .ok (.invokespecial 3, 3) := by decide +kernel
theorem dX6_init_4 : decode cX6_init 4 = .ok (.aload_n 0, 1) := by decide +kernel
theorem dX6_init_5 : decode cX6_init 5 = .ok (.bipush 31, 2) := by decide +kernel
theorem dX6_init_7 : decode cX6_init 7 = .ok (.newarray .int, 2) := by decide +kernel
theorem dX6_init_9 : decode cX6_init 9 = .ok (.putfield 9, 3) := by decide +kernel
theorem dX6_init_12 : decode cX6_init 12 = .ok (.aload_n 0, 1) := by decide +kernel
theorem dX6_init_13 : decode cX6_init 13 = .ok (.iconst 0, 1) := by decide +kernel
theorem dX6_init_14 : decode cX6_init 14 = .ok (.putfield 15, 3) := by decide +kernel
theorem dX6_init_17 : decode cX6_init 17 = .ok (.return_, 1) := by decide +kernel
theorem dX6_faultPlace_0 : decode cX6_faultPlace 0 = .ok (.iconst 0, 1) := by decide +kernel
theorem dX6_faultPlace_1 : decode cX6_faultPlace 1 = .ok (.istore_n 1, 1) := by decide +kernel
theorem dX6_faultPlace_2 : decode cX6_faultPlace 2 = .ok (.iload_n 1, 1) := by decide +kernel
theorem dX6_faultPlace_3 : decode cX6_faultPlace 3 = .ok (.aload_n 0, 1) := by decide +kernel
theorem dX6_faultPlace_4 : decode cX6_faultPlace 4 = .ok (.getfield 15, 3) := by decide +kernel
theorem dX6_faultPlace_7 : decode cX6_faultPlace 7 = .ok (.if_icmp .ge 34, 3) := by decide +kernel
theorem dX6_faultPlace_10 : decode cX6_faultPlace 10 = .ok (.iload_n 1, 1) := by decide +kernel
theorem dX6_faultPlace_11 : decode cX6_faultPlace 11 = .ok (.iconst 4, 1) := by decide +kernel
theorem dX6_faultPlace_12 : decode cX6_faultPlace 12 = .ok (.idiv, 1) := by decide +kernel
theorem dX6_faultPlace_13 : decode cX6_faultPlace 13 = .ok (.bipush 8, 2) := by decide +kernel
theorem dX6_faultPlace_15 : decode cX6_faultPlace 15 = .ok (.if_icmp .ge 18, 3) := by decide +kernel
theorem dX6_faultPlace_18 : decode cX6_faultPlace 18 = .ok (.iload_n 1, 1) := by decide +kernel
theorem dX6_faultPlace_19 : decode cX6_faultPlace 19 = .ok (.iconst 4, 1) := by decide +kernel
theorem dX6_faultPlace_20 : decode cX6_faultPlace 20 = .ok (.irem, 1) := by decide +kernel
theorem dX6_faultPlace_21 : decode cX6_faultPlace 21 = .ok (.aload_n 0, 1) := by decide +kernel
theorem dX6_faultPlace_22 : decode cX6_faultPlace 22 = .ok (.getfield 9, 3) := by decide +kernel
theorem dX6_faultPlace_25 : decode cX6_faultPlace 25 = .ok (.iload_n 1, 1) := by decide +kernel
theorem dX6_faultPlace_26 : decode cX6_faultPlace 26 = .ok (.iaload, 1) := by decide +kernel
theorem dX6_faultPlace_27 : decode cX6_faultPlace 27 = .ok (.invokestatic 19, 3) := by decide +kernel
theorem dX6_faultPlace_30 : decode cX6_faultPlace 30 = .ok (.ifCond .ne 5, 3) := by decide +kernel
theorem dX6_faultPlace_33 : decode cX6_faultPlace 33 = .ok (.iload_n 1, 1) := by decide +kernel
theorem dX6_faultPlace_34 : decode cX6_faultPlace 34 = .ok (.ireturn, 1) := by decide +kernel
theorem dX6_faultPlace_35 : decode cX6_faultPlace 35 = .ok (.iinc 1 1, 3) := by decide +kernel
theorem dX6_faultPlace_38 : decode cX6_faultPlace 38 = .ok (.goto (-36), 3) := by decide +kernel
theorem dX6_faultPlace_41 : decode cX6_faultPlace 41 = .ok (.aload_n 0, 1) := by decide +kernel
theorem dX6_faultPlace_42 : decode cX6_faultPlace 42 = .ok (.getfield 15, 3) := by decide +kernel
theorem dX6_faultPlace_45 : decode cX6_faultPlace 45 = .ok (.ifCond .eq 13, 3) := by decide +kernel
theorem dX6_faultPlace_48 : decode cX6_faultPlace 48 = .ok (.aload_n 0, 1) := by decide +kernel
theorem dX6_faultPlace_49 : decode cX6_faultPlace 49 = .ok (.getfield 15, 3) := by decide +kernel
theorem dX6_faultPlace_52 : decode cX6_faultPlace 52 = .ok (.iconst 4, 1) := by decide +kernel
theorem dX6_faultPlace_53 : decode cX6_faultPlace 53 = .ok (.irem, 1) := by decide +kernel
theorem dX6_faultPlace_54 : decode cX6_faultPlace 54 = .ok (.iconst 3, 1) := by decide +kernel
theorem dX6_faultPlace_55 : decode cX6_faultPlace 55 = .ok (.if_icmp .ne 7, 3) := by decide +kernel
theorem dX6_faultPlace_58 : decode cX6_faultPlace 58 = .ok (.iconst (-1), 1) := by decide +kernel
theorem dX6_faultPlace_59 : decode cX6_faultPlace 59 = .ok (.goto 7, 3) := by decide +kernel
theorem dX6_faultPlace_62 : decode cX6_faultPlace 62 = .ok (.aload_n 0, 1) := by decide +kernel
theorem dX6_faultPlace_63 : decode cX6_faultPlace 63 = .ok (.getfield 15, 3) := by decide +kernel
theorem dX6_faultPlace_66 : decode cX6_faultPlace 66 = .ok (.ireturn, 1) := by decide +kernel
theorem dX6_goesOn_0 : decode cX6_goesOn 0 = .ok (.iload_n 0, 1) := by decide +kernel
theorem dX6_goesOn_1 : decode cX6_goesOn 1 = .ok (.ifCond .ne 17, 3) := by decide +kernel
theorem dX6_goesOn_4 : decode cX6_goesOn 4 = .ok (.iload_n 1, 1) := by decide +kernel
theorem dX6_goesOn_5 : decode cX6_goesOn 5 = .ok (.invokestatic 23, 3) := by decide +kernel
theorem dX6_goesOn_8 : decode cX6_goesOn 8 = .ok (.iconst (-1), 1) := by decide +kernel
theorem dX6_goesOn_9 : decode cX6_goesOn 9 = .ok (.if_icmp .eq 7, 3) := by decide +kernel
theorem dX6_goesOn_12 : decode cX6_goesOn 12 = .ok (.iconst 1, 1) := by decide +kernel
theorem dX6_goesOn_13 : decode cX6_goesOn 13 = .ok (.goto 4, 3) := by decide +kernel
theorem dX6_goesOn_16 : decode cX6_goesOn 16 = .ok (.iconst 0, 1) := by decide +kernel
theorem dX6_goesOn_17 : decode cX6_goesOn 17 = .ok (.ireturn, 1) := by decide +kernel
theorem dX6_goesOn_18 : decode cX6_goesOn 18 = .ok (.iload_n 0, 1) := by decide +kernel
theorem dX6_goesOn_19 : decode cX6_goesOn 19 = .ok (.iconst 3, 1) := by decide +kernel
theorem dX6_goesOn_20 : decode cX6_goesOn 20 = .ok (.if_icmp .ne 17, 3) := by decide +kernel
theorem dX6_goesOn_23 : decode cX6_goesOn 23 = .ok (.iload_n 1, 1) := by decide +kernel
theorem dX6_goesOn_24 : decode cX6_goesOn 24 = .ok (.bipush 59, 2) := by decide +kernel
theorem dX6_goesOn_26 : decode cX6_goesOn 26 = .ok (.if_icmp .ne 7, 3) := by decide +kernel
theorem dX6_goesOn_29 : decode cX6_goesOn 29 = .ok (.iconst 1, 1) := by decide +kernel
theorem dX6_goesOn_30 : decode cX6_goesOn 30 = .ok (.goto 24, 3) := by decide +kernel
theorem dX6_goesOn_33 : decode cX6_goesOn 33 = .ok (.iconst 0, 1) := by decide +kernel
theorem dX6_goesOn_34 : decode cX6_goesOn 34 = .ok (.goto 20, 3) := by decide +kernel
theorem dX6_goesOn_37 : decode cX6_goesOn 37 = .ok (.iload_n 1, 1) := by decide +kernel
theorem dX6_goesOn_38 : decode cX6_goesOn 38 = .ok (.bipush 48, 2) := by decide +kernel
theorem dX6_goesOn_40 : decode cX6_goesOn 40 = .ok (.if_icmp .lt 13, 3) := by decide +kernel
theorem dX6_goesOn_43 : decode cX6_goesOn 43 = .ok (.iload_n 1, 1) := by decide +kernel
theorem dX6_goesOn_44 : decode cX6_goesOn 44 = .ok (.bipush 57, 2) := by decide +kernel
theorem dX6_goesOn_46 : decode cX6_goesOn 46 = .ok (.if_icmp .gt 7, 3) := by decide +kernel
theorem dX6_goesOn_49 : decode cX6_goesOn 49 = .ok (.iconst 1, 1) := by decide +kernel
theorem dX6_goesOn_50 : decode cX6_goesOn 50 = .ok (.goto 4, 3) := by decide +kernel
theorem dX6_goesOn_53 : decode cX6_goesOn 53 = .ok (.iconst 0, 1) := by decide +kernel
theorem dX6_goesOn_54 : decode cX6_goesOn 54 = .ok (.ireturn, 1) := by decide +kernel
theorem dX6_sortOf_0 : decode cX6_sortOf 0 = .ok (.iload_n 0, 1) := by decide +kernel
theorem dX6_sortOf_1 : decode cX6_sortOf 1 = .ok (.lookupswitch 51 #[(99, 47), (111, 43), (112, 45), (114, 49)], 43) := by decide +kernel
theorem dX6_sortOf_44 : decode cX6_sortOf 44 = .ok (.iconst 0, 1) := by decide +kernel
theorem dX6_sortOf_45 : decode cX6_sortOf 45 = .ok (.ireturn, 1) := by decide +kernel
theorem dX6_sortOf_46 : decode cX6_sortOf 46 = .ok (.iconst 1, 1) := by decide +kernel
theorem dX6_sortOf_47 : decode cX6_sortOf 47 = .ok (.ireturn, 1) := by decide +kernel
theorem dX6_sortOf_48 : decode cX6_sortOf 48 = .ok (.iconst 2, 1) := by decide +kernel
theorem dX6_sortOf_49 : decode cX6_sortOf 49 = .ok (.ireturn, 1) := by decide +kernel
theorem dX6_sortOf_50 : decode cX6_sortOf 50 = .ok (.iconst 3, 1) := by decide +kernel
theorem dX6_sortOf_51 : decode cX6_sortOf 51 = .ok (.ireturn, 1) := by decide +kernel
theorem dX6_sortOf_52 : decode cX6_sortOf 52 = .ok (.iconst (-1), 1) := by decide +kernel
theorem dX6_sortOf_53 : decode cX6_sortOf 53 = .ok (.ireturn, 1) := by decide +kernel
theorem dX7_init_0 : decode cX7_init 0 = .ok (.aload_n 0, 1) := by decide +kernel
theorem dX7_init_1 : decode cX7_init 1 = .ok (.invokespecial 3, 3) := by decide +kernel
theorem dX7_init_4 : decode cX7_init 4 = .ok (.aload_n 0, 1) := by decide +kernel
theorem dX7_init_5 : decode cX7_init 5 = .ok (.new 9, 3) := by decide +kernel
theorem dX7_init_8 : decode cX7_init 8 = .ok (.dup, 1) := by decide +kernel
theorem dX7_init_9 : decode cX7_init 9 = .ok (.invokespecial 11, 3) := by decide +kernel
theorem dX7_init_12 : decode cX7_init 12 = .ok (.putfield 12, 3) := by decide +kernel
theorem dX7_init_15 : decode cX7_init 15 = .ok (.aload_n 0, 1) := by decide +kernel
theorem dX7_init_16 : decode cX7_init 16 = .ok (.new 16, 3) := by decide +kernel
theorem dX7_init_19 : decode cX7_init 19 = .ok (.dup, 1) := by decide +kernel
theorem dX7_init_20 : decode cX7_init 20 = .ok (.invokespecial 18, 3) := by decide +kernel
theorem dX7_init_23 : decode cX7_init 23 = .ok (.putfield 19, 3) := by decide +kernel
theorem dX7_init_26 : decode cX7_init 26 = .ok (.aload_n 0, 1) := by decide +kernel
theorem dX7_init_27 : decode cX7_init 27 = .ok (.new 16, 3) := by decide +kernel
theorem dX7_init_30 : decode cX7_init 30 = .ok (.dup, 1) := by decide +kernel
theorem dX7_init_31 : decode cX7_init 31 = .ok (.invokespecial 18, 3) := by decide +kernel
theorem dX7_init_34 : decode cX7_init 34 = .ok (.putfield 23, 3) := by decide +kernel
theorem dX7_init_37 : decode cX7_init 37 = .ok (.aload_n 0, 1) := by decide +kernel
theorem dX7_init_38 : decode cX7_init 38 = .ok (.new 26, 3) := by decide +kernel
theorem dX7_init_41 : decode cX7_init 41 = .ok (.dup, 1) := by decide +kernel
theorem dX7_init_42 : decode cX7_init 42 = .ok (.invokespecial 28, 3) := by decide +kernel
theorem dX7_init_45 : decode cX7_init 45 = .ok (.putfield 29, 3) := by decide +kernel
theorem dX7_init_48 : decode cX7_init 48 = .ok (.aload_n 0, 1) := by decide +kernel
theorem dX7_init_49 : decode cX7_init 49 = .ok (.new 33, 3) := by decide +kernel
theorem dX7_init_52 : decode cX7_init 52 = .ok (.dup, 1) := by decide +kernel
theorem dX7_init_53 : decode cX7_init 53 = .ok (.invokespecial 35, 3) := by decide +kernel
theorem dX7_init_56 : decode cX7_init 56 = .ok (.putfield 36, 3) := by decide +kernel
theorem dX7_init_59 : decode cX7_init 59 = .ok (.aload_n 0, 1) := by decide +kernel
theorem dX7_init_60 : decode cX7_init 60 = .ok (.new 40, 3) := by decide +kernel
theorem dX7_init_63 : decode cX7_init 63 = .ok (.dup, 1) := by decide +kernel
theorem dX7_init_64 : decode cX7_init 64 = .ok (.invokespecial 42, 3) := by decide +kernel
theorem dX7_init_67 : decode cX7_init 67 = .ok (.putfield 43, 3) := by decide +kernel
theorem dX7_init_70 : decode cX7_init 70 = .ok (.aload_n 0, 1) := by decide +kernel
theorem dX7_init_71 : decode cX7_init 71 = .ok (.new 40, 3) := by decide +kernel
theorem dX7_init_74 : decode cX7_init 74 = .ok (.dup, 1) := by decide +kernel
theorem dX7_init_75 : decode cX7_init 75 = .ok (.invokespecial 42, 3) := by decide +kernel
theorem dX7_init_78 : decode cX7_init 78 = .ok (.putfield 47, 3) := by decide +kernel
theorem dX7_init_81 : decode cX7_init 81 = .ok (.aload_n 0, 1) := by decide +kernel
theorem dX7_init_82 : decode cX7_init 82 = .ok (.new 50, 3) := by decide +kernel
theorem dX7_init_85 : decode cX7_init 85 = .ok (.dup, 1) := by decide +kernel
theorem dX7_init_86 : decode cX7_init 86 = .ok (.invokespecial 52, 3) := by decide +kernel
theorem dX7_init_89 : decode cX7_init 89 = .ok (.putfield 53, 3) := by decide +kernel
theorem dX7_init_92 : decode cX7_init 92 = .ok (.aload_n 0, 1) := by decide +kernel
theorem dX7_init_93 : decode cX7_init 93 = .ok (.iconst 4, 1) := by decide +kernel
theorem dX7_init_94 : decode cX7_init 94 = .ok (.anewarray 57, 3) := by decide +kernel
theorem dX7_init_97 : decode cX7_init 97 = .ok (.putfield 59, 3) := by decide +kernel
theorem dX7_init_100 : decode cX7_init 100 = .ok (.aload_n 0, 1) := by decide +kernel
theorem dX7_init_101 : decode cX7_init 101 = .ok (.sipush 256, 3) := by decide +kernel
theorem dX7_init_104 : decode cX7_init 104 = .ok (.newarray .int, 2) := by decide +kernel
theorem dX7_init_106 : decode cX7_init 106 = .ok (.putfield 63, 3) := by decide +kernel
theorem dX7_init_109 : decode cX7_init 109 = .ok (.aload_n 0, 1) := by decide +kernel
theorem dX7_init_110 : decode cX7_init 110 = .ok (.sipush 240, 3) := by decide +kernel
theorem dX7_init_113 : decode cX7_init 113 = .ok (.newarray .int, 2) := by decide +kernel
theorem dX7_init_115 : decode cX7_init 115 = .ok (.putfield 67, 3) := by decide +kernel
theorem dX7_init_118 : decode cX7_init 118 = .ok (.aload_n 0, 1) := by decide +kernel
theorem dX7_init_119 : decode cX7_init 119 = .ok (.iconst 2, 1) := by decide +kernel
theorem dX7_init_120 : decode cX7_init 120 = .ok (.putfield 70, 3) := by decide +kernel
theorem dX7_init_123 : decode cX7_init 123 = .ok (.aload_n 0, 1) := by decide +kernel
theorem dX7_init_124 : decode cX7_init 124 = .ok (.iconst 0, 1) := by decide +kernel
theorem dX7_init_125 : decode cX7_init 125 = .ok (.putfield 74, 3) := by decide +kernel
theorem dX7_init_128 : decode cX7_init 128 = .ok (.aload_n 0, 1) := by decide +kernel
theorem dX7_init_129 : decode cX7_init 129 = .ok (.iconst 0, 1) := by decide +kernel
theorem dX7_init_130 : decode cX7_init 130 = .ok (.putfield 77, 3) := by decide +kernel
theorem dX7_init_133 : decode cX7_init 133 = .ok (.aload_n 0, 1) := by decide +kernel
theorem dX7_init_134 : decode cX7_init 134 = .ok (.iconst 0, 1) := by decide +kernel
theorem dX7_init_135 : decode cX7_init 135 = .ok (.putfield 81, 3) := by decide +kernel
theorem dX7_init_138 : decode cX7_init 138 = .ok (.iconst 0, 1) := by decide +kernel
theorem dX7_init_139 : decode cX7_init 139 = .ok (.istore_n 1, 1) := by decide +kernel
theorem dX7_init_140 : decode cX7_init 140 = .ok (.iload_n 1, 1) := by decide +kernel
theorem dX7_init_141 : decode cX7_init 141 = .ok (.iconst 4, 1) := by decide +kernel
theorem dX7_init_142 : decode cX7_init 142 = .ok (.if_icmp .ge 22, 3) := by decide +kernel
theorem dX7_init_145 : decode cX7_init 145 = .ok (.aload_n 0, 1) := by decide +kernel
theorem dX7_init_146 : decode cX7_init 146 = .ok (.getfield 59, 3) := by decide +kernel
theorem dX7_init_149 : decode cX7_init 149 = .ok (.iload_n 1, 1) := by decide +kernel
theorem dX7_init_150 : decode cX7_init 150 = .ok (.new 57, 3) := by decide +kernel
theorem dX7_init_153 : decode cX7_init 153 = .ok (.dup, 1) := by decide +kernel
theorem dX7_init_154 : decode cX7_init 154 = .ok (.invokespecial 84, 3) := by decide +kernel
theorem dX7_init_157 : decode cX7_init 157 = .ok (.aastore, 1) := by decide +kernel
theorem dX7_init_158 : decode cX7_init 158 = .ok (.iinc 1 1, 3) := by decide +kernel
theorem dX7_init_161 : decode cX7_init 161 = .ok (.goto (-21), 3) := by decide +kernel
theorem dX7_init_164 : decode cX7_init 164 = .ok (.return_, 1) := by decide +kernel
theorem dX7_type_0 : decode cX7_type 0 = .ok (.iload_n 1, 1) := by decide +kernel
theorem dX7_type_1 : decode cX7_type 1 = .ok (.iconst 0, 1) := by decide +kernel
theorem dX7_type_2 : decode cX7_type 2 = .ok (.sipush 255, 3) := by decide +kernel
theorem dX7_type_5 : decode cX7_type 5 = .ok (.invokestatic 85, 3) := by decide +kernel
theorem dX7_type_8 : decode cX7_type 8 = .ok (.ifCond .ne 6, 3) := by decide +kernel
theorem dX7_type_11 : decode cX7_type 11 = .ok (.bipush (-2), 2) := by decide +kernel
theorem dX7_type_13 : decode cX7_type 13 = .ok (.ireturn, 1) := by decide +kernel
theorem dX7_type_14 : decode cX7_type 14 = .ok (.aload_n 0, 1) := by decide +kernel
theorem dX7_type_15 : decode cX7_type 15 = .ok (.getfield 12, 3) := by decide +kernel
theorem dX7_type_18 : decode cX7_type 18 = .ok (.getfield 89, 3) := by decide +kernel
theorem dX7_type_21 : decode cX7_type 21 = .ok (.bipush 31, 2) := by decide +kernel
theorem dX7_type_23 : decode cX7_type 23 = .ok (.if_icmp .lt 6, 3) := by decide +kernel
theorem dX7_type_26 : decode cX7_type 26 = .ok (.bipush (-4), 2) := by decide +kernel
theorem dX7_type_28 : decode cX7_type 28 = .ok (.ireturn, 1) := by decide +kernel
theorem dX7_type_29 : decode cX7_type 29 = .ok (.aload_n 0, 1) := by decide +kernel
theorem dX7_type_30 : decode cX7_type 30 = .ok (.getfield 12, 3) := by decide +kernel
theorem dX7_type_33 : decode cX7_type 33 = .ok (.getfield 92, 3) := by decide +kernel
theorem dX7_type_36 : decode cX7_type 36 = .ok (.aload_n 0, 1) := by decide +kernel
theorem dX7_type_37 : decode cX7_type 37 = .ok (.getfield 12, 3) := by decide +kernel
theorem dX7_type_40 : decode cX7_type 40 = .ok (.getfield 89, 3) := by decide +kernel
theorem dX7_type_43 : decode cX7_type 43 = .ok (.iload_n 1, 1) := by decide +kernel
theorem dX7_type_44 : decode cX7_type 44 = .ok (.iastore, 1) := by decide +kernel
theorem dX7_type_45 : decode cX7_type 45 = .ok (.aload_n 0, 1) := by decide +kernel
theorem dX7_type_46 : decode cX7_type 46 = .ok (.getfield 12, 3) := by decide +kernel
theorem dX7_type_49 : decode cX7_type 49 = .ok (.dup, 1) := by decide +kernel
theorem dX7_type_50 : decode cX7_type 50 = .ok (.getfield 89, 3) := by decide +kernel
theorem dX7_type_53 : decode cX7_type 53 = .ok (.iconst 1, 1) := by decide +kernel
theorem dX7_type_54 : decode cX7_type 54 = .ok (.iadd, 1) := by decide +kernel
theorem dX7_type_55 : decode cX7_type 55 = .ok (.putfield 89, 3) := by decide +kernel
theorem dX7_type_58 : decode cX7_type 58 = .ok (.aload_n 0, 1) := by decide +kernel
theorem dX7_type_59 : decode cX7_type 59 = .ok (.invokevirtual 95, 3) := by decide +kernel
theorem dX7_type_62 : decode cX7_type 62 = .ok (.aload_n 0, 1) := by decide +kernel
theorem dX7_type_63 : decode cX7_type 63 = .ok (.getfield 12, 3) := by decide +kernel
theorem dX7_type_66 : decode cX7_type 66 = .ok (.getfield 89, 3) := by decide +kernel
theorem dX7_type_69 : decode cX7_type 69 = .ok (.ireturn, 1) := by decide +kernel
theorem dX7_wipe_0 : decode cX7_wipe 0 = .ok (.aload_n 0, 1) := by decide +kernel
theorem dX7_wipe_1 : decode cX7_wipe 1 = .ok (.getfield 12, 3) := by decide +kernel
theorem dX7_wipe_4 : decode cX7_wipe 4 = .ok (.getfield 89, 3) := by decide +kernel
theorem dX7_wipe_7 : decode cX7_wipe 7 = .ok (.istore_n 1, 1) := by decide +kernel
theorem dX7_wipe_8 : decode cX7_wipe 8 = .ok (.aload_n 0, 1) := by decide +kernel
theorem dX7_wipe_9 : decode cX7_wipe 9 = .ok (.getfield 12, 3) := by decide +kernel
theorem dX7_wipe_12 : decode cX7_wipe 12 = .ok (.iconst 0, 1) := by decide +kernel
theorem dX7_wipe_13 : decode cX7_wipe 13 = .ok (.putfield 89, 3) := by decide +kernel
theorem dX7_wipe_16 : decode cX7_wipe 16 = .ok (.aload_n 0, 1) := by decide +kernel
theorem dX7_wipe_17 : decode cX7_wipe 17 = .ok (.invokevirtual 95, 3) := by decide +kernel
theorem dX7_wipe_20 : decode cX7_wipe 20 = .ok (.iload_n 1, 1) := by decide +kernel
theorem dX7_wipe_21 : decode cX7_wipe 21 = .ok (.ireturn, 1) := by decide +kernel
theorem dX7_undo_0 : decode cX7_undo 0 = .ok (.aload_n 0, 1) := by decide +kernel
theorem dX7_undo_1 : decode cX7_undo 1 = .ok (.getfield 12, 3) := by decide +kernel
theorem dX7_undo_4 : decode cX7_undo 4 = .ok (.getfield 89, 3) := by decide +kernel
theorem dX7_undo_7 : decode cX7_undo 7 = .ok (.ifCond .ne 6, 3) := by decide +kernel
theorem dX7_undo_10 : decode cX7_undo 10 = .ok (.bipush (-3), 2) := by decide +kernel
theorem dX7_undo_12 : decode cX7_undo 12 = .ok (.ireturn, 1) := by decide +kernel
theorem dX7_undo_13 : decode cX7_undo 13 = .ok (.aload_n 0, 1) := by decide +kernel
theorem dX7_undo_14 : decode cX7_undo 14 = .ok (.getfield 12, 3) := by decide +kernel
theorem dX7_undo_17 : decode cX7_undo 17 = .ok (.dup, 1) := by decide +kernel
theorem dX7_undo_18 : decode cX7_undo 18 = .ok (.getfield 89, 3) := by decide +kernel
theorem dX7_undo_21 : decode cX7_undo 21 = .ok (.iconst 1, 1) := by decide +kernel
theorem dX7_undo_22 : decode cX7_undo 22 = .ok (.isub, 1) := by decide +kernel
theorem dX7_undo_23 : decode cX7_undo 23 = .ok (.putfield 89, 3) := by decide +kernel
theorem dX7_undo_26 : decode cX7_undo 26 = .ok (.aload_n 0, 1) := by decide +kernel
theorem dX7_undo_27 : decode cX7_undo 27 = .ok (.invokevirtual 95, 3) := by decide +kernel
theorem dX7_undo_30 : decode cX7_undo 30 = .ok (.aload_n 0, 1) := by decide +kernel
theorem dX7_undo_31 : decode cX7_undo 31 = .ok (.getfield 12, 3) := by decide +kernel
theorem dX7_undo_34 : decode cX7_undo 34 = .ok (.getfield 89, 3) := by decide +kernel
theorem dX7_undo_37 : decode cX7_undo 37 = .ok (.ireturn, 1) := by decide +kernel
theorem dX7_fault_0 : decode cX7_fault 0 = .ok (.aload_n 0, 1) := by decide +kernel
theorem dX7_fault_1 : decode cX7_fault 1 = .ok (.getfield 12, 3) := by decide +kernel
theorem dX7_fault_4 : decode cX7_fault 4 = .ok (.invokevirtual 98, 3) := by decide +kernel
theorem dX7_fault_7 : decode cX7_fault 7 = .ok (.ireturn, 1) := by decide +kernel
theorem dX7_tenant_0 : decode cX7_tenant 0 = .ok (.aload_n 0, 1) := by decide +kernel
theorem dX7_tenant_1 : decode cX7_tenant 1 = .ok (.iload_n 1, 1) := by decide +kernel
theorem dX7_tenant_2 : decode cX7_tenant 2 = .ok (.invokevirtual 102, 3) := by decide +kernel
theorem dX7_tenant_5 : decode cX7_tenant 5 = .ok (.ifCond .eq 12, 3) := by decide +kernel
theorem dX7_tenant_8 : decode cX7_tenant 8 = .ok (.iload_n 2, 1) := by decide +kernel
theorem dX7_tenant_9 : decode cX7_tenant 9 = .ok (.iconst 0, 1) := by decide +kernel
theorem dX7_tenant_10 : decode cX7_tenant 10 = .ok (.iconst 2, 1) := by decide +kernel
theorem dX7_tenant_11 : decode cX7_tenant 11 = .ok (.invokestatic 85, 3) := by decide +kernel
theorem dX7_tenant_14 : decode cX7_tenant 14 = .ok (.ifCond .ne 6, 3) := by decide +kernel
theorem dX7_tenant_17 : decode cX7_tenant 17 = .ok (.bipush (-2), 2) := by decide +kernel
theorem dX7_tenant_19 : decode cX7_tenant 19 = .ok (.ireturn, 1) := by decide +kernel
theorem dX7_tenant_20 : decode cX7_tenant 20 = .ok (.iload_n 2, 1) := by decide +kernel
theorem dX7_tenant_21 : decode cX7_tenant 21 = .ok (.ifCond .ne 13, 3) := by decide +kernel
theorem dX7_tenant_24 : decode cX7_tenant 24 = .ok (.aload_n 0, 1) := by decide +kernel
theorem dX7_tenant_25 : decode cX7_tenant 25 = .ok (.getfield 19, 3) := by decide +kernel
theorem dX7_tenant_28 : decode cX7_tenant 28 = .ok (.getfield 106, 3) := by decide +kernel
theorem dX7_tenant_31 : decode cX7_tenant 31 = .ok (.iload_n 1, 1) := by decide +kernel
theorem dX7_tenant_32 : decode cX7_tenant 32 = .ok (.iaload, 1) := by decide +kernel
theorem dX7_tenant_33 : decode cX7_tenant 33 = .ok (.ireturn, 1) := by decide +kernel
theorem dX7_tenant_34 : decode cX7_tenant 34 = .ok (.iload_n 2, 1) := by decide +kernel
theorem dX7_tenant_35 : decode cX7_tenant 35 = .ok (.iconst 1, 1) := by decide +kernel
theorem dX7_tenant_36 : decode cX7_tenant 36 = .ok (.if_icmp .ne 15, 3) := by decide +kernel
theorem dX7_tenant_39 : decode cX7_tenant 39 = .ok (.aload_n 0, 1) := by decide +kernel
theorem dX7_tenant_40 : decode cX7_tenant 40 = .ok (.getfield 19, 3) := by decide +kernel
theorem dX7_tenant_43 : decode cX7_tenant 43 = .ok (.getfield 109, 3) := by decide +kernel
theorem dX7_tenant_46 : decode cX7_tenant 46 = .ok (.iload_n 1, 1) := by decide +kernel
theorem dX7_tenant_47 : decode cX7_tenant 47 = .ok (.iaload, 1) := by decide +kernel
theorem dX7_tenant_48 : decode cX7_tenant 48 = .ok (.goto 12, 3) := by decide +kernel
theorem dX7_tenant_51 : decode cX7_tenant 51 = .ok (.aload_n 0, 1) := by decide +kernel
theorem dX7_tenant_52 : decode cX7_tenant 52 = .ok (.getfield 19, 3) := by decide +kernel
theorem dX7_tenant_55 : decode cX7_tenant 55 = .ok (.getfield 112, 3) := by decide +kernel
theorem dX7_tenant_58 : decode cX7_tenant 58 = .ok (.iload_n 1, 1) := by decide +kernel
theorem dX7_tenant_59 : decode cX7_tenant 59 = .ok (.iaload, 1) := by decide +kernel
theorem dX7_tenant_60 : decode cX7_tenant 60 = .ok (.ireturn, 1) := by decide +kernel
theorem dX7_room_0 : decode cX7_room 0 = .ok (.iload_n 1, 1) := by decide +kernel
theorem dX7_room_1 : decode cX7_room 1 = .ok (.iconst 1, 1) := by decide +kernel
theorem dX7_room_2 : decode cX7_room 2 = .ok (.bipush 8, 2) := by decide +kernel
theorem dX7_room_4 : decode cX7_room 4 = .ok (.invokestatic 85, 3) := by decide +kernel
theorem dX7_room_7 : decode cX7_room 7 = .ok (.ifCond .ne 6, 3) := by decide +kernel
theorem dX7_room_10 : decode cX7_room 10 = .ok (.bipush (-2), 2) := by decide +kernel
theorem dX7_room_12 : decode cX7_room 12 = .ok (.ireturn, 1) := by decide +kernel
theorem dX7_room_13 : decode cX7_room 13 = .ok (.aload_n 0, 1) := by decide +kernel
theorem dX7_room_14 : decode cX7_room 14 = .ok (.getfield 70, 3) := by decide +kernel
theorem dX7_room_17 : decode cX7_room 17 = .ok (.istore_n 2, 1) := by decide +kernel
theorem dX7_room_18 : decode cX7_room 18 = .ok (.aload_n 0, 1) := by decide +kernel
theorem dX7_room_19 : decode cX7_room 19 = .ok (.iload_n 1, 1) := by decide +kernel
theorem dX7_room_20 : decode cX7_room 20 = .ok (.putfield 70, 3) := by decide +kernel
theorem dX7_room_23 : decode cX7_room 23 = .ok (.aload_n 0, 1) := by decide +kernel
theorem dX7_room_24 : decode cX7_room 24 = .ok (.invokevirtual 115, 3) := by decide +kernel
theorem dX7_room_27 : decode cX7_room 27 = .ok (.iload_n 2, 1) := by decide +kernel
theorem dX7_room_28 : decode cX7_room 28 = .ok (.ireturn, 1) := by decide +kernel
theorem dX7_event_0 : decode cX7_event 0 = .ok (.iload_n 1, 1) := by decide +kernel
theorem dX7_event_1 : decode cX7_event 1 = .ok (.iload_n 2, 1) := by decide +kernel
theorem dX7_event_2 : decode cX7_event 2 = .ok (.iload_n 3, 1) := by decide +kernel
theorem dX7_event_3 : decode cX7_event 3 = .ok (.invokestatic 118, 3) := by decide +kernel
theorem dX7_event_6 : decode cX7_event 6 = .ok (.ifCond .ne 6, 3) := by decide +kernel
theorem dX7_event_9 : decode cX7_event 9 = .ok (.bipush (-2), 2) := by decide +kernel
theorem dX7_event_11 : decode cX7_event 11 = .ok (.ireturn, 1) := by decide +kernel
theorem dX7_event_12 : decode cX7_event 12 = .ok (.aload_n 0, 1) := by decide +kernel
theorem dX7_event_13 : decode cX7_event 13 = .ok (.getfield 29, 3) := by decide +kernel
theorem dX7_event_16 : decode cX7_event 16 = .ok (.getfield 121, 3) := by decide +kernel
theorem dX7_event_19 : decode cX7_event 19 = .ok (.bipush 8, 2) := by decide +kernel
theorem dX7_event_21 : decode cX7_event 21 = .ok (.if_icmp .lt 6, 3) := by decide +kernel
theorem dX7_event_24 : decode cX7_event 24 = .ok (.bipush (-4), 2) := by decide +kernel
theorem dX7_event_26 : decode cX7_event 26 = .ok (.ireturn, 1) := by decide +kernel
theorem dX7_event_27 : decode cX7_event 27 = .ok (.aload_n 0, 1) := by decide +kernel
theorem dX7_event_28 : decode cX7_event 28 = .ok (.getfield 29, 3) := by decide +kernel
theorem dX7_event_31 : decode cX7_event 31 = .ok (.iload_n 1, 1) := by decide +kernel
theorem dX7_event_32 : decode cX7_event 32 = .ok (.iload_n 2, 1) := by decide +kernel
theorem dX7_event_33 : decode cX7_event 33 = .ok (.iload_n 3, 1) := by decide +kernel
theorem dX7_event_34 : decode cX7_event 34 = .ok (.invokevirtual 122, 3) := by decide +kernel
theorem dX7_event_37 : decode cX7_event 37 = .ok (.aload_n 0, 1) := by decide +kernel
theorem dX7_event_38 : decode cX7_event 38 = .ok (.invokevirtual 115, 3) := by decide +kernel
theorem dX7_event_41 : decode cX7_event 41 = .ok (.aload_n 0, 1) := by decide +kernel
theorem dX7_event_42 : decode cX7_event 42 = .ok (.getfield 29, 3) := by decide +kernel
theorem dX7_event_45 : decode cX7_event 45 = .ok (.getfield 121, 3) := by decide +kernel
theorem dX7_event_48 : decode cX7_event 48 = .ok (.ireturn, 1) := by decide +kernel
theorem dX7_back_0 : decode cX7_back 0 = .ok (.aload_n 0, 1) := by decide +kernel
theorem dX7_back_1 : decode cX7_back 1 = .ok (.getfield 29, 3) := by decide +kernel
theorem dX7_back_4 : decode cX7_back 4 = .ok (.getfield 121, 3) := by decide +kernel
theorem dX7_back_7 : decode cX7_back 7 = .ok (.ifCond .ne 6, 3) := by decide +kernel
theorem dX7_back_10 : decode cX7_back 10 = .ok (.bipush (-3), 2) := by decide +kernel
theorem dX7_back_12 : decode cX7_back 12 = .ok (.ireturn, 1) := by decide +kernel
theorem dX7_back_13 : decode cX7_back 13 = .ok (.aload_n 0, 1) := by decide +kernel
theorem dX7_back_14 : decode cX7_back 14 = .ok (.getfield 29, 3) := by decide +kernel
theorem dX7_back_17 : decode cX7_back 17 = .ok (.dup, 1) := by decide +kernel
theorem dX7_back_18 : decode cX7_back 18 = .ok (.getfield 121, 3) := by decide +kernel
theorem dX7_back_21 : decode cX7_back 21 = .ok (.iconst 1, 1) := by decide +kernel
theorem dX7_back_22 : decode cX7_back 22 = .ok (.isub, 1) := by decide +kernel
theorem dX7_back_23 : decode cX7_back 23 = .ok (.putfield 121, 3) := by decide +kernel
theorem dX7_back_26 : decode cX7_back 26 = .ok (.aload_n 0, 1) := by decide +kernel
theorem dX7_back_27 : decode cX7_back 27 = .ok (.invokevirtual 115, 3) := by decide +kernel
theorem dX7_back_30 : decode cX7_back 30 = .ok (.aload_n 0, 1) := by decide +kernel
theorem dX7_back_31 : decode cX7_back 31 = .ok (.getfield 29, 3) := by decide +kernel
theorem dX7_back_34 : decode cX7_back 34 = .ok (.getfield 121, 3) := by decide +kernel
theorem dX7_back_37 : decode cX7_back 37 = .ok (.ireturn, 1) := by decide +kernel
theorem dX7_read_0 : decode cX7_read 0 = .ok (.iload_n 1, 1) := by decide +kernel
theorem dX7_read_1 : decode cX7_read 1 = .ok (.iconst 0, 1) := by decide +kernel
theorem dX7_read_2 : decode cX7_read 2 = .ok (.iconst 3, 1) := by decide +kernel
theorem dX7_read_3 : decode cX7_read 3 = .ok (.invokestatic 85, 3) := by decide +kernel
theorem dX7_read_6 : decode cX7_read 6 = .ok (.ifCond .ne 6, 3) := by decide +kernel
theorem dX7_read_9 : decode cX7_read 9 = .ok (.bipush (-2), 2) := by decide +kernel
theorem dX7_read_11 : decode cX7_read 11 = .ok (.ireturn, 1) := by decide +kernel
theorem dX7_read_12 : decode cX7_read 12 = .ok (.aload_n 0, 1) := by decide +kernel
theorem dX7_read_13 : decode cX7_read 13 = .ok (.getfield 59, 3) := by decide +kernel
theorem dX7_read_16 : decode cX7_read 16 = .ok (.iload_n 1, 1) := by decide +kernel
theorem dX7_read_17 : decode cX7_read 17 = .ok (.aaload, 1) := by decide +kernel
theorem dX7_read_18 : decode cX7_read 18 = .ok (.getfield 126, 3) := by decide +kernel
theorem dX7_read_21 : decode cX7_read 21 = .ok (.ifCond .eq 9, 3) := by decide +kernel
theorem dX7_read_24 : decode cX7_read 24 = .ok (.aload_n 0, 1) := by decide +kernel
theorem dX7_read_25 : decode cX7_read 25 = .ok (.iconst 1, 1) := by decide +kernel
theorem dX7_read_26 : decode cX7_read 26 = .ok (.invokevirtual 129, 3) := by decide +kernel
theorem dX7_read_29 : decode cX7_read 29 = .ok (.ireturn, 1) := by decide +kernel
theorem dX7_read_30 : decode cX7_read 30 = .ok (.aload_n 0, 1) := by decide +kernel
theorem dX7_read_31 : decode cX7_read 31 = .ok (.getfield 59, 3) := by decide +kernel
theorem dX7_read_34 : decode cX7_read 34 = .ok (.iload_n 1, 1) := by decide +kernel
theorem dX7_read_35 : decode cX7_read 35 = .ok (.aaload, 1) := by decide +kernel
theorem dX7_read_36 : decode cX7_read 36 = .ok (.getfield 133, 3) := by decide +kernel
theorem dX7_read_39 : decode cX7_read 39 = .ok (.astore_n 2, 1) := by decide +kernel
theorem dX7_read_40 : decode cX7_read 40 = .ok (.iconst 0, 1) := by decide +kernel
theorem dX7_read_41 : decode cX7_read 41 = .ok (.istore_n 3, 1) := by decide +kernel
theorem dX7_read_42 : decode cX7_read 42 = .ok (.iconst 0, 1) := by decide +kernel
theorem dX7_read_43 : decode cX7_read 43 = .ok (.istore 4, 2) := by decide +kernel
theorem dX7_read_45 : decode cX7_read 45 = .ok (.iload 4, 2) := by decide +kernel
theorem dX7_read_47 : decode cX7_read 47 = .ok (.iconst 2, 1) := by decide +kernel
theorem dX7_read_48 : decode cX7_read 48 = .ok (.iadd, 1) := by decide +kernel
theorem dX7_read_49 : decode cX7_read 49 = .ok (.aload_n 0, 1) := by decide +kernel
theorem dX7_read_50 : decode cX7_read 50 = .ok (.getfield 59, 3) := by decide +kernel
theorem dX7_read_53 : decode cX7_read 53 = .ok (.iload_n 1, 1) := by decide +kernel
theorem dX7_read_54 : decode cX7_read 54 = .ok (.aaload, 1) := by decide +kernel
theorem dX7_read_55 : decode cX7_read 55 = .ok (.getfield 136, 3) := by decide +kernel
theorem dX7_read_58 : decode cX7_read 58 = .ok (.if_icmp .ge 38, 3) := by decide +kernel
theorem dX7_read_61 : decode cX7_read 61 = .ok (.aload_n 0, 1) := by decide +kernel
theorem dX7_read_62 : decode cX7_read 62 = .ok (.aload_n 2, 1) := by decide +kernel
theorem dX7_read_63 : decode cX7_read 63 = .ok (.iload 4, 2) := by decide +kernel
theorem dX7_read_65 : decode cX7_read 65 = .ok (.iaload, 1) := by decide +kernel
theorem dX7_read_66 : decode cX7_read 66 = .ok (.aload_n 2, 1) := by decide +kernel
theorem dX7_read_67 : decode cX7_read 67 = .ok (.iload 4, 2) := by decide +kernel
theorem dX7_read_69 : decode cX7_read 69 = .ok (.iconst 1, 1) := by decide +kernel
theorem dX7_read_70 : decode cX7_read 70 = .ok (.iadd, 1) := by decide +kernel
theorem dX7_read_71 : decode cX7_read 71 = .ok (.iaload, 1) := by decide +kernel
theorem dX7_read_72 : decode cX7_read 72 = .ok (.aload_n 2, 1) := by decide +kernel
theorem dX7_read_73 : decode cX7_read 73 = .ok (.iload 4, 2) := by decide +kernel
theorem dX7_read_75 : decode cX7_read 75 = .ok (.iconst 2, 1) := by decide +kernel
theorem dX7_read_76 : decode cX7_read 76 = .ok (.iadd, 1) := by decide +kernel
theorem dX7_read_77 : decode cX7_read 77 = .ok (.iaload, 1) := by decide +kernel
theorem dX7_read_78 : decode cX7_read 78 = .ok (.invokevirtual 137, 3) := by decide +kernel
theorem dX7_read_81 : decode cX7_read 81 = .ok (.ifCond .ge 6, 3) := by decide +kernel
theorem dX7_read_84 : decode cX7_read 84 = .ok (.goto 12, 3) := by decide +kernel
theorem dX7_read_87 : decode cX7_read 87 = .ok (.iinc 3 1, 3) := by decide +kernel
theorem dX7_read_90 : decode cX7_read 90 = .ok (.iinc 4 3, 3) := by decide +kernel
theorem dX7_read_93 : decode cX7_read 93 = .ok (.goto (-48), 3) := by decide +kernel
theorem dX7_read_96 : decode cX7_read 96 = .ok (.iload_n 3, 1) := by decide +kernel
theorem dX7_read_97 : decode cX7_read 97 = .ok (.ireturn, 1) := by decide +kernel
theorem dX7_at_0 : decode cX7_at 0 = .ok (.iload_n 1, 1) := by decide +kernel
theorem dX7_at_1 : decode cX7_at 1 = .ok (.invokestatic 141, 3) := by decide +kernel
theorem dX7_at_4 : decode cX7_at 4 = .ok (.ifCond .eq 20, 3) := by decide +kernel
theorem dX7_at_7 : decode cX7_at 7 = .ok (.aload_n 0, 1) := by decide +kernel
theorem dX7_at_8 : decode cX7_at 8 = .ok (.iload_n 2, 1) := by decide +kernel
theorem dX7_at_9 : decode cX7_at 9 = .ok (.invokevirtual 102, 3) := by decide +kernel
theorem dX7_at_12 : decode cX7_at 12 = .ok (.ifCond .eq 12, 3) := by decide +kernel
theorem dX7_at_15 : decode cX7_at 15 = .ok (.iload_n 3, 1) := by decide +kernel
theorem dX7_at_16 : decode cX7_at 16 = .ok (.iconst 0, 1) := by decide +kernel
theorem dX7_at_17 : decode cX7_at 17 = .ok (.iconst 3, 1) := by decide +kernel
theorem dX7_at_18 : decode cX7_at 18 = .ok (.invokestatic 85, 3) := by decide +kernel
theorem dX7_at_21 : decode cX7_at 21 = .ok (.ifCond .ne 6, 3) := by decide +kernel
theorem dX7_at_24 : decode cX7_at 24 = .ok (.ldc 144, 2) := by decide +kernel
theorem dX7_at_26 : decode cX7_at 26 = .ok (.ireturn, 1) := by decide +kernel
theorem dX7_at_27 : decode cX7_at 27 = .ok (.aload_n 0, 1) := by decide +kernel
theorem dX7_at_28 : decode cX7_at 28 = .ok (.invokevirtual 145, 3) := by decide +kernel
theorem dX7_at_31 : decode cX7_at 31 = .ok (.astore 4, 2) := by decide +kernel
theorem dX7_at_33 : decode cX7_at 33 = .ok (.iload_n 3, 1) := by decide +kernel
theorem dX7_at_34 : decode cX7_at 34 = .ok (.tableswitch 58 0 2 #[26, 34, 42], 26) := by decide +kernel
theorem dX7_at_60 : decode cX7_at 60 = .ok (.aload 4, 2) := by decide +kernel
theorem dX7_at_62 : decode cX7_at 62 = .ok (.iload_n 1, 1) := by decide +kernel
theorem dX7_at_63 : decode cX7_at 63 = .ok (.iload_n 2, 1) := by decide +kernel
theorem dX7_at_64 : decode cX7_at 64 = .ok (.invokevirtual 149, 3) := by decide +kernel
theorem dX7_at_67 : decode cX7_at 67 = .ok (.ireturn, 1) := by decide +kernel
theorem dX7_at_68 : decode cX7_at 68 = .ok (.aload 4, 2) := by decide +kernel
theorem dX7_at_70 : decode cX7_at 70 = .ok (.iload_n 1, 1) := by decide +kernel
theorem dX7_at_71 : decode cX7_at 71 = .ok (.iload_n 2, 1) := by decide +kernel
theorem dX7_at_72 : decode cX7_at 72 = .ok (.invokevirtual 153, 3) := by decide +kernel
theorem dX7_at_75 : decode cX7_at 75 = .ok (.ireturn, 1) := by decide +kernel
theorem dX7_at_76 : decode cX7_at 76 = .ok (.aload 4, 2) := by decide +kernel
theorem dX7_at_78 : decode cX7_at 78 = .ok (.iload_n 1, 1) := by decide +kernel
theorem dX7_at_79 : decode cX7_at 79 = .ok (.iload_n 2, 1) := by decide +kernel
theorem dX7_at_80 : decode cX7_at 80 = .ok (.invokevirtual 156, 3) := by decide +kernel
theorem dX7_at_83 : decode cX7_at 83 = .ok (.ifCond .eq 7, 3) := by decide +kernel
theorem dX7_at_86 : decode cX7_at 86 = .ok (.iconst 1, 1) := by decide +kernel
theorem dX7_at_87 : decode cX7_at 87 = .ok (.goto 4, 3) := by decide +kernel
theorem dX7_at_90 : decode cX7_at 90 = .ok (.iconst 0, 1) := by decide +kernel
theorem dX7_at_91 : decode cX7_at 91 = .ok (.ireturn, 1) := by decide +kernel
theorem dX7_at_92 : decode cX7_at 92 = .ok (.aload 4, 2) := by decide +kernel
theorem dX7_at_94 : decode cX7_at 94 = .ok (.iload_n 1, 1) := by decide +kernel
theorem dX7_at_95 : decode cX7_at 95 = .ok (.iload_n 2, 1) := by decide +kernel
theorem dX7_at_96 : decode cX7_at 96 = .ok (.invokevirtual 160, 3) := by decide +kernel
theorem dX7_at_99 : decode cX7_at 99 = .ok (.ifCond .eq 7, 3) := by decide +kernel
theorem dX7_at_102 : decode cX7_at 102 = .ok (.iconst 1, 1) := by decide +kernel
theorem dX7_at_103 : decode cX7_at 103 = .ok (.goto 4, 3) := by decide +kernel
theorem dX7_at_106 : decode cX7_at 106 = .ok (.iconst 0, 1) := by decide +kernel
theorem dX7_at_107 : decode cX7_at 107 = .ok (.ireturn, 1) := by decide +kernel
theorem dX7_live_0 : decode cX7_live 0 = .ok (.iload_n 1, 1) := by decide +kernel
theorem dX7_live_1 : decode cX7_live 1 = .ok (.invokestatic 141, 3) := by decide +kernel
theorem dX7_live_4 : decode cX7_live 4 = .ok (.ifCond .eq 13, 3) := by decide +kernel
theorem dX7_live_7 : decode cX7_live 7 = .ok (.iload_n 2, 1) := by decide +kernel
theorem dX7_live_8 : decode cX7_live 8 = .ok (.iconst 0, 1) := by decide +kernel
theorem dX7_live_9 : decode cX7_live 9 = .ok (.bipush 12, 2) := by decide +kernel
theorem dX7_live_11 : decode cX7_live 11 = .ok (.invokestatic 85, 3) := by decide +kernel
theorem dX7_live_14 : decode cX7_live 14 = .ok (.ifCond .ne 6, 3) := by decide +kernel
theorem dX7_live_17 : decode cX7_live 17 = .ok (.bipush (-2), 2) := by decide +kernel
theorem dX7_live_19 : decode cX7_live 19 = .ok (.ireturn, 1) := by decide +kernel
theorem dX7_live_20 : decode cX7_live 20 = .ok (.aload_n 0, 1) := by decide +kernel
theorem dX7_live_21 : decode cX7_live 21 = .ok (.invokevirtual 145, 3) := by decide +kernel
theorem dX7_live_24 : decode cX7_live 24 = .ok (.iload_n 1, 1) := by decide +kernel
theorem dX7_live_25 : decode cX7_live 25 = .ok (.iload_n 2, 1) := by decide +kernel
theorem dX7_live_26 : decode cX7_live 26 = .ok (.invokevirtual 163, 3) := by decide +kernel
theorem dX7_live_29 : decode cX7_live 29 = .ok (.ireturn, 1) := by decide +kernel
theorem dX7_lift_0 : decode cX7_lift 0 = .ok (.iload_n 1, 1) := by decide +kernel
theorem dX7_lift_1 : decode cX7_lift 1 = .ok (.invokestatic 141, 3) := by decide +kernel
theorem dX7_lift_4 : decode cX7_lift 4 = .ok (.ifCond .ne 6, 3) := by decide +kernel
theorem dX7_lift_7 : decode cX7_lift 7 = .ok (.bipush (-2), 2) := by decide +kernel
theorem dX7_lift_9 : decode cX7_lift 9 = .ok (.ireturn, 1) := by decide +kernel
theorem dX7_lift_10 : decode cX7_lift 10 = .ok (.aload_n 0, 1) := by decide +kernel
theorem dX7_lift_11 : decode cX7_lift 11 = .ok (.invokevirtual 145, 3) := by decide +kernel
theorem dX7_lift_14 : decode cX7_lift 14 = .ok (.iload_n 1, 1) := by decide +kernel
theorem dX7_lift_15 : decode cX7_lift 15 = .ok (.invokevirtual 166, 3) := by decide +kernel
theorem dX7_lift_18 : decode cX7_lift 18 = .ok (.ireturn, 1) := by decide +kernel
theorem dX7_ends_0 : decode cX7_ends 0 = .ok (.aload_n 0, 1) := by decide +kernel
theorem dX7_ends_1 : decode cX7_ends 1 = .ok (.iload_n 1, 1) := by decide +kernel
theorem dX7_ends_2 : decode cX7_ends 2 = .ok (.invokevirtual 102, 3) := by decide +kernel
theorem dX7_ends_5 : decode cX7_ends 5 = .ok (.ifCond .eq 12, 3) := by decide +kernel
theorem dX7_ends_8 : decode cX7_ends 8 = .ok (.iload_n 2, 1) := by decide +kernel
theorem dX7_ends_9 : decode cX7_ends 9 = .ok (.iconst 0, 1) := by decide +kernel
theorem dX7_ends_10 : decode cX7_ends 10 = .ok (.iconst 3, 1) := by decide +kernel
theorem dX7_ends_11 : decode cX7_ends 11 = .ok (.invokestatic 85, 3) := by decide +kernel
theorem dX7_ends_14 : decode cX7_ends 14 = .ok (.ifCond .ne 6, 3) := by decide +kernel
theorem dX7_ends_17 : decode cX7_ends 17 = .ok (.ldc 144, 2) := by decide +kernel
theorem dX7_ends_19 : decode cX7_ends 19 = .ok (.ireturn, 1) := by decide +kernel
theorem dX7_ends_20 : decode cX7_ends 20 = .ok (.aload_n 0, 1) := by decide +kernel
theorem dX7_ends_21 : decode cX7_ends 21 = .ok (.invokevirtual 145, 3) := by decide +kernel
theorem dX7_ends_24 : decode cX7_ends 24 = .ok (.astore_n 3, 1) := by decide +kernel
theorem dX7_ends_25 : decode cX7_ends 25 = .ok (.iload_n 2, 1) := by decide +kernel
theorem dX7_ends_26 : decode cX7_ends 26 = .ok (.tableswitch 47 0 2 #[26, 33, 40], 26) := by decide +kernel
theorem dX7_ends_52 : decode cX7_ends 52 = .ok (.aload_n 3, 1) := by decide +kernel
theorem dX7_ends_53 : decode cX7_ends 53 = .ok (.getfield 169, 3) := by decide +kernel
theorem dX7_ends_56 : decode cX7_ends 56 = .ok (.iload_n 1, 1) := by decide +kernel
theorem dX7_ends_57 : decode cX7_ends 57 = .ok (.iaload, 1) := by decide +kernel
theorem dX7_ends_58 : decode cX7_ends 58 = .ok (.ireturn, 1) := by decide +kernel
theorem dX7_ends_59 : decode cX7_ends 59 = .ok (.aload_n 3, 1) := by decide +kernel
theorem dX7_ends_60 : decode cX7_ends 60 = .ok (.getfield 172, 3) := by decide +kernel
theorem dX7_ends_63 : decode cX7_ends 63 = .ok (.iload_n 1, 1) := by decide +kernel
theorem dX7_ends_64 : decode cX7_ends 64 = .ok (.iaload, 1) := by decide +kernel
theorem dX7_ends_65 : decode cX7_ends 65 = .ok (.ireturn, 1) := by decide +kernel
theorem dX7_ends_66 : decode cX7_ends 66 = .ok (.aload_n 3, 1) := by decide +kernel
theorem dX7_ends_67 : decode cX7_ends 67 = .ok (.getfield 175, 3) := by decide +kernel
theorem dX7_ends_70 : decode cX7_ends 70 = .ok (.iload_n 1, 1) := by decide +kernel
theorem dX7_ends_71 : decode cX7_ends 71 = .ok (.iaload, 1) := by decide +kernel
theorem dX7_ends_72 : decode cX7_ends 72 = .ok (.ireturn, 1) := by decide +kernel
theorem dX7_ends_73 : decode cX7_ends 73 = .ok (.aload_n 3, 1) := by decide +kernel
theorem dX7_ends_74 : decode cX7_ends 74 = .ok (.iload_n 1, 1) := by decide +kernel
theorem dX7_ends_75 : decode cX7_ends 75 = .ok (.invokevirtual 178, 3) := by decide +kernel
theorem dX7_ends_78 : decode cX7_ends 78 = .ok (.ireturn, 1) := by decide +kernel
theorem dX7_sum_0 : decode cX7_sum 0 = .ok (.iload_n 1, 1) := by decide +kernel
theorem dX7_sum_1 : decode cX7_sum 1 = .ok (.iconst 0, 1) := by decide +kernel
theorem dX7_sum_2 : decode cX7_sum 2 = .ok (.iconst 3, 1) := by decide +kernel
theorem dX7_sum_3 : decode cX7_sum 3 = .ok (.invokestatic 85, 3) := by decide +kernel
theorem dX7_sum_6 : decode cX7_sum 6 = .ok (.ifCond .ne 6, 3) := by decide +kernel
theorem dX7_sum_9 : decode cX7_sum 9 = .ok (.bipush (-2), 2) := by decide +kernel
theorem dX7_sum_11 : decode cX7_sum 11 = .ok (.ireturn, 1) := by decide +kernel
theorem dX7_sum_12 : decode cX7_sum 12 = .ok (.aload_n 0, 1) := by decide +kernel
theorem dX7_sum_13 : decode cX7_sum 13 = .ok (.invokevirtual 145, 3) := by decide +kernel
theorem dX7_sum_16 : decode cX7_sum 16 = .ok (.astore_n 2, 1) := by decide +kernel
theorem dX7_sum_17 : decode cX7_sum 17 = .ok (.iload_n 1, 1) := by decide +kernel
