theorem dX7_sum_18 : decode cX7_sum 18 = .ok (.tableswitch 41 0 2 #[26, 31, 36], 26) := by decide +kernel
theorem dX7_sum_44 : decode cX7_sum 44 = .ok (.aload_n 2, 1) := by decide +kernel
theorem dX7_sum_45 : decode cX7_sum 45 = .ok (.invokevirtual 181, 3) := by decide +kernel
theorem dX7_sum_48 : decode cX7_sum 48 = .ok (.ireturn, 1) := by decide +kernel
theorem dX7_sum_49 : decode cX7_sum 49 = .ok (.aload_n 2, 1) := by decide +kernel
theorem dX7_sum_50 : decode cX7_sum 50 = .ok (.invokevirtual 184, 3) := by decide +kernel
theorem dX7_sum_53 : decode cX7_sum 53 = .ok (.ireturn, 1) := by decide +kernel
theorem dX7_sum_54 : decode cX7_sum 54 = .ok (.aload_n 2, 1) := by decide +kernel
theorem dX7_sum_55 : decode cX7_sum 55 = .ok (.invokevirtual 187, 3) := by decide +kernel
theorem dX7_sum_58 : decode cX7_sum 58 = .ok (.ireturn, 1) := by decide +kernel
theorem dX7_sum_59 : decode cX7_sum 59 = .ok (.aload_n 2, 1) := by decide +kernel
theorem dX7_sum_60 : decode cX7_sum 60 = .ok (.invokevirtual 190, 3) := by decide +kernel
theorem dX7_sum_63 : decode cX7_sum 63 = .ok (.ireturn, 1) := by decide +kernel
theorem dX7_top_0 : decode cX7_top 0 = .ok (.aload_n 0, 1) := by decide +kernel
theorem dX7_top_1 : decode cX7_top 1 = .ok (.invokevirtual 145, 3) := by decide +kernel
theorem dX7_top_4 : decode cX7_top 4 = .ok (.invokevirtual 193, 3) := by decide +kernel
theorem dX7_top_7 : decode cX7_top 7 = .ok (.ireturn, 1) := by decide +kernel
theorem dX7_heard_0 : decode cX7_heard 0 = .ok (.aload_n 0, 1) := by decide +kernel
theorem dX7_heard_1 : decode cX7_heard 1 = .ok (.invokevirtual 145, 3) := by decide +kernel
theorem dX7_heard_4 : decode cX7_heard 4 = .ok (.invokevirtual 196, 3) := by decide +kernel
theorem dX7_heard_7 : decode cX7_heard 7 = .ok (.ireturn, 1) := by decide +kernel
theorem dX7_earn_0 : decode cX7_earn 0 = .ok (.aload_n 0, 1) := by decide +kernel
theorem dX7_earn_1 : decode cX7_earn 1 = .ok (.iload_n 1, 1) := by decide +kernel
theorem dX7_earn_2 : decode cX7_earn 2 = .ok (.invokevirtual 102, 3) := by decide +kernel
theorem dX7_earn_5 : decode cX7_earn 5 = .ok (.ifCond .eq 12, 3) := by decide +kernel
theorem dX7_earn_8 : decode cX7_earn 8 = .ok (.iload_n 2, 1) := by decide +kernel
theorem dX7_earn_9 : decode cX7_earn 9 = .ok (.iconst 0, 1) := by decide +kernel
theorem dX7_earn_10 : decode cX7_earn 10 = .ok (.iconst 2, 1) := by decide +kernel
theorem dX7_earn_11 : decode cX7_earn 11 = .ok (.invokestatic 85, 3) := by decide +kernel
theorem dX7_earn_14 : decode cX7_earn 14 = .ok (.ifCond .ne 6, 3) := by decide +kernel
theorem dX7_earn_17 : decode cX7_earn 17 = .ok (.bipush (-2), 2) := by decide +kernel
theorem dX7_earn_19 : decode cX7_earn 19 = .ok (.ireturn, 1) := by decide +kernel
theorem dX7_earn_20 : decode cX7_earn 20 = .ok (.aload_n 0, 1) := by decide +kernel
theorem dX7_earn_21 : decode cX7_earn 21 = .ok (.iload_n 1, 1) := by decide +kernel
theorem dX7_earn_22 : decode cX7_earn 22 = .ok (.invokevirtual 199, 3) := by decide +kernel
theorem dX7_earn_25 : decode cX7_earn 25 = .ok (.aload_n 0, 1) := by decide +kernel
theorem dX7_earn_26 : decode cX7_earn 26 = .ok (.getfield 53, 3) := by decide +kernel
theorem dX7_earn_29 : decode cX7_earn 29 = .ok (.iload_n 2, 1) := by decide +kernel
theorem dX7_earn_30 : decode cX7_earn 30 = .ok (.invokevirtual 203, 3) := by decide +kernel
theorem dX7_earn_33 : decode cX7_earn 33 = .ok (.ireturn, 1) := by decide +kernel
theorem dX7_be_0 : decode cX7_be 0 = .ok (.aload_n 0, 1) := by decide +kernel
theorem dX7_be_1 : decode cX7_be 1 = .ok (.iload_n 1, 1) := by decide +kernel
theorem dX7_be_2 : decode cX7_be 2 = .ok (.invokevirtual 102, 3) := by decide +kernel
theorem dX7_be_5 : decode cX7_be 5 = .ok (.ifCond .eq 12, 3) := by decide +kernel
theorem dX7_be_8 : decode cX7_be 8 = .ok (.iload_n 2, 1) := by decide +kernel
theorem dX7_be_9 : decode cX7_be 9 = .ok (.iconst 0, 1) := by decide +kernel
theorem dX7_be_10 : decode cX7_be 10 = .ok (.iconst 2, 1) := by decide +kernel
theorem dX7_be_11 : decode cX7_be 11 = .ok (.invokestatic 85, 3) := by decide +kernel
theorem dX7_be_14 : decode cX7_be 14 = .ok (.ifCond .ne 6, 3) := by decide +kernel
theorem dX7_be_17 : decode cX7_be 17 = .ok (.bipush (-2), 2) := by decide +kernel
theorem dX7_be_19 : decode cX7_be 19 = .ok (.ireturn, 1) := by decide +kernel
theorem dX7_be_20 : decode cX7_be 20 = .ok (.aload_n 0, 1) := by decide +kernel
theorem dX7_be_21 : decode cX7_be 21 = .ok (.iload_n 1, 1) := by decide +kernel
theorem dX7_be_22 : decode cX7_be 22 = .ok (.invokevirtual 206, 3) := by decide +kernel
theorem dX7_be_25 : decode cX7_be 25 = .ok (.aload_n 0, 1) := by decide +kernel
theorem dX7_be_26 : decode cX7_be 26 = .ok (.getfield 53, 3) := by decide +kernel
theorem dX7_be_29 : decode cX7_be 29 = .ok (.iload_n 2, 1) := by decide +kernel
theorem dX7_be_30 : decode cX7_be 30 = .ok (.invokevirtual 203, 3) := by decide +kernel
theorem dX7_be_33 : decode cX7_be 33 = .ok (.ireturn, 1) := by decide +kernel
theorem dX7_widen_0 : decode cX7_widen 0 = .ok (.iload_n 1, 1) := by decide +kernel
theorem dX7_widen_1 : decode cX7_widen 1 = .ok (.iconst 0, 1) := by decide +kernel
theorem dX7_widen_2 : decode cX7_widen 2 = .ok (.iconst 2, 1) := by decide +kernel
theorem dX7_widen_3 : decode cX7_widen 3 = .ok (.invokestatic 85, 3) := by decide +kernel
theorem dX7_widen_6 : decode cX7_widen 6 = .ok (.ifCond .ne 6, 3) := by decide +kernel
theorem dX7_widen_9 : decode cX7_widen 9 = .ok (.bipush (-2), 2) := by decide +kernel
theorem dX7_widen_11 : decode cX7_widen 11 = .ok (.ireturn, 1) := by decide +kernel
theorem dX7_widen_12 : decode cX7_widen 12 = .ok (.aload_n 0, 1) := by decide +kernel
theorem dX7_widen_13 : decode cX7_widen 13 = .ok (.invokevirtual 209, 3) := by decide +kernel
theorem dX7_widen_16 : decode cX7_widen 16 = .ok (.aload_n 0, 1) := by decide +kernel
theorem dX7_widen_17 : decode cX7_widen 17 = .ok (.getfield 53, 3) := by decide +kernel
theorem dX7_widen_20 : decode cX7_widen 20 = .ok (.iload_n 1, 1) := by decide +kernel
theorem dX7_widen_21 : decode cX7_widen 21 = .ok (.invokevirtual 203, 3) := by decide +kernel
theorem dX7_widen_24 : decode cX7_widen 24 = .ok (.ireturn, 1) := by decide +kernel
theorem dX7_spare_0 : decode cX7_spare 0 = .ok (.iload_n 1, 1) := by decide +kernel
theorem dX7_spare_1 : decode cX7_spare 1 = .ok (.iconst (-1), 1) := by decide +kernel
theorem dX7_spare_2 : decode cX7_spare 2 = .ok (.iconst 1, 1) := by decide +kernel
theorem dX7_spare_3 : decode cX7_spare 3 = .ok (.invokestatic 85, 3) := by decide +kernel
theorem dX7_spare_6 : decode cX7_spare 6 = .ok (.ifCond .ne 6, 3) := by decide +kernel
theorem dX7_spare_9 : decode cX7_spare 9 = .ok (.bipush (-2), 2) := by decide +kernel
theorem dX7_spare_11 : decode cX7_spare 11 = .ok (.ireturn, 1) := by decide +kernel
theorem dX7_spare_12 : decode cX7_spare 12 = .ok (.aload_n 0, 1) := by decide +kernel
theorem dX7_spare_13 : decode cX7_spare 13 = .ok (.invokevirtual 212, 3) := by decide +kernel
theorem dX7_spare_16 : decode cX7_spare 16 = .ok (.istore_n 2, 1) := by decide +kernel
theorem dX7_spare_17 : decode cX7_spare 17 = .ok (.iload_n 2, 1) := by decide +kernel
theorem dX7_spare_18 : decode cX7_spare 18 = .ok (.ifCond .ge 5, 3) := by decide +kernel
theorem dX7_spare_21 : decode cX7_spare 21 = .ok (.iconst (-1), 1) := by decide +kernel
theorem dX7_spare_22 : decode cX7_spare 22 = .ok (.ireturn, 1) := by decide +kernel
theorem dX7_spare_23 : decode cX7_spare 23 = .ok (.iload_n 1, 1) := by decide +kernel
theorem dX7_spare_24 : decode cX7_spare 24 = .ok (.iconst (-1), 1) := by decide +kernel
theorem dX7_spare_25 : decode cX7_spare 25 = .ok (.if_icmp .ne 10, 3) := by decide +kernel
theorem dX7_spare_28 : decode cX7_spare 28 = .ok (.iload_n 2, 1) := by decide +kernel
theorem dX7_spare_29 : decode cX7_spare 29 = .ok (.invokestatic 215, 3) := by decide +kernel
theorem dX7_spare_32 : decode cX7_spare 32 = .ok (.goto 8, 3) := by decide +kernel
theorem dX7_spare_35 : decode cX7_spare 35 = .ok (.iload_n 2, 1) := by decide +kernel
theorem dX7_spare_36 : decode cX7_spare 36 = .ok (.iload_n 1, 1) := by decide +kernel
theorem dX7_spare_37 : decode cX7_spare 37 = .ok (.invokestatic 220, 3) := by decide +kernel
theorem dX7_spare_40 : decode cX7_spare 40 = .ok (.ireturn, 1) := by decide +kernel
theorem dX7_seen_0 : decode cX7_seen 0 = .ok (.iload_n 1, 1) := by decide +kernel
theorem dX7_seen_1 : decode cX7_seen 1 = .ok (.invokestatic 141, 3) := by decide +kernel
theorem dX7_seen_4 : decode cX7_seen 4 = .ok (.ifCond .eq 23, 3) := by decide +kernel
theorem dX7_seen_7 : decode cX7_seen 7 = .ok (.iload_n 2, 1) := by decide +kernel
theorem dX7_seen_8 : decode cX7_seen 8 = .ok (.iconst 0, 1) := by decide +kernel
theorem dX7_seen_9 : decode cX7_seen 9 = .ok (.bipush 7, 2) := by decide +kernel
theorem dX7_seen_11 : decode cX7_seen 11 = .ok (.invokestatic 85, 3) := by decide +kernel
theorem dX7_seen_14 : decode cX7_seen 14 = .ok (.ifCond .eq 13, 3) := by decide +kernel
theorem dX7_seen_17 : decode cX7_seen 17 = .ok (.iload_n 3, 1) := by decide +kernel
theorem dX7_seen_18 : decode cX7_seen 18 = .ok (.iconst (-1), 1) := by decide +kernel
theorem dX7_seen_19 : decode cX7_seen 19 = .ok (.bipush 12, 2) := by decide +kernel
theorem dX7_seen_21 : decode cX7_seen 21 = .ok (.invokestatic 85, 3) := by decide +kernel
theorem dX7_seen_24 : decode cX7_seen 24 = .ok (.ifCond .ne 6, 3) := by decide +kernel
theorem dX7_seen_27 : decode cX7_seen 27 = .ok (.bipush (-2), 2) := by decide +kernel
theorem dX7_seen_29 : decode cX7_seen 29 = .ok (.ireturn, 1) := by decide +kernel
theorem dX7_seen_30 : decode cX7_seen 30 = .ok (.aload_n 0, 1) := by decide +kernel
theorem dX7_seen_31 : decode cX7_seen 31 = .ok (.getfield 36, 3) := by decide +kernel
theorem dX7_seen_34 : decode cX7_seen 34 = .ok (.getfield 223, 3) := by decide +kernel
theorem dX7_seen_37 : decode cX7_seen 37 = .ok (.bipush 8, 2) := by decide +kernel
theorem dX7_seen_39 : decode cX7_seen 39 = .ok (.if_icmp .lt 6, 3) := by decide +kernel
theorem dX7_seen_42 : decode cX7_seen 42 = .ok (.bipush (-4), 2) := by decide +kernel
theorem dX7_seen_44 : decode cX7_seen 44 = .ok (.ireturn, 1) := by decide +kernel
theorem dX7_seen_45 : decode cX7_seen 45 = .ok (.aload_n 0, 1) := by decide +kernel
theorem dX7_seen_46 : decode cX7_seen 46 = .ok (.getfield 36, 3) := by decide +kernel
theorem dX7_seen_49 : decode cX7_seen 49 = .ok (.iload_n 1, 1) := by decide +kernel
theorem dX7_seen_50 : decode cX7_seen 50 = .ok (.iload_n 2, 1) := by decide +kernel
theorem dX7_seen_51 : decode cX7_seen 51 = .ok (.iload_n 3, 1) := by decide +kernel
theorem dX7_seen_52 : decode cX7_seen 52 = .ok (.invokevirtual 224, 3) := by decide +kernel
theorem dX7_seen_55 : decode cX7_seen 55 = .ok (.aload_n 0, 1) := by decide +kernel
theorem dX7_seen_56 : decode cX7_seen 56 = .ok (.getfield 36, 3) := by decide +kernel
theorem dX7_seen_59 : decode cX7_seen 59 = .ok (.getfield 223, 3) := by decide +kernel
theorem dX7_seen_62 : decode cX7_seen 62 = .ok (.ireturn, 1) := by decide +kernel
theorem dX7_forget_0 : decode cX7_forget 0 = .ok (.aload_n 0, 1) := by decide +kernel
theorem dX7_forget_1 : decode cX7_forget 1 = .ok (.getfield 36, 3) := by decide +kernel
theorem dX7_forget_4 : decode cX7_forget 4 = .ok (.getfield 223, 3) := by decide +kernel
theorem dX7_forget_7 : decode cX7_forget 7 = .ok (.istore_n 1, 1) := by decide +kernel
theorem dX7_forget_8 : decode cX7_forget 8 = .ok (.aload_n 0, 1) := by decide +kernel
theorem dX7_forget_9 : decode cX7_forget 9 = .ok (.getfield 36, 3) := by decide +kernel
theorem dX7_forget_12 : decode cX7_forget 12 = .ok (.iconst 0, 1) := by decide +kernel
theorem dX7_forget_13 : decode cX7_forget 13 = .ok (.putfield 223, 3) := by decide +kernel
theorem dX7_forget_16 : decode cX7_forget 16 = .ok (.iload_n 1, 1) := by decide +kernel
theorem dX7_forget_17 : decode cX7_forget 17 = .ok (.ireturn, 1) := by decide +kernel
theorem dX7_never_0 : decode cX7_never 0 = .ok (.iconst 0, 1) := by decide +kernel
theorem dX7_never_1 : decode cX7_never 1 = .ok (.istore_n 1, 1) := by decide +kernel
theorem dX7_never_2 : decode cX7_never 2 = .ok (.iconst 0, 1) := by decide +kernel
theorem dX7_never_3 : decode cX7_never 3 = .ok (.istore_n 2, 1) := by decide +kernel
theorem dX7_never_4 : decode cX7_never 4 = .ok (.iload_n 2, 1) := by decide +kernel
theorem dX7_never_5 : decode cX7_never 5 = .ok (.aload_n 0, 1) := by decide +kernel
theorem dX7_never_6 : decode cX7_never 6 = .ok (.getfield 29, 3) := by decide +kernel
theorem dX7_never_9 : decode cX7_never 9 = .ok (.getfield 121, 3) := by decide +kernel
theorem dX7_never_12 : decode cX7_never 12 = .ok (.if_icmp .ge 57, 3) := by decide +kernel
theorem dX7_never_15 : decode cX7_never 15 = .ok (.aload_n 0, 1) := by decide +kernel
theorem dX7_never_16 : decode cX7_never 16 = .ok (.getfield 47, 3) := by decide +kernel
theorem dX7_never_19 : decode cX7_never 19 = .ok (.aload_n 0, 1) := by decide +kernel
theorem dX7_never_20 : decode cX7_never 20 = .ok (.getfield 19, 3) := by decide +kernel
theorem dX7_never_23 : decode cX7_never 23 = .ok (.aload_n 0, 1) := by decide +kernel
theorem dX7_never_24 : decode cX7_never 24 = .ok (.getfield 29, 3) := by decide +kernel
theorem dX7_never_27 : decode cX7_never 27 = .ok (.sipush 255, 3) := by decide +kernel
theorem dX7_never_30 : decode cX7_never 30 = .ok (.iconst 1, 1) := by decide +kernel
theorem dX7_never_31 : decode cX7_never 31 = .ok (.iload_n 2, 1) := by decide +kernel
theorem dX7_never_32 : decode cX7_never 32 = .ok (.ishl, 1) := by decide +kernel
theorem dX7_never_33 : decode cX7_never 33 = .ok (.iconst (-1), 1) := by decide +kernel
theorem dX7_never_34 : decode cX7_never 34 = .ok (.ixor, 1) := by decide +kernel
theorem dX7_never_35 : decode cX7_never 35 = .ok (.iand, 1) := by decide +kernel
theorem dX7_never_36 : decode cX7_never 36 = .ok (.aload_n 0, 1) := by decide +kernel
theorem dX7_never_37 : decode cX7_never 37 = .ok (.getfield 70, 3) := by decide +kernel
theorem dX7_never_40 : decode cX7_never 40 = .ok (.invokevirtual 225, 3) := by decide +kernel
theorem dX7_never_43 : decode cX7_never 43 = .ok (.aload_n 0, 1) := by decide +kernel
theorem dX7_never_44 : decode cX7_never 44 = .ok (.getfield 36, 3) := by decide +kernel
theorem dX7_never_47 : decode cX7_never 47 = .ok (.aload_n 0, 1) := by decide +kernel
theorem dX7_never_48 : decode cX7_never 48 = .ok (.getfield 47, 3) := by decide +kernel
theorem dX7_never_51 : decode cX7_never 51 = .ok (.invokevirtual 229, 3) := by decide +kernel
theorem dX7_never_54 : decode cX7_never 54 = .ok (.ifCond .eq 9, 3) := by decide +kernel
theorem dX7_never_57 : decode cX7_never 57 = .ok (.iload_n 1, 1) := by decide +kernel
theorem dX7_never_58 : decode cX7_never 58 = .ok (.iconst 1, 1) := by decide +kernel
theorem dX7_never_59 : decode cX7_never 59 = .ok (.iload_n 2, 1) := by decide +kernel
theorem dX7_never_60 : decode cX7_never 60 = .ok (.ishl, 1) := by decide +kernel
theorem dX7_never_61 : decode cX7_never 61 = .ok (.ior, 1) := by decide +kernel
theorem dX7_never_62 : decode cX7_never 62 = .ok (.istore_n 1, 1) := by decide +kernel
theorem dX7_never_63 : decode cX7_never 63 = .ok (.iinc 2 1, 3) := by decide +kernel
theorem dX7_never_66 : decode cX7_never 66 = .ok (.goto (-62), 3) := by decide +kernel
theorem dX7_never_69 : decode cX7_never 69 = .ok (.iload_n 1, 1) := by decide +kernel
theorem dX7_never_70 : decode cX7_never 70 = .ok (.ireturn, 1) := by decide +kernel
theorem dX7_was_0 : decode cX7_was 0 = .ok (.aload_n 0, 1) := by decide +kernel
theorem dX7_was_1 : decode cX7_was 1 = .ok (.iload_n 1, 1) := by decide +kernel
theorem dX7_was_2 : decode cX7_was 2 = .ok (.invokevirtual 102, 3) := by decide +kernel
theorem dX7_was_5 : decode cX7_was 5 = .ok (.ifCond .eq 12, 3) := by decide +kernel
theorem dX7_was_8 : decode cX7_was 8 = .ok (.iload_n 2, 1) := by decide +kernel
theorem dX7_was_9 : decode cX7_was 9 = .ok (.iconst 0, 1) := by decide +kernel
theorem dX7_was_10 : decode cX7_was 10 = .ok (.iconst 1, 1) := by decide +kernel
theorem dX7_was_11 : decode cX7_was 11 = .ok (.invokestatic 85, 3) := by decide +kernel
theorem dX7_was_14 : decode cX7_was 14 = .ok (.ifCond .ne 6, 3) := by decide +kernel
theorem dX7_was_17 : decode cX7_was 17 = .ok (.bipush (-2), 2) := by decide +kernel
theorem dX7_was_19 : decode cX7_was 19 = .ok (.ireturn, 1) := by decide +kernel
theorem dX7_was_20 : decode cX7_was 20 = .ok (.iload_n 2, 1) := by decide +kernel
theorem dX7_was_21 : decode cX7_was 21 = .ok (.ifCond .ne 11, 3) := by decide +kernel
theorem dX7_was_24 : decode cX7_was 24 = .ok (.aload_n 0, 1) := by decide +kernel
theorem dX7_was_25 : decode cX7_was 25 = .ok (.iload_n 1, 1) := by decide +kernel
theorem dX7_was_26 : decode cX7_was 26 = .ok (.invokevirtual 233, 3) := by decide +kernel
theorem dX7_was_29 : decode cX7_was 29 = .ok (.goto 8, 3) := by decide +kernel
theorem dX7_was_32 : decode cX7_was 32 = .ok (.aload_n 0, 1) := by decide +kernel
theorem dX7_was_33 : decode cX7_was 33 = .ok (.iload_n 1, 1) := by decide +kernel
theorem dX7_was_34 : decode cX7_was 34 = .ok (.invokevirtual 236, 3) := by decide +kernel
theorem dX7_was_37 : decode cX7_was 37 = .ok (.ireturn, 1) := by decide +kernel
theorem dX7_ask_0 : decode cX7_ask 0 = .ok (.aload_n 0, 1) := by decide +kernel
theorem dX7_ask_1 : decode cX7_ask 1 = .ok (.iload_n 1, 1) := by decide +kernel
theorem dX7_ask_2 : decode cX7_ask 2 = .ok (.invokevirtual 102, 3) := by decide +kernel
theorem dX7_ask_5 : decode cX7_ask 5 = .ok (.ifCond .ne 6, 3) := by decide +kernel
theorem dX7_ask_8 : decode cX7_ask 8 = .ok (.bipush (-2), 2) := by decide +kernel
theorem dX7_ask_10 : decode cX7_ask 10 = .ok (.ireturn, 1) := by decide +kernel
theorem dX7_ask_11 : decode cX7_ask 11 = .ok (.aload_n 0, 1) := by decide +kernel
theorem dX7_ask_12 : decode cX7_ask 12 = .ok (.iload_n 1, 1) := by decide +kernel
theorem dX7_ask_13 : decode cX7_ask 13 = .ok (.invokevirtual 233, 3) := by decide +kernel
theorem dX7_ask_16 : decode cX7_ask 16 = .ok (.istore_n 2, 1) := by decide +kernel
theorem dX7_ask_17 : decode cX7_ask 17 = .ok (.iconst 0, 1) := by decide +kernel
theorem dX7_ask_18 : decode cX7_ask 18 = .ok (.istore_n 3, 1) := by decide +kernel
theorem dX7_ask_19 : decode cX7_ask 19 = .ok (.bipush 11, 2) := by decide +kernel
theorem dX7_ask_21 : decode cX7_ask 21 = .ok (.istore 4, 2) := by decide +kernel
theorem dX7_ask_23 : decode cX7_ask 23 = .ok (.iconst 0, 1) := by decide +kernel
theorem dX7_ask_24 : decode cX7_ask 24 = .ok (.istore 5, 2) := by decide +kernel
theorem dX7_ask_26 : decode cX7_ask 26 = .ok (.iload 5, 2) := by decide +kernel
theorem dX7_ask_28 : decode cX7_ask 28 = .ok (.bipush 24, 2) := by decide +kernel
theorem dX7_ask_30 : decode cX7_ask 30 = .ok (.if_icmp .ge 32, 3) := by decide +kernel
theorem dX7_ask_33 : decode cX7_ask 33 = .ok (.aload_n 0, 1) := by decide +kernel
theorem dX7_ask_34 : decode cX7_ask 34 = .ok (.iload_n 2, 1) := by decide +kernel
theorem dX7_ask_35 : decode cX7_ask 35 = .ok (.iload 5, 2) := by decide +kernel
theorem dX7_ask_37 : decode cX7_ask 37 = .ok (.invokevirtual 239, 3) := by decide +kernel
theorem dX7_ask_40 : decode cX7_ask 40 = .ok (.istore 6, 2) := by decide +kernel
theorem dX7_ask_42 : decode cX7_ask 42 = .ok (.iload 6, 2) := by decide +kernel
theorem dX7_ask_44 : decode cX7_ask 44 = .ok (.iload 4, 2) := by decide +kernel
theorem dX7_ask_46 : decode cX7_ask 46 = .ok (.if_icmp .ge 10, 3) := by decide +kernel
theorem dX7_ask_49 : decode cX7_ask 49 = .ok (.iload 6, 2) := by decide +kernel
theorem dX7_ask_51 : decode cX7_ask 51 = .ok (.istore 4, 2) := by decide +kernel
theorem dX7_ask_53 : decode cX7_ask 53 = .ok (.iload 5, 2) := by decide +kernel
theorem dX7_ask_55 : decode cX7_ask 55 = .ok (.istore_n 3, 1) := by decide +kernel
theorem dX7_ask_56 : decode cX7_ask 56 = .ok (.iinc 5 1, 3) := by decide +kernel
theorem dX7_ask_59 : decode cX7_ask 59 = .ok (.goto (-33), 3) := by decide +kernel
theorem dX7_ask_62 : decode cX7_ask 62 = .ok (.iload_n 3, 1) := by decide +kernel
theorem dX7_ask_63 : decode cX7_ask 63 = .ok (.ireturn, 1) := by decide +kernel
theorem dX7_chance_0 : decode cX7_chance 0 = .ok (.iload_n 1, 1) := by decide +kernel
theorem dX7_chance_1 : decode cX7_chance 1 = .ok (.iconst 0, 1) := by decide +kernel
theorem dX7_chance_2 : decode cX7_chance 2 = .ok (.bipush 16, 2) := by decide +kernel
theorem dX7_chance_4 : decode cX7_chance 4 = .ok (.invokestatic 85, 3) := by decide +kernel
theorem dX7_chance_7 : decode cX7_chance 7 = .ok (.ifCond .eq 20, 3) := by decide +kernel
theorem dX7_chance_10 : decode cX7_chance 10 = .ok (.aload_n 0, 1) := by decide +kernel
theorem dX7_chance_11 : decode cX7_chance 11 = .ok (.iload_n 2, 1) := by decide +kernel
theorem dX7_chance_12 : decode cX7_chance 12 = .ok (.invokevirtual 102, 3) := by decide +kernel
theorem dX7_chance_15 : decode cX7_chance 15 = .ok (.ifCond .eq 12, 3) := by decide +kernel
theorem dX7_chance_18 : decode cX7_chance 18 = .ok (.iload_n 3, 1) := by decide +kernel
theorem dX7_chance_19 : decode cX7_chance 19 = .ok (.iconst 0, 1) := by decide +kernel
theorem dX7_chance_20 : decode cX7_chance 20 = .ok (.iconst 1, 1) := by decide +kernel
theorem dX7_chance_21 : decode cX7_chance 21 = .ok (.invokestatic 85, 3) := by decide +kernel
theorem dX7_chance_24 : decode cX7_chance 24 = .ok (.ifCond .ne 7, 3) := by decide +kernel
theorem dX7_chance_27 : decode cX7_chance 27 = .ok (.ldc2_w 242, 3) := by decide +kernel
theorem dX7_chance_30 : decode cX7_chance 30 = .ok (.lreturn, 1) := by decide +kernel
theorem dX7_chance_31 : decode cX7_chance 31 = .ok (.lconst 0, 1) := by decide +kernel
theorem dX7_chance_32 : decode cX7_chance 32 = .ok (.lstore 4, 2) := by decide +kernel
theorem dX7_chance_34 : decode cX7_chance 34 = .ok (.lconst 1, 1) := by decide +kernel
theorem dX7_chance_35 : decode cX7_chance 35 = .ok (.iconst 4, 1) := by decide +kernel
theorem dX7_chance_36 : decode cX7_chance 36 = .ok (.aload_n 0, 1) := by decide +kernel
theorem dX7_chance_37 : decode cX7_chance 37 = .ok (.getfield 29, 3) := by decide +kernel
theorem dX7_chance_40 : decode cX7_chance 40 = .ok (.getfield 121, 3) := by decide +kernel
theorem dX7_chance_43 : decode cX7_chance 43 = .ok (.imul, 1) := by decide +kernel
theorem dX7_chance_44 : decode cX7_chance 44 = .ok (.lshl, 1) := by decide +kernel
theorem dX7_chance_45 : decode cX7_chance 45 = .ok (.lstore 6, 2) := by decide +kernel
theorem dX7_chance_47 : decode cX7_chance 47 = .ok (.iconst 0, 1) := by decide +kernel
theorem dX7_chance_48 : decode cX7_chance 48 = .ok (.istore 8, 2) := by decide +kernel
theorem dX7_chance_50 : decode cX7_chance 50 = .ok (.iload 8, 2) := by decide +kernel
theorem dX7_chance_52 : decode cX7_chance 52 = .ok (.iconst 1, 1) := by decide +kernel
theorem dX7_chance_53 : decode cX7_chance 53 = .ok (.aload_n 0, 1) := by decide +kernel
theorem dX7_chance_54 : decode cX7_chance 54 = .ok (.getfield 29, 3) := by decide +kernel
theorem dX7_chance_57 : decode cX7_chance 57 = .ok (.getfield 121, 3) := by decide +kernel
theorem dX7_chance_60 : decode cX7_chance 60 = .ok (.ishl, 1) := by decide +kernel
theorem dX7_chance_61 : decode cX7_chance 61 = .ok (.if_icmp .ge 34, 3) := by decide +kernel
theorem dX7_chance_64 : decode cX7_chance 64 = .ok (.aload_n 0, 1) := by decide +kernel
theorem dX7_chance_65 : decode cX7_chance 65 = .ok (.iload 8, 2) := by decide +kernel
theorem dX7_chance_67 : decode cX7_chance 67 = .ok (.invokevirtual 244, 3) := by decide +kernel
theorem dX7_chance_70 : decode cX7_chance 70 = .ok (.iload_n 2, 1) := by decide +kernel
theorem dX7_chance_71 : decode cX7_chance 71 = .ok (.ishr, 1) := by decide +kernel
theorem dX7_chance_72 : decode cX7_chance 72 = .ok (.iconst 1, 1) := by decide +kernel
theorem dX7_chance_73 : decode cX7_chance 73 = .ok (.iand, 1) := by decide +kernel
theorem dX7_chance_74 : decode cX7_chance 74 = .ok (.ifCond .eq 15, 3) := by decide +kernel
theorem dX7_chance_77 : decode cX7_chance 77 = .ok (.lload 4, 2) := by decide +kernel
theorem dX7_chance_79 : decode cX7_chance 79 = .ok (.aload_n 0, 1) := by decide +kernel
theorem dX7_chance_80 : decode cX7_chance 80 = .ok (.iload_n 1, 1) := by decide +kernel
theorem dX7_chance_81 : decode cX7_chance 81 = .ok (.iload 8, 2) := by decide +kernel
theorem dX7_chance_83 : decode cX7_chance 83 = .ok (.invokevirtual 247, 3) := by decide +kernel
theorem dX7_chance_86 : decode cX7_chance 86 = .ok (.ladd, 1) := by decide +kernel
theorem dX7_chance_87 : decode cX7_chance 87 = .ok (.lstore 4, 2) := by decide +kernel
theorem dX7_chance_89 : decode cX7_chance 89 = .ok (.iinc 8 1, 3) := by decide +kernel
theorem dX7_chance_92 : decode cX7_chance 92 = .ok (.goto (-42), 3) := by decide +kernel
theorem dX7_chance_95 : decode cX7_chance 95 = .ok (.lload 4, 2) := by decide +kernel
theorem dX7_chance_97 : decode cX7_chance 97 = .ok (.lload 6, 2) := by decide +kernel
theorem dX7_chance_99 : decode cX7_chance 99 = .ok (.invokestatic 251, 3) := by decide +kernel
theorem dX7_chance_102 : decode cX7_chance 102 = .ok (.lstore 8, 2) := by decide +kernel
theorem dX7_chance_104 : decode cX7_chance 104 = .ok (.iload_n 3, 1) := by decide +kernel
theorem dX7_chance_105 : decode cX7_chance 105 = .ok (.ifCond .ne 11, 3) := by decide +kernel
theorem dX7_chance_108 : decode cX7_chance 108 = .ok (.lload 4, 2) := by decide +kernel
theorem dX7_chance_110 : decode cX7_chance 110 = .ok (.lload 8, 2) := by decide +kernel
theorem dX7_chance_112 : decode cX7_chance 112 = .ok (.ldiv, 1) := by decide +kernel
theorem dX7_chance_113 : decode cX7_chance 113 = .ok (.goto 8, 3) := by decide +kernel
theorem dX7_chance_116 : decode cX7_chance 116 = .ok (.lload 6, 2) := by decide +kernel
theorem dX7_chance_118 : decode cX7_chance 118 = .ok (.lload 8, 2) := by decide +kernel
theorem dX7_chance_120 : decode cX7_chance 120 = .ok (.ldiv, 1) := by decide +kernel
theorem dX7_chance_121 : decode cX7_chance 121 = .ok (.lreturn, 1) := by decide +kernel
theorem dX7_houses_0 : decode cX7_houses 0 = .ok (.iload_n 2, 1) := by decide +kernel
theorem dX7_houses_1 : decode cX7_houses 1 = .ok (.iconst 0, 1) := by decide +kernel
theorem dX7_houses_2 : decode cX7_houses 2 = .ok (.bipush 8, 2) := by decide +kernel
theorem dX7_houses_4 : decode cX7_houses 4 = .ok (.invokestatic 85, 3) := by decide +kernel
theorem dX7_houses_7 : decode cX7_houses 7 = .ok (.ifCond .eq 12, 3) := by decide +kernel
theorem dX7_houses_10 : decode cX7_houses 10 = .ok (.iload_n 3, 1) := by decide +kernel
theorem dX7_houses_11 : decode cX7_houses 11 = .ok (.iconst 0, 1) := by decide +kernel
theorem dX7_houses_12 : decode cX7_houses 12 = .ok (.iconst 1, 1) := by decide +kernel
theorem dX7_houses_13 : decode cX7_houses 13 = .ok (.invokestatic 85, 3) := by decide +kernel
theorem dX7_houses_16 : decode cX7_houses 16 = .ok (.ifCond .ne 6, 3) := by decide +kernel
theorem dX7_houses_19 : decode cX7_houses 19 = .ok (.bipush (-2), 2) := by decide +kernel
theorem dX7_houses_21 : decode cX7_houses 21 = .ok (.ireturn, 1) := by decide +kernel
theorem dX7_houses_22 : decode cX7_houses 22 = .ok (.aload_n 0, 1) := by decide +kernel
theorem dX7_houses_23 : decode cX7_houses 23 = .ok (.getfield 23, 3) := by decide +kernel
theorem dX7_houses_26 : decode cX7_houses 26 = .ok (.iload_n 1, 1) := by decide +kernel
theorem dX7_houses_27 : decode cX7_houses 27 = .ok (.iload_n 2, 1) := by decide +kernel
theorem dX7_houses_28 : decode cX7_houses 28 = .ok (.invokevirtual 255, 3) := by decide +kernel
theorem dX7_houses_31 : decode cX7_houses 31 = .ok (.aload_n 0, 1) := by decide +kernel
theorem dX7_houses_32 : decode cX7_houses 32 = .ok (.getfield 47, 3) := by decide +kernel
theorem dX7_houses_35 : decode cX7_houses 35 = .ok (.aload_n 0, 1) := by decide +kernel
theorem dX7_houses_36 : decode cX7_houses 36 = .ok (.getfield 23, 3) := by decide +kernel
theorem dX7_houses_39 : decode cX7_houses 39 = .ok (.aload_n 0, 1) := by decide +kernel
theorem dX7_houses_40 : decode cX7_houses 40 = .ok (.getfield 29, 3) := by decide +kernel
theorem dX7_houses_43 : decode cX7_houses 43 = .ok (.sipush 255, 3) := by decide +kernel
theorem dX7_houses_46 : decode cX7_houses 46 = .ok (.aload_n 0, 1) := by decide +kernel
theorem dX7_houses_47 : decode cX7_houses 47 = .ok (.getfield 70, 3) := by decide +kernel
theorem dX7_houses_50 : decode cX7_houses 50 = .ok (.invokevirtual 225, 3) := by decide +kernel
theorem dX7_houses_53 : decode cX7_houses 53 = .ok (.iload_n 3, 1) := by decide +kernel
theorem dX7_houses_54 : decode cX7_houses 54 = .ok (.ifCond .ne 13, 3) := by decide +kernel
theorem dX7_houses_57 : decode cX7_houses 57 = .ok (.aload_n 0, 1) := by decide +kernel
theorem dX7_houses_58 : decode cX7_houses 58 = .ok (.getfield 47, 3) := by decide +kernel
theorem dX7_houses_61 : decode cX7_houses 61 = .ok (.invokevirtual 181, 3) := by decide +kernel
theorem dX7_houses_64 : decode cX7_houses 64 = .ok (.goto 10, 3) := by decide +kernel
theorem dX7_houses_67 : decode cX7_houses 67 = .ok (.aload_n 0, 1) := by decide +kernel
theorem dX7_houses_68 : decode cX7_houses 68 = .ok (.getfield 47, 3) := by decide +kernel
theorem dX7_houses_71 : decode cX7_houses 71 = .ok (.invokevirtual 184, 3) := by decide +kernel
theorem dX7_houses_74 : decode cX7_houses 74 = .ok (.ireturn, 1) := by decide +kernel
theorem dX7_sheet_0 : decode cX7_sheet 0 = .ok (.iload_n 1, 1) := by decide +kernel
theorem dX7_sheet_1 : decode cX7_sheet 1 = .ok (.iconst 0, 1) := by decide +kernel
theorem dX7_sheet_2 : decode cX7_sheet 2 = .ok (.iconst 3, 1) := by decide +kernel
theorem dX7_sheet_3 : decode cX7_sheet 3 = .ok (.invokestatic 85, 3) := by decide +kernel
theorem dX7_sheet_6 : decode cX7_sheet 6 = .ok (.ifCond .eq 18, 3) := by decide +kernel
theorem dX7_sheet_9 : decode cX7_sheet 9 = .ok (.iload_n 2, 1) := by decide +kernel
theorem dX7_sheet_10 : decode cX7_sheet 10 = .ok (.iconst 0, 1) := by decide +kernel
theorem dX7_sheet_11 : decode cX7_sheet 11 = .ok (.iconst 2, 1) := by decide +kernel
theorem dX7_sheet_12 : decode cX7_sheet 12 = .ok (.invokestatic 85, 3) := by decide +kernel
theorem dX7_sheet_15 : decode cX7_sheet 15 = .ok (.ifCond .eq 9, 3) := by decide +kernel
theorem dX7_sheet_18 : decode cX7_sheet 18 = .ok (.iload_n 3, 1) := by decide +kernel
theorem dX7_sheet_19 : decode cX7_sheet 19 = .ok (.bipush 60, 2) := by decide +kernel
theorem dX7_sheet_21 : decode cX7_sheet 21 = .ok (.if_icmp .le 6, 3) := by decide +kernel
theorem dX7_sheet_24 : decode cX7_sheet 24 = .ok (.bipush (-2), 2) := by decide +kernel
theorem dX7_sheet_26 : decode cX7_sheet 26 = .ok (.ireturn, 1) := by decide +kernel
theorem dX7_sheet_27 : decode cX7_sheet 27 = .ok (.iload_n 3, 1) := by decide +kernel
theorem dX7_sheet_28 : decode cX7_sheet 28 = .ok (.ifCond .ge 9, 3) := by decide +kernel
theorem dX7_sheet_31 : decode cX7_sheet 31 = .ok (.aload_n 0, 1) := by decide +kernel
theorem dX7_sheet_32 : decode cX7_sheet 32 = .ok (.iconst 5, 1) := by decide +kernel
theorem dX7_sheet_33 : decode cX7_sheet 33 = .ok (.invokevirtual 129, 3) := by decide +kernel
theorem dX7_sheet_36 : decode cX7_sheet 36 = .ok (.ireturn, 1) := by decide +kernel
theorem dX7_sheet_37 : decode cX7_sheet 37 = .ok (.aload_n 0, 1) := by decide +kernel
theorem dX7_sheet_38 : decode cX7_sheet 38 = .ok (.getfield 59, 3) := by decide +kernel
theorem dX7_sheet_41 : decode cX7_sheet 41 = .ok (.iload_n 1, 1) := by decide +kernel
theorem dX7_sheet_42 : decode cX7_sheet 42 = .ok (.aaload, 1) := by decide +kernel
theorem dX7_sheet_43 : decode cX7_sheet 43 = .ok (.iload_n 2, 1) := by decide +kernel
theorem dX7_sheet_44 : decode cX7_sheet 44 = .ok (.iload_n 3, 1) := by decide +kernel
theorem dX7_sheet_45 : decode cX7_sheet 45 = .ok (.invokevirtual 259, 3) := by decide +kernel
theorem dX7_sheet_48 : decode cX7_sheet 48 = .ok (.iload_n 3, 1) := by decide +kernel
theorem dX7_sheet_49 : decode cX7_sheet 49 = .ok (.ireturn, 1) := by decide +kernel
theorem dX7_lose_0 : decode cX7_lose 0 = .ok (.iload_n 1, 1) := by decide +kernel
theorem dX7_lose_1 : decode cX7_lose 1 = .ok (.iconst 0, 1) := by decide +kernel
theorem dX7_lose_2 : decode cX7_lose 2 = .ok (.iconst 3, 1) := by decide +kernel
theorem dX7_lose_3 : decode cX7_lose 3 = .ok (.invokestatic 85, 3) := by decide +kernel
theorem dX7_lose_6 : decode cX7_lose 6 = .ok (.ifCond .ne 6, 3) := by decide +kernel
theorem dX7_lose_9 : decode cX7_lose 9 = .ok (.bipush (-2), 2) := by decide +kernel
theorem dX7_lose_11 : decode cX7_lose 11 = .ok (.ireturn, 1) := by decide +kernel
theorem dX7_lose_12 : decode cX7_lose 12 = .ok (.aload_n 0, 1) := by decide +kernel
theorem dX7_lose_13 : decode cX7_lose 13 = .ok (.getfield 59, 3) := by decide +kernel
theorem dX7_lose_16 : decode cX7_lose 16 = .ok (.iload_n 1, 1) := by decide +kernel
theorem dX7_lose_17 : decode cX7_lose 17 = .ok (.aaload, 1) := by decide +kernel
theorem dX7_lose_18 : decode cX7_lose 18 = .ok (.getfield 126, 3) := by decide +kernel
theorem dX7_lose_21 : decode cX7_lose 21 = .ok (.ifCond .eq 9, 3) := by decide +kernel
theorem dX7_lose_24 : decode cX7_lose 24 = .ok (.aload_n 0, 1) := by decide +kernel
theorem dX7_lose_25 : decode cX7_lose 25 = .ok (.iconst 1, 1) := by decide +kernel
theorem dX7_lose_26 : decode cX7_lose 26 = .ok (.invokevirtual 129, 3) := by decide +kernel
theorem dX7_lose_29 : decode cX7_lose 29 = .ok (.ireturn, 1) := by decide +kernel
theorem dX7_lose_30 : decode cX7_lose 30 = .ok (.aload_n 0, 1) := by decide +kernel
theorem dX7_lose_31 : decode cX7_lose 31 = .ok (.getfield 59, 3) := by decide +kernel
theorem dX7_lose_34 : decode cX7_lose 34 = .ok (.iload_n 1, 1) := by decide +kernel
theorem dX7_lose_35 : decode cX7_lose 35 = .ok (.aaload, 1) := by decide +kernel
theorem dX7_lose_36 : decode cX7_lose 36 = .ok (.iconst 1, 1) := by decide +kernel
theorem dX7_lose_37 : decode cX7_lose 37 = .ok (.putfield 126, 3) := by decide +kernel
theorem dX7_lose_40 : decode cX7_lose 40 = .ok (.aload_n 0, 1) := by decide +kernel
theorem dX7_lose_41 : decode cX7_lose 41 = .ok (.getfield 59, 3) := by decide +kernel
theorem dX7_lose_44 : decode cX7_lose 44 = .ok (.iload_n 1, 1) := by decide +kernel
theorem dX7_lose_45 : decode cX7_lose 45 = .ok (.aaload, 1) := by decide +kernel
theorem dX7_lose_46 : decode cX7_lose 46 = .ok (.getfield 136, 3) := by decide +kernel
theorem dX7_lose_49 : decode cX7_lose 49 = .ok (.ireturn, 1) := by decide +kernel
theorem dX7_lay_0 : decode cX7_lay 0 = .ok (.iload_n 1, 1) := by decide +kernel
theorem dX7_lay_1 : decode cX7_lay 1 = .ok (.iconst 0, 1) := by decide +kernel
theorem dX7_lay_2 : decode cX7_lay 2 = .ok (.iconst 3, 1) := by decide +kernel
theorem dX7_lay_3 : decode cX7_lay 3 = .ok (.invokestatic 85, 3) := by decide +kernel
theorem dX7_lay_6 : decode cX7_lay 6 = .ok (.ifCond .eq 12, 3) := by decide +kernel
theorem dX7_lay_9 : decode cX7_lay 9 = .ok (.iload_n 2, 1) := by decide +kernel
theorem dX7_lay_10 : decode cX7_lay 10 = .ok (.iconst 0, 1) := by decide +kernel
theorem dX7_lay_11 : decode cX7_lay 11 = .ok (.iconst 2, 1) := by decide +kernel
theorem dX7_lay_12 : decode cX7_lay 12 = .ok (.invokestatic 85, 3) := by decide +kernel
theorem dX7_lay_15 : decode cX7_lay 15 = .ok (.ifCond .ne 6, 3) := by decide +kernel
theorem dX7_lay_18 : decode cX7_lay 18 = .ok (.bipush (-2), 2) := by decide +kernel
theorem dX7_lay_20 : decode cX7_lay 20 = .ok (.ireturn, 1) := by decide +kernel
theorem dX7_lay_21 : decode cX7_lay 21 = .ok (.aload_n 0, 1) := by decide +kernel
theorem dX7_lay_22 : decode cX7_lay 22 = .ok (.getfield 59, 3) := by decide +kernel
theorem dX7_lay_25 : decode cX7_lay 25 = .ok (.iload_n 1, 1) := by decide +kernel
theorem dX7_lay_26 : decode cX7_lay 26 = .ok (.aaload, 1) := by decide +kernel
theorem dX7_lay_27 : decode cX7_lay 27 = .ok (.iload_n 2, 1) := by decide +kernel
theorem dX7_lay_28 : decode cX7_lay 28 = .ok (.iload_n 3, 1) := by decide +kernel
theorem dX7_lay_29 : decode cX7_lay 29 = .ok (.invokevirtual 262, 3) := by decide +kernel
theorem dX7_lay_32 : decode cX7_lay 32 = .ok (.istore 5, 2) := by decide +kernel
theorem dX7_lay_34 : decode cX7_lay 34 = .ok (.iload 5, 2) := by decide +kernel
theorem dX7_lay_36 : decode cX7_lay 36 = .ok (.ifCond .eq 10, 3) := by decide +kernel
theorem dX7_lay_39 : decode cX7_lay 39 = .ok (.aload_n 0, 1) := by decide +kernel
theorem dX7_lay_40 : decode cX7_lay 40 = .ok (.iload 5, 2) := by decide +kernel
theorem dX7_lay_42 : decode cX7_lay 42 = .ok (.invokevirtual 129, 3) := by decide +kernel
theorem dX7_lay_45 : decode cX7_lay 45 = .ok (.ireturn, 1) := by decide +kernel
theorem dX7_lay_46 : decode cX7_lay 46 = .ok (.aload_n 0, 1) := by decide +kernel
theorem dX7_lay_47 : decode cX7_lay 47 = .ok (.getfield 59, 3) := by decide +kernel
theorem dX7_lay_50 : decode cX7_lay 50 = .ok (.iload_n 1, 1) := by decide +kernel
theorem dX7_lay_51 : decode cX7_lay 51 = .ok (.aaload, 1) := by decide +kernel
theorem dX7_lay_52 : decode cX7_lay 52 = .ok (.iload_n 3, 1) := by decide +kernel
theorem dX7_lay_53 : decode cX7_lay 53 = .ok (.iload 4, 2) := by decide +kernel
theorem dX7_lay_55 : decode cX7_lay 55 = .ok (.invokevirtual 265, 3) := by decide +kernel
theorem dX7_lay_58 : decode cX7_lay 58 = .ok (.iconst 1, 1) := by decide +kernel
theorem dX7_lay_59 : decode cX7_lay 59 = .ok (.ireturn, 1) := by decide +kernel
theorem dX7_get_0 : decode cX7_get 0 = .ok (.iload_n 1, 1) := by decide +kernel
theorem dX7_get_1 : decode cX7_get 1 = .ok (.iconst 0, 1) := by decide +kernel
theorem dX7_get_2 : decode cX7_get 2 = .ok (.iconst 3, 1) := by decide +kernel
theorem dX7_get_3 : decode cX7_get 3 = .ok (.invokestatic 85, 3) := by decide +kernel
theorem dX7_get_6 : decode cX7_get 6 = .ok (.ifCond .eq 12, 3) := by decide +kernel
theorem dX7_get_9 : decode cX7_get 9 = .ok (.iload_n 2, 1) := by decide +kernel
theorem dX7_get_10 : decode cX7_get 10 = .ok (.iconst 0, 1) := by decide +kernel
theorem dX7_get_11 : decode cX7_get 11 = .ok (.iconst 2, 1) := by decide +kernel
theorem dX7_get_12 : decode cX7_get 12 = .ok (.invokestatic 85, 3) := by decide +kernel
theorem dX7_get_15 : decode cX7_get 15 = .ok (.ifCond .ne 6, 3) := by decide +kernel
theorem dX7_get_18 : decode cX7_get 18 = .ok (.ldc 144, 2) := by decide +kernel
theorem dX7_get_20 : decode cX7_get 20 = .ok (.ireturn, 1) := by decide +kernel
theorem dX7_get_21 : decode cX7_get 21 = .ok (.aload_n 0, 1) := by decide +kernel
theorem dX7_get_22 : decode cX7_get 22 = .ok (.getfield 59, 3) := by decide +kernel
theorem dX7_get_25 : decode cX7_get 25 = .ok (.iload_n 1, 1) := by decide +kernel
theorem dX7_get_26 : decode cX7_get 26 = .ok (.aaload, 1) := by decide +kernel
theorem dX7_get_27 : decode cX7_get 27 = .ok (.iload_n 2, 1) := by decide +kernel
theorem dX7_get_28 : decode cX7_get 28 = .ok (.iload_n 3, 1) := by decide +kernel
theorem dX7_get_29 : decode cX7_get 29 = .ok (.invokevirtual 262, 3) := by decide +kernel
theorem dX7_get_32 : decode cX7_get 32 = .ok (.istore 4, 2) := by decide +kernel
theorem dX7_get_34 : decode cX7_get 34 = .ok (.iload 4, 2) := by decide +kernel
theorem dX7_get_36 : decode cX7_get 36 = .ok (.ifCond .eq 12, 3) := by decide +kernel
theorem dX7_get_39 : decode cX7_get 39 = .ok (.aload_n 0, 1) := by decide +kernel
theorem dX7_get_40 : decode cX7_get 40 = .ok (.iload 4, 2) := by decide +kernel
theorem dX7_get_42 : decode cX7_get 42 = .ok (.putfield 74, 3) := by decide +kernel
theorem dX7_get_45 : decode cX7_get 45 = .ok (.ldc 144, 2) := by decide +kernel
theorem dX7_get_47 : decode cX7_get 47 = .ok (.ireturn, 1) := by decide +kernel
theorem dX7_get_48 : decode cX7_get 48 = .ok (.aload_n 0, 1) := by decide +kernel
theorem dX7_get_49 : decode cX7_get 49 = .ok (.getfield 59, 3) := by decide +kernel
theorem dX7_get_52 : decode cX7_get 52 = .ok (.iload_n 1, 1) := by decide +kernel
theorem dX7_get_53 : decode cX7_get 53 = .ok (.aaload, 1) := by decide +kernel
theorem dX7_get_54 : decode cX7_get 54 = .ok (.getfield 133, 3) := by decide +kernel
theorem dX7_get_57 : decode cX7_get 57 = .ok (.iload_n 3, 1) := by decide +kernel
theorem dX7_get_58 : decode cX7_get 58 = .ok (.iaload, 1) := by decide +kernel
theorem dX7_get_59 : decode cX7_get 59 = .ok (.ireturn, 1) := by decide +kernel
theorem dX7_copy_0 : decode cX7_copy 0 = .ok (.iload_n 1, 1) := by decide +kernel
theorem dX7_copy_1 : decode cX7_copy 1 = .ok (.iconst 0, 1) := by decide +kernel
theorem dX7_copy_2 : decode cX7_copy 2 = .ok (.iconst 3, 1) := by decide +kernel
theorem dX7_copy_3 : decode cX7_copy 3 = .ok (.invokestatic 85, 3) := by decide +kernel
theorem dX7_copy_6 : decode cX7_copy 6 = .ok (.ifCond .eq 12, 3) := by decide +kernel
theorem dX7_copy_9 : decode cX7_copy 9 = .ok (.iload_n 3, 1) := by decide +kernel
theorem dX7_copy_10 : decode cX7_copy 10 = .ok (.iconst 0, 1) := by decide +kernel
theorem dX7_copy_11 : decode cX7_copy 11 = .ok (.iconst 3, 1) := by decide +kernel
theorem dX7_copy_12 : decode cX7_copy 12 = .ok (.invokestatic 85, 3) := by decide +kernel
theorem dX7_copy_15 : decode cX7_copy 15 = .ok (.ifCond .ne 6, 3) := by decide +kernel
theorem dX7_copy_18 : decode cX7_copy 18 = .ok (.bipush (-2), 2) := by decide +kernel
theorem dX7_copy_20 : decode cX7_copy 20 = .ok (.ireturn, 1) := by decide +kernel
theorem dX7_copy_21 : decode cX7_copy 21 = .ok (.aload_n 0, 1) := by decide +kernel
theorem dX7_copy_22 : decode cX7_copy 22 = .ok (.getfield 59, 3) := by decide +kernel
theorem dX7_copy_25 : decode cX7_copy 25 = .ok (.iload_n 1, 1) := by decide +kernel
theorem dX7_copy_26 : decode cX7_copy 26 = .ok (.aaload, 1) := by decide +kernel
theorem dX7_copy_27 : decode cX7_copy 27 = .ok (.astore 6, 2) := by decide +kernel
theorem dX7_copy_29 : decode cX7_copy 29 = .ok (.aload_n 0, 1) := by decide +kernel
theorem dX7_copy_30 : decode cX7_copy 30 = .ok (.getfield 59, 3) := by decide +kernel
theorem dX7_copy_33 : decode cX7_copy 33 = .ok (.iload_n 3, 1) := by decide +kernel
theorem dX7_copy_34 : decode cX7_copy 34 = .ok (.aaload, 1) := by decide +kernel
theorem dX7_copy_35 : decode cX7_copy 35 = .ok (.astore 7, 2) := by decide +kernel
theorem dX7_copy_37 : decode cX7_copy 37 = .ok (.aload 6, 2) := by decide +kernel
theorem dX7_copy_39 : decode cX7_copy 39 = .ok (.getfield 126, 3) := by decide +kernel
theorem dX7_copy_42 : decode cX7_copy 42 = .ok (.ifCond .ne 11, 3) := by decide +kernel
theorem dX7_copy_45 : decode cX7_copy 45 = .ok (.aload 7, 2) := by decide +kernel
theorem dX7_copy_47 : decode cX7_copy 47 = .ok (.getfield 126, 3) := by decide +kernel
theorem dX7_copy_50 : decode cX7_copy 50 = .ok (.ifCond .eq 9, 3) := by decide +kernel
theorem dX7_copy_53 : decode cX7_copy 53 = .ok (.aload_n 0, 1) := by decide +kernel
theorem dX7_copy_54 : decode cX7_copy 54 = .ok (.iconst 1, 1) := by decide +kernel
theorem dX7_copy_55 : decode cX7_copy 55 = .ok (.invokevirtual 129, 3) := by decide +kernel
theorem dX7_copy_58 : decode cX7_copy 58 = .ok (.ireturn, 1) := by decide +kernel
theorem dX7_copy_59 : decode cX7_copy 59 = .ok (.aload 6, 2) := by decide +kernel
theorem dX7_copy_61 : decode cX7_copy 61 = .ok (.getfield 268, 3) := by decide +kernel
theorem dX7_copy_64 : decode cX7_copy 64 = .ok (.aload 7, 2) := by decide +kernel
theorem dX7_copy_66 : decode cX7_copy 66 = .ok (.getfield 268, 3) := by decide +kernel
theorem dX7_copy_69 : decode cX7_copy 69 = .ok (.if_icmp .eq 9, 3) := by decide +kernel
theorem dX7_copy_72 : decode cX7_copy 72 = .ok (.aload_n 0, 1) := by decide +kernel
theorem dX7_copy_73 : decode cX7_copy 73 = .ok (.iconst 4, 1) := by decide +kernel
theorem dX7_copy_74 : decode cX7_copy 74 = .ok (.invokevirtual 129, 3) := by decide +kernel
theorem dX7_copy_77 : decode cX7_copy 77 = .ok (.ireturn, 1) := by decide +kernel
theorem dX7_copy_78 : decode cX7_copy 78 = .ok (.aload 6, 2) := by decide +kernel
theorem dX7_copy_80 : decode cX7_copy 80 = .ok (.iload_n 2, 1) := by decide +kernel
theorem dX7_copy_81 : decode cX7_copy 81 = .ok (.iload 5, 2) := by decide +kernel
theorem dX7_copy_83 : decode cX7_copy 83 = .ok (.invokevirtual 271, 3) := by decide +kernel
theorem dX7_copy_86 : decode cX7_copy 86 = .ok (.ifCond .eq 15, 3) := by decide +kernel
theorem dX7_copy_89 : decode cX7_copy 89 = .ok (.aload 7, 2) := by decide +kernel
theorem dX7_copy_91 : decode cX7_copy 91 = .ok (.iload 4, 2) := by decide +kernel
theorem dX7_copy_93 : decode cX7_copy 93 = .ok (.iload 5, 2) := by decide +kernel
theorem dX7_copy_95 : decode cX7_copy 95 = .ok (.invokevirtual 271, 3) := by decide +kernel
theorem dX7_copy_98 : decode cX7_copy 98 = .ok (.ifCond .ne 9, 3) := by decide +kernel
theorem dX7_copy_101 : decode cX7_copy 101 = .ok (.aload_n 0, 1) := by decide +kernel
theorem dX7_copy_102 : decode cX7_copy 102 = .ok (.iconst 2, 1) := by decide +kernel
theorem dX7_copy_103 : decode cX7_copy 103 = .ok (.invokevirtual 129, 3) := by decide +kernel
theorem dX7_copy_106 : decode cX7_copy 106 = .ok (.ireturn, 1) := by decide +kernel
theorem dX7_copy_107 : decode cX7_copy 107 = .ok (.aload 6, 2) := by decide +kernel
theorem dX7_copy_109 : decode cX7_copy 109 = .ok (.getfield 133, 3) := by decide +kernel
theorem dX7_copy_112 : decode cX7_copy 112 = .ok (.iload_n 2, 1) := by decide +kernel
theorem dX7_copy_113 : decode cX7_copy 113 = .ok (.aload 7, 2) := by decide +kernel
theorem dX7_copy_115 : decode cX7_copy 115 = .ok (.getfield 133, 3) := by decide +kernel
theorem dX7_copy_118 : decode cX7_copy 118 = .ok (.iload 4, 2) := by decide +kernel
theorem dX7_copy_120 : decode cX7_copy 120 = .ok (.iload 5, 2) := by decide +kernel
theorem dX7_copy_122 : decode cX7_copy 122 = .ok (.invokestatic 274, 3) := by decide +kernel
theorem dX7_copy_125 : decode cX7_copy 125 = .ok (.iconst 1, 1) := by decide +kernel
theorem dX7_copy_126 : decode cX7_copy 126 = .ok (.ireturn, 1) := by decide +kernel
theorem dX7_write_0 : decode cX7_write 0 = .ok (.aload_n 0, 1) := by decide +kernel
theorem dX7_write_1 : decode cX7_write 1 = .ok (.iload_n 1, 1) := by decide +kernel
theorem dX7_write_2 : decode cX7_write 2 = .ok (.invokevirtual 102, 3) := by decide +kernel
theorem dX7_write_5 : decode cX7_write 5 = .ok (.ifCond .eq 12, 3) := by decide +kernel
theorem dX7_write_8 : decode cX7_write 8 = .ok (.iload_n 2, 1) := by decide +kernel
theorem dX7_write_9 : decode cX7_write 9 = .ok (.iconst 0, 1) := by decide +kernel
theorem dX7_write_10 : decode cX7_write 10 = .ok (.iconst 3, 1) := by decide +kernel
theorem dX7_write_11 : decode cX7_write 11 = .ok (.invokestatic 85, 3) := by decide +kernel
theorem dX7_write_14 : decode cX7_write 14 = .ok (.ifCond .ne 6, 3) := by decide +kernel
theorem dX7_write_17 : decode cX7_write 17 = .ok (.bipush (-2), 2) := by decide +kernel
theorem dX7_write_19 : decode cX7_write 19 = .ok (.ireturn, 1) := by decide +kernel
theorem dX7_write_20 : decode cX7_write 20 = .ok (.aload_n 0, 1) := by decide +kernel
theorem dX7_write_21 : decode cX7_write 21 = .ok (.getfield 59, 3) := by decide +kernel
theorem dX7_write_24 : decode cX7_write 24 = .ok (.iload_n 2, 1) := by decide +kernel
theorem dX7_write_25 : decode cX7_write 25 = .ok (.aaload, 1) := by decide +kernel
theorem dX7_write_26 : decode cX7_write 26 = .ok (.getfield 126, 3) := by decide +kernel
theorem dX7_write_29 : decode cX7_write 29 = .ok (.ifCond .eq 9, 3) := by decide +kernel
theorem dX7_write_32 : decode cX7_write 32 = .ok (.aload_n 0, 1) := by decide +kernel
theorem dX7_write_33 : decode cX7_write 33 = .ok (.iconst 1, 1) := by decide +kernel
theorem dX7_write_34 : decode cX7_write 34 = .ok (.invokevirtual 129, 3) := by decide +kernel
theorem dX7_write_37 : decode cX7_write 37 = .ok (.ireturn, 1) := by decide +kernel
theorem dX7_write_38 : decode cX7_write 38 = .ok (.aload_n 0, 1) := by decide +kernel
theorem dX7_write_39 : decode cX7_write 39 = .ok (.invokevirtual 145, 3) := by decide +kernel
theorem dX7_write_42 : decode cX7_write 42 = .ok (.astore_n 3, 1) := by decide +kernel
theorem dX7_write_43 : decode cX7_write 43 = .ok (.aload_n 0, 1) := by decide +kernel
theorem dX7_write_44 : decode cX7_write 44 = .ok (.getfield 59, 3) := by decide +kernel
theorem dX7_write_47 : decode cX7_write 47 = .ok (.iload_n 2, 1) := by decide +kernel
theorem dX7_write_48 : decode cX7_write 48 = .ok (.aaload, 1) := by decide +kernel
theorem dX7_write_49 : decode cX7_write 49 = .ok (.getfield 136, 3) := by decide +kernel
theorem dX7_write_52 : decode cX7_write 52 = .ok (.bipush 24, 2) := by decide +kernel
theorem dX7_write_54 : decode cX7_write 54 = .ok (.invokestatic 280, 3) := by decide +kernel
theorem dX7_write_57 : decode cX7_write 57 = .ok (.istore 4, 2) := by decide +kernel
theorem dX7_write_59 : decode cX7_write 59 = .ok (.iconst 0, 1) := by decide +kernel
theorem dX7_write_60 : decode cX7_write 60 = .ok (.istore 5, 2) := by decide +kernel
theorem dX7_write_62 : decode cX7_write 62 = .ok (.iload 5, 2) := by decide +kernel
theorem dX7_write_64 : decode cX7_write 64 = .ok (.iload 4, 2) := by decide +kernel
theorem dX7_write_66 : decode cX7_write 66 = .ok (.if_icmp .ge 27, 3) := by decide +kernel
theorem dX7_write_69 : decode cX7_write 69 = .ok (.aload_n 0, 1) := by decide +kernel
theorem dX7_write_70 : decode cX7_write 70 = .ok (.getfield 59, 3) := by decide +kernel
theorem dX7_write_73 : decode cX7_write 73 = .ok (.iload_n 2, 1) := by decide +kernel
theorem dX7_write_74 : decode cX7_write 74 = .ok (.aaload, 1) := by decide +kernel
theorem dX7_write_75 : decode cX7_write 75 = .ok (.iload 5, 2) := by decide +kernel
theorem dX7_write_77 : decode cX7_write 77 = .ok (.aload_n 3, 1) := by decide +kernel
theorem dX7_write_78 : decode cX7_write 78 = .ok (.iload 5, 2) := by decide +kernel
theorem dX7_write_80 : decode cX7_write 80 = .ok (.iload_n 1, 1) := by decide +kernel
theorem dX7_write_81 : decode cX7_write 81 = .ok (.invokevirtual 149, 3) := by decide +kernel
theorem dX7_write_84 : decode cX7_write 84 = .ok (.invokevirtual 265, 3) := by decide +kernel
theorem dX7_write_87 : decode cX7_write 87 = .ok (.iinc 5 1, 3) := by decide +kernel
theorem dX7_write_90 : decode cX7_write 90 = .ok (.goto (-28), 3) := by decide +kernel
theorem dX7_write_93 : decode cX7_write 93 = .ok (.iload 4, 2) := by decide +kernel
theorem dX7_write_95 : decode cX7_write 95 = .ok (.ireturn, 1) := by decide +kernel
theorem dX7_count_0 : decode cX7_count 0 = .ok (.iload_n 1, 1) := by decide +kernel
theorem dX7_count_1 : decode cX7_count 1 = .ok (.tableswitch 117 0 8 #[51, 59, 67, 75, 83, 91, 96, 104, 112], 51) := by decide +kernel
theorem dX7_count_52 : decode cX7_count 52 = .ok (.aload_n 0, 1) := by decide +kernel
theorem dX7_count_53 : decode cX7_count 53 = .ok (.getfield 19, 3) := by decide +kernel
theorem dX7_count_56 : decode cX7_count 56 = .ok (.getfield 285, 3) := by decide +kernel
theorem dX7_count_59 : decode cX7_count 59 = .ok (.ireturn, 1) := by decide +kernel
theorem dX7_count_60 : decode cX7_count 60 = .ok (.aload_n 0, 1) := by decide +kernel
theorem dX7_count_61 : decode cX7_count 61 = .ok (.getfield 12, 3) := by decide +kernel
theorem dX7_count_64 : decode cX7_count 64 = .ok (.getfield 89, 3) := by decide +kernel
theorem dX7_count_67 : decode cX7_count 67 = .ok (.ireturn, 1) := by decide +kernel
theorem dX7_count_68 : decode cX7_count 68 = .ok (.aload_n 0, 1) := by decide +kernel
theorem dX7_count_69 : decode cX7_count 69 = .ok (.getfield 29, 3) := by decide +kernel
theorem dX7_count_72 : decode cX7_count 72 = .ok (.getfield 121, 3) := by decide +kernel
theorem dX7_count_75 : decode cX7_count 75 = .ok (.ireturn, 1) := by decide +kernel
theorem dX7_count_76 : decode cX7_count 76 = .ok (.aload_n 0, 1) := by decide +kernel
theorem dX7_count_77 : decode cX7_count 77 = .ok (.invokevirtual 145, 3) := by decide +kernel
theorem dX7_count_80 : decode cX7_count 80 = .ok (.invokevirtual 181, 3) := by decide +kernel
theorem dX7_count_83 : decode cX7_count 83 = .ok (.ireturn, 1) := by decide +kernel
theorem dX7_count_84 : decode cX7_count 84 = .ok (.aload_n 0, 1) := by decide +kernel
theorem dX7_count_85 : decode cX7_count 85 = .ok (.invokevirtual 145, 3) := by decide +kernel
theorem dX7_count_88 : decode cX7_count 88 = .ok (.invokevirtual 184, 3) := by decide +kernel
theorem dX7_count_91 : decode cX7_count 91 = .ok (.ireturn, 1) := by decide +kernel
theorem dX7_count_92 : decode cX7_count 92 = .ok (.aload_n 0, 1) := by decide +kernel
theorem dX7_count_93 : decode cX7_count 93 = .ok (.getfield 70, 3) := by decide +kernel
theorem dX7_count_96 : decode cX7_count 96 = .ok (.ireturn, 1) := by decide +kernel
theorem dX7_count_97 : decode cX7_count 97 = .ok (.aload_n 0, 1) := by decide +kernel
theorem dX7_count_98 : decode cX7_count 98 = .ok (.invokevirtual 145, 3) := by decide +kernel
theorem dX7_count_101 : decode cX7_count 101 = .ok (.invokevirtual 286, 3) := by decide +kernel
theorem dX7_count_104 : decode cX7_count 104 = .ok (.ireturn, 1) := by decide +kernel
theorem dX7_count_105 : decode cX7_count 105 = .ok (.aload_n 0, 1) := by decide +kernel
theorem dX7_count_106 : decode cX7_count 106 = .ok (.getfield 36, 3) := by decide +kernel
theorem dX7_count_109 : decode cX7_count 109 = .ok (.getfield 223, 3) := by decide +kernel
theorem dX7_count_112 : decode cX7_count 112 = .ok (.ireturn, 1) := by decide +kernel
theorem dX7_count_113 : decode cX7_count 113 = .ok (.aload_n 0, 1) := by decide +kernel
theorem dX7_count_114 : decode cX7_count 114 = .ok (.getfield 74, 3) := by decide +kernel
theorem dX7_count_117 : decode cX7_count 117 = .ok (.ireturn, 1) := by decide +kernel
theorem dX7_count_118 : decode cX7_count 118 = .ok (.bipush (-2), 2) := by decide +kernel
theorem dX7_count_120 : decode cX7_count 120 = .ok (.ireturn, 1) := by decide +kernel
theorem dX7_digest_0 : decode cX7_digest 0 = .ok (.ldc2_w 289, 3) := by decide +kernel
theorem dX7_digest_3 : decode cX7_digest 3 = .ok (.lstore_n 1, 1) := by decide +kernel
theorem dX7_digest_4 : decode cX7_digest 4 = .ok (.iconst 0, 1) := by decide +kernel
theorem dX7_digest_5 : decode cX7_digest 5 = .ok (.istore_n 3, 1) := by decide +kernel
theorem dX7_digest_6 : decode cX7_digest 6 = .ok (.iload_n 3, 1) := by decide +kernel
theorem dX7_digest_7 : decode cX7_digest 7 = .ok (.bipush 7, 2) := by decide +kernel
theorem dX7_digest_9 : decode cX7_digest 9 = .ok (.if_icmp .gt 22, 3) := by decide +kernel
theorem dX7_digest_12 : decode cX7_digest 12 = .ok (.ldc2_w 291, 3) := by decide +kernel
theorem dX7_digest_15 : decode cX7_digest 15 = .ok (.lload_n 1, 1) := by decide +kernel
theorem dX7_digest_16 : decode cX7_digest 16 = .ok (.lmul, 1) := by decide +kernel
theorem dX7_digest_17 : decode cX7_digest 17 = .ok (.aload_n 0, 1) := by decide +kernel
theorem dX7_digest_18 : decode cX7_digest 18 = .ok (.iload_n 3, 1) := by decide +kernel
theorem dX7_digest_19 : decode cX7_digest 19 = .ok (.invokevirtual 293, 3) := by decide +kernel
theorem dX7_digest_22 : decode cX7_digest 22 = .ok (.i2l, 1) := by decide +kernel
theorem dX7_digest_23 : decode cX7_digest 23 = .ok (.ladd, 1) := by decide +kernel
theorem dX7_digest_24 : decode cX7_digest 24 = .ok (.lstore_n 1, 1) := by decide +kernel
theorem dX7_digest_25 : decode cX7_digest 25 = .ok (.iinc 3 1, 3) := by decide +kernel
theorem dX7_digest_28 : decode cX7_digest 28 = .ok (.goto (-22), 3) := by decide +kernel
theorem dX7_digest_31 : decode cX7_digest 31 = .ok (.ldc2_w 291, 3) := by decide +kernel
theorem dX7_digest_34 : decode cX7_digest 34 = .ok (.lload_n 1, 1) := by decide +kernel
theorem dX7_digest_35 : decode cX7_digest 35 = .ok (.lmul, 1) := by decide +kernel
theorem dX7_digest_36 : decode cX7_digest 36 = .ok (.aload_n 0, 1) := by decide +kernel
theorem dX7_digest_37 : decode cX7_digest 37 = .ok (.invokevirtual 296, 3) := by decide +kernel
theorem dX7_digest_40 : decode cX7_digest 40 = .ok (.i2l, 1) := by decide +kernel
theorem dX7_digest_41 : decode cX7_digest 41 = .ok (.ladd, 1) := by decide +kernel
theorem dX7_digest_42 : decode cX7_digest 42 = .ok (.lstore_n 1, 1) := by decide +kernel
theorem dX7_digest_43 : decode cX7_digest 43 = .ok (.iconst 0, 1) := by decide +kernel
theorem dX7_digest_44 : decode cX7_digest 44 = .ok (.istore_n 3, 1) := by decide +kernel
theorem dX7_digest_45 : decode cX7_digest 45 = .ok (.iload_n 3, 1) := by decide +kernel
theorem dX7_digest_46 : decode cX7_digest 46 = .ok (.bipush 24, 2) := by decide +kernel
theorem dX7_digest_48 : decode cX7_digest 48 = .ok (.if_icmp .ge 22, 3) := by decide +kernel
theorem dX7_digest_51 : decode cX7_digest 51 = .ok (.ldc2_w 291, 3) := by decide +kernel
theorem dX7_digest_54 : decode cX7_digest 54 = .ok (.lload_n 1, 1) := by decide +kernel
theorem dX7_digest_55 : decode cX7_digest 55 = .ok (.lmul, 1) := by decide +kernel
theorem dX7_digest_56 : decode cX7_digest 56 = .ok (.aload_n 0, 1) := by decide +kernel
theorem dX7_digest_57 : decode cX7_digest 57 = .ok (.iload_n 3, 1) := by decide +kernel
theorem dX7_digest_58 : decode cX7_digest 58 = .ok (.invokevirtual 299, 3) := by decide +kernel
theorem dX7_digest_61 : decode cX7_digest 61 = .ok (.i2l, 1) := by decide +kernel
theorem dX7_digest_62 : decode cX7_digest 62 = .ok (.ladd, 1) := by decide +kernel
theorem dX7_digest_63 : decode cX7_digest 63 = .ok (.lstore_n 1, 1) := by decide +kernel
theorem dX7_digest_64 : decode cX7_digest 64 = .ok (.iinc 3 1, 3) := by decide +kernel
theorem dX7_digest_67 : decode cX7_digest 67 = .ok (.goto (-22), 3) := by decide +kernel
theorem dX7_digest_70 : decode cX7_digest 70 = .ok (.iconst 0, 1) := by decide +kernel
theorem dX7_digest_71 : decode cX7_digest 71 = .ok (.istore_n 3, 1) := by decide +kernel
theorem dX7_digest_72 : decode cX7_digest 72 = .ok (.iload_n 3, 1) := by decide +kernel
theorem dX7_digest_73 : decode cX7_digest 73 = .ok (.bipush 12, 2) := by decide +kernel
theorem dX7_digest_75 : decode cX7_digest 75 = .ok (.if_icmp .gt 53, 3) := by decide +kernel
theorem dX7_digest_78 : decode cX7_digest 78 = .ok (.ldc2_w 291, 3) := by decide +kernel
theorem dX7_digest_81 : decode cX7_digest 81 = .ok (.lload_n 1, 1) := by decide +kernel
theorem dX7_digest_82 : decode cX7_digest 82 = .ok (.lmul, 1) := by decide +kernel
theorem dX7_digest_83 : decode cX7_digest 83 = .ok (.aload_n 0, 1) := by decide +kernel
theorem dX7_digest_84 : decode cX7_digest 84 = .ok (.iconst 3, 1) := by decide +kernel
theorem dX7_digest_85 : decode cX7_digest 85 = .ok (.iload_n 3, 1) := by decide +kernel
theorem dX7_digest_86 : decode cX7_digest 86 = .ok (.invokevirtual 302, 3) := by decide +kernel
theorem dX7_digest_89 : decode cX7_digest 89 = .ok (.i2l, 1) := by decide +kernel
theorem dX7_digest_90 : decode cX7_digest 90 = .ok (.ladd, 1) := by decide +kernel
theorem dX7_digest_91 : decode cX7_digest 91 = .ok (.lstore_n 1, 1) := by decide +kernel
theorem dX7_digest_92 : decode cX7_digest 92 = .ok (.ldc2_w 291, 3) := by decide +kernel
theorem dX7_digest_95 : decode cX7_digest 95 = .ok (.lload_n 1, 1) := by decide +kernel
theorem dX7_digest_96 : decode cX7_digest 96 = .ok (.lmul, 1) := by decide +kernel
theorem dX7_digest_97 : decode cX7_digest 97 = .ok (.aload_n 0, 1) := by decide +kernel
theorem dX7_digest_98 : decode cX7_digest 98 = .ok (.bipush 9, 2) := by decide +kernel
theorem dX7_digest_100 : decode cX7_digest 100 = .ok (.iload_n 3, 1) := by decide +kernel
theorem dX7_digest_101 : decode cX7_digest 101 = .ok (.invokevirtual 302, 3) := by decide +kernel
theorem dX7_digest_104 : decode cX7_digest 104 = .ok (.i2l, 1) := by decide +kernel
theorem dX7_digest_105 : decode cX7_digest 105 = .ok (.ladd, 1) := by decide +kernel
theorem dX7_digest_106 : decode cX7_digest 106 = .ok (.lstore_n 1, 1) := by decide +kernel
theorem dX7_digest_107 : decode cX7_digest 107 = .ok (.ldc2_w 291, 3) := by decide +kernel
theorem dX7_digest_110 : decode cX7_digest 110 = .ok (.lload_n 1, 1) := by decide +kernel
theorem dX7_digest_111 : decode cX7_digest 111 = .ok (.lmul, 1) := by decide +kernel
theorem dX7_digest_112 : decode cX7_digest 112 = .ok (.aload_n 0, 1) := by decide +kernel
theorem dX7_digest_113 : decode cX7_digest 113 = .ok (.bipush 23, 2) := by decide +kernel
theorem dX7_digest_115 : decode cX7_digest 115 = .ok (.iload_n 3, 1) := by decide +kernel
theorem dX7_digest_116 : decode cX7_digest 116 = .ok (.invokevirtual 302, 3) := by decide +kernel
theorem dX7_digest_119 : decode cX7_digest 119 = .ok (.i2l, 1) := by decide +kernel
theorem dX7_digest_120 : decode cX7_digest 120 = .ok (.ladd, 1) := by decide +kernel
theorem dX7_digest_121 : decode cX7_digest 121 = .ok (.lstore_n 1, 1) := by decide +kernel
theorem dX7_digest_122 : decode cX7_digest 122 = .ok (.iinc 3 1, 3) := by decide +kernel
theorem dX7_digest_125 : decode cX7_digest 125 = .ok (.goto (-53), 3) := by decide +kernel
theorem dX7_digest_128 : decode cX7_digest 128 = .ok (.iconst 0, 1) := by decide +kernel
theorem dX7_digest_129 : decode cX7_digest 129 = .ok (.istore_n 3, 1) := by decide +kernel
theorem dX7_digest_130 : decode cX7_digest 130 = .ok (.iload_n 3, 1) := by decide +kernel
theorem dX7_digest_131 : decode cX7_digest 131 = .ok (.aload_n 0, 1) := by decide +kernel
theorem dX7_digest_132 : decode cX7_digest 132 = .ok (.getfield 19, 3) := by decide +kernel
theorem dX7_digest_135 : decode cX7_digest 135 = .ok (.getfield 285, 3) := by decide +kernel
theorem dX7_digest_138 : decode cX7_digest 138 = .ok (.if_icmp .ge 21, 3) := by decide +kernel
theorem dX7_digest_141 : decode cX7_digest 141 = .ok (.aload_n 0, 1) := by decide +kernel
theorem dX7_digest_142 : decode cX7_digest 142 = .ok (.aload_n 0, 1) := by decide +kernel
theorem dX7_digest_143 : decode cX7_digest 143 = .ok (.lload_n 1, 1) := by decide +kernel
theorem dX7_digest_144 : decode cX7_digest 144 = .ok (.iload_n 3, 1) := by decide +kernel
theorem dX7_digest_145 : decode cX7_digest 145 = .ok (.invokevirtual 305, 3) := by decide +kernel
theorem dX7_digest_148 : decode cX7_digest 148 = .ok (.iload_n 3, 1) := by decide +kernel
theorem dX7_digest_149 : decode cX7_digest 149 = .ok (.invokevirtual 309, 3) := by decide +kernel
theorem dX7_digest_152 : decode cX7_digest 152 = .ok (.lstore_n 1, 1) := by decide +kernel
theorem dX7_digest_153 : decode cX7_digest 153 = .ok (.iinc 3 1, 3) := by decide +kernel
theorem dX7_digest_156 : decode cX7_digest 156 = .ok (.goto (-26), 3) := by decide +kernel
theorem dX7_digest_159 : decode cX7_digest 159 = .ok (.iconst 0, 1) := by decide +kernel
theorem dX7_digest_160 : decode cX7_digest 160 = .ok (.istore_n 3, 1) := by decide +kernel
theorem dX7_digest_161 : decode cX7_digest 161 = .ok (.iload_n 3, 1) := by decide +kernel
theorem dX7_digest_162 : decode cX7_digest 162 = .ok (.iconst 3, 1) := by decide +kernel
theorem dX7_digest_163 : decode cX7_digest 163 = .ok (.if_icmp .gt 22, 3) := by decide +kernel
theorem dX7_digest_166 : decode cX7_digest 166 = .ok (.ldc2_w 291, 3) := by decide +kernel
theorem dX7_digest_169 : decode cX7_digest 169 = .ok (.lload_n 1, 1) := by decide +kernel
theorem dX7_digest_170 : decode cX7_digest 170 = .ok (.lmul, 1) := by decide +kernel
theorem dX7_digest_171 : decode cX7_digest 171 = .ok (.aload_n 0, 1) := by decide +kernel
theorem dX7_digest_172 : decode cX7_digest 172 = .ok (.iload_n 3, 1) := by decide +kernel
theorem dX7_digest_173 : decode cX7_digest 173 = .ok (.invokevirtual 312, 3) := by decide +kernel
theorem dX7_digest_176 : decode cX7_digest 176 = .ok (.i2l, 1) := by decide +kernel
theorem dX7_digest_177 : decode cX7_digest 177 = .ok (.ladd, 1) := by decide +kernel
theorem dX7_digest_178 : decode cX7_digest 178 = .ok (.lstore_n 1, 1) := by decide +kernel
theorem dX7_digest_179 : decode cX7_digest 179 = .ok (.iinc 3 1, 3) := by decide +kernel
theorem dX7_digest_182 : decode cX7_digest 182 = .ok (.goto (-21), 3) := by decide +kernel
theorem dX7_digest_185 : decode cX7_digest 185 = .ok (.ldc2_w 291, 3) := by decide +kernel
theorem dX7_digest_188 : decode cX7_digest 188 = .ok (.lload_n 1, 1) := by decide +kernel
theorem dX7_digest_189 : decode cX7_digest 189 = .ok (.lmul, 1) := by decide +kernel
theorem dX7_digest_190 : decode cX7_digest 190 = .ok (.aload_n 0, 1) := by decide +kernel
theorem dX7_digest_191 : decode cX7_digest 191 = .ok (.invokevirtual 315, 3) := by decide +kernel
theorem dX7_digest_194 : decode cX7_digest 194 = .ok (.i2l, 1) := by decide +kernel
theorem dX7_digest_195 : decode cX7_digest 195 = .ok (.ladd, 1) := by decide +kernel
theorem dX7_digest_196 : decode cX7_digest 196 = .ok (.lstore_n 1, 1) := by decide +kernel
theorem dX7_digest_197 : decode cX7_digest 197 = .ok (.ldc2_w 291, 3) := by decide +kernel
theorem dX7_digest_200 : decode cX7_digest 200 = .ok (.lload_n 1, 1) := by decide +kernel
theorem dX7_digest_201 : decode cX7_digest 201 = .ok (.lmul, 1) := by decide +kernel
theorem dX7_digest_202 : decode cX7_digest 202 = .ok (.aload_n 0, 1) := by decide +kernel
theorem dX7_digest_203 : decode cX7_digest 203 = .ok (.invokevirtual 318, 3) := by decide +kernel
theorem dX7_digest_206 : decode cX7_digest 206 = .ok (.i2l, 1) := by decide +kernel
theorem dX7_digest_207 : decode cX7_digest 207 = .ok (.ladd, 1) := by decide +kernel
theorem dX7_digest_208 : decode cX7_digest 208 = .ok (.lstore_n 1, 1) := by decide +kernel
theorem dX7_digest_209 : decode cX7_digest 209 = .ok (.aload_n 0, 1) := by decide +kernel
theorem dX7_digest_210 : decode cX7_digest 210 = .ok (.invokevirtual 209, 3) := by decide +kernel
theorem dX7_digest_213 : decode cX7_digest 213 = .ok (.aload_n 0, 1) := by decide +kernel
theorem dX7_digest_214 : decode cX7_digest 214 = .ok (.lload_n 1, 1) := by decide +kernel
theorem dX7_digest_215 : decode cX7_digest 215 = .ok (.invokevirtual 321, 3) := by decide +kernel
theorem dX7_digest_218 : decode cX7_digest 218 = .ok (.lstore_n 1, 1) := by decide +kernel
theorem dX7_digest_219 : decode cX7_digest 219 = .ok (.ldc2_w 291, 3) := by decide +kernel
theorem dX7_digest_222 : decode cX7_digest 222 = .ok (.lload_n 1, 1) := by decide +kernel
theorem dX7_digest_223 : decode cX7_digest 223 = .ok (.lmul, 1) := by decide +kernel
theorem dX7_digest_224 : decode cX7_digest 224 = .ok (.aload_n 0, 1) := by decide +kernel
theorem dX7_digest_225 : decode cX7_digest 225 = .ok (.iconst (-1), 1) := by decide +kernel
theorem dX7_digest_226 : decode cX7_digest 226 = .ok (.invokevirtual 325, 3) := by decide +kernel
theorem dX7_digest_229 : decode cX7_digest 229 = .ok (.i2l, 1) := by decide +kernel
theorem dX7_digest_230 : decode cX7_digest 230 = .ok (.ladd, 1) := by decide +kernel
theorem dX7_digest_231 : decode cX7_digest 231 = .ok (.lstore_n 1, 1) := by decide +kernel
theorem dX7_digest_232 : decode cX7_digest 232 = .ok (.ldc2_w 291, 3) := by decide +kernel
theorem dX7_digest_235 : decode cX7_digest 235 = .ok (.lload_n 1, 1) := by decide +kernel
theorem dX7_digest_236 : decode cX7_digest 236 = .ok (.lmul, 1) := by decide +kernel
theorem dX7_digest_237 : decode cX7_digest 237 = .ok (.aload_n 0, 1) := by decide +kernel
theorem dX7_digest_238 : decode cX7_digest 238 = .ok (.iconst 0, 1) := by decide +kernel
theorem dX7_digest_239 : decode cX7_digest 239 = .ok (.invokevirtual 325, 3) := by decide +kernel
theorem dX7_digest_242 : decode cX7_digest 242 = .ok (.i2l, 1) := by decide +kernel
theorem dX7_digest_243 : decode cX7_digest 243 = .ok (.ladd, 1) := by decide +kernel
theorem dX7_digest_244 : decode cX7_digest 244 = .ok (.lstore_n 1, 1) := by decide +kernel
theorem dX7_digest_245 : decode cX7_digest 245 = .ok (.ldc2_w 291, 3) := by decide +kernel
theorem dX7_digest_248 : decode cX7_digest 248 = .ok (.lload_n 1, 1) := by decide +kernel
theorem dX7_digest_249 : decode cX7_digest 249 = .ok (.lmul, 1) := by decide +kernel
theorem dX7_digest_250 : decode cX7_digest 250 = .ok (.aload_n 0, 1) := by decide +kernel
theorem dX7_digest_251 : decode cX7_digest 251 = .ok (.invokevirtual 328, 3) := by decide +kernel
theorem dX7_digest_254 : decode cX7_digest 254 = .ok (.i2l, 1) := by decide +kernel
theorem dX7_digest_255 : decode cX7_digest 255 = .ok (.ladd, 1) := by decide +kernel
theorem dX7_digest_256 : decode cX7_digest 256 = .ok (.lstore_n 1, 1) := by decide +kernel
theorem dX7_digest_257 : decode cX7_digest 257 = .ok (.ldc2_w 291, 3) := by decide +kernel
theorem dX7_digest_260 : decode cX7_digest 260 = .ok (.lload_n 1, 1) := by decide +kernel
theorem dX7_digest_261 : decode cX7_digest 261 = .ok (.lmul, 1) := by decide +kernel
theorem dX7_digest_262 : decode cX7_digest 262 = .ok (.aload_n 0, 1) := by decide +kernel
theorem dX7_digest_263 : decode cX7_digest 263 = .ok (.bipush 7, 2) := by decide +kernel
theorem dX7_digest_265 : decode cX7_digest 265 = .ok (.bipush 6, 2) := by decide +kernel
theorem dX7_digest_267 : decode cX7_digest 267 = .ok (.iconst 0, 1) := by decide +kernel
theorem dX7_digest_268 : decode cX7_digest 268 = .ok (.invokevirtual 331, 3) := by decide +kernel
theorem dX7_digest_271 : decode cX7_digest 271 = .ok (.i2l, 1) := by decide +kernel
theorem dX7_digest_272 : decode cX7_digest 272 = .ok (.ladd, 1) := by decide +kernel
theorem dX7_digest_273 : decode cX7_digest 273 = .ok (.lstore_n 1, 1) := by decide +kernel
theorem dX7_digest_274 : decode cX7_digest 274 = .ok (.ldc2_w 291, 3) := by decide +kernel
theorem dX7_digest_277 : decode cX7_digest 277 = .ok (.lload_n 1, 1) := by decide +kernel
theorem dX7_digest_278 : decode cX7_digest 278 = .ok (.lmul, 1) := by decide +kernel
theorem dX7_digest_279 : decode cX7_digest 279 = .ok (.aload_n 0, 1) := by decide +kernel
theorem dX7_digest_280 : decode cX7_digest 280 = .ok (.bipush 7, 2) := by decide +kernel
theorem dX7_digest_282 : decode cX7_digest 282 = .ok (.bipush 6, 2) := by decide +kernel
theorem dX7_digest_284 : decode cX7_digest 284 = .ok (.iconst 1, 1) := by decide +kernel
theorem dX7_digest_285 : decode cX7_digest 285 = .ok (.invokevirtual 331, 3) := by decide +kernel
theorem dX7_digest_288 : decode cX7_digest 288 = .ok (.i2l, 1) := by decide +kernel
theorem dX7_digest_289 : decode cX7_digest 289 = .ok (.ladd, 1) := by decide +kernel
theorem dX7_digest_290 : decode cX7_digest 290 = .ok (.lstore_n 1, 1) := by decide +kernel
theorem dX7_digest_291 : decode cX7_digest 291 = .ok (.lload_n 1, 1) := by decide +kernel
theorem dX7_digest_292 : decode cX7_digest 292 = .ok (.lreturn, 1) := by decide +kernel
theorem dX7_digestMonths_0 : decode cX7_digestMonths 0 = .ok (.lload_n 1, 1) := by decide +kernel
theorem dX7_digestMonths_1 : decode cX7_digestMonths 1 = .ok (.lstore 4, 2) := by decide +kernel
theorem dX7_digestMonths_3 : decode cX7_digestMonths 3 = .ok (.iconst 0, 1) := by decide +kernel
theorem dX7_digestMonths_4 : decode cX7_digestMonths 4 = .ok (.istore 6, 2) := by decide +kernel
theorem dX7_digestMonths_6 : decode cX7_digestMonths 6 = .ok (.iload 6, 2) := by decide +kernel
theorem dX7_digestMonths_8 : decode cX7_digestMonths 8 = .ok (.iconst 2, 1) := by decide +kernel
theorem dX7_digestMonths_9 : decode cX7_digestMonths 9 = .ok (.if_icmp .gt 26, 3) := by decide +kernel
theorem dX7_digestMonths_12 : decode cX7_digestMonths 12 = .ok (.ldc2_w 291, 3) := by decide +kernel
theorem dX7_digestMonths_15 : decode cX7_digestMonths 15 = .ok (.lload 4, 2) := by decide +kernel
theorem dX7_digestMonths_17 : decode cX7_digestMonths 17 = .ok (.lmul, 1) := by decide +kernel
theorem dX7_digestMonths_18 : decode cX7_digestMonths 18 = .ok (.aload_n 0, 1) := by decide +kernel
theorem dX7_digestMonths_19 : decode cX7_digestMonths 19 = .ok (.iload_n 3, 1) := by decide +kernel
theorem dX7_digestMonths_20 : decode cX7_digestMonths 20 = .ok (.iload 6, 2) := by decide +kernel
theorem dX7_digestMonths_22 : decode cX7_digestMonths 22 = .ok (.invokevirtual 334, 3) := by decide +kernel
theorem dX7_digestMonths_25 : decode cX7_digestMonths 25 = .ok (.i2l, 1) := by decide +kernel
theorem dX7_digestMonths_26 : decode cX7_digestMonths 26 = .ok (.ladd, 1) := by decide +kernel
theorem dX7_digestMonths_27 : decode cX7_digestMonths 27 = .ok (.lstore 4, 2) := by decide +kernel
theorem dX7_digestMonths_29 : decode cX7_digestMonths 29 = .ok (.iinc 6 1, 3) := by decide +kernel
theorem dX7_digestMonths_32 : decode cX7_digestMonths 32 = .ok (.goto (-26), 3) := by decide +kernel
theorem dX7_digestMonths_35 : decode cX7_digestMonths 35 = .ok (.getstatic 337, 3) := by decide +kernel
theorem dX7_digestMonths_38 : decode cX7_digestMonths 38 = .ok (.astore 6, 2) := by decide +kernel
theorem dX7_digestMonths_40 : decode cX7_digestMonths 40 = .ok (.aload 6, 2) := by decide +kernel
theorem dX7_digestMonths_42 : decode cX7_digestMonths 42 = .ok (.arraylength, 1) := by decide +kernel
theorem dX7_digestMonths_43 : decode cX7_digestMonths 43 = .ok (.istore 7, 2) := by decide +kernel
theorem dX7_digestMonths_45 : decode cX7_digestMonths 45 = .ok (.iconst 0, 1) := by decide +kernel
theorem dX7_digestMonths_46 : decode cX7_digestMonths 46 = .ok (.istore 8, 2) := by decide +kernel
theorem dX7_digestMonths_48 : decode cX7_digestMonths 48 = .ok (.iload 8, 2) := by decide +kernel
theorem dX7_digestMonths_50 : decode cX7_digestMonths 50 = .ok (.iload 7, 2) := by decide +kernel
theorem dX7_digestMonths_52 : decode cX7_digestMonths 52 = .ok (.if_icmp .ge 50, 3) := by decide +kernel
theorem dX7_digestMonths_55 : decode cX7_digestMonths 55 = .ok (.aload 6, 2) := by decide +kernel
theorem dX7_digestMonths_57 : decode cX7_digestMonths 57 = .ok (.iload 8, 2) := by decide +kernel
theorem dX7_digestMonths_59 : decode cX7_digestMonths 59 = .ok (.iaload, 1) := by decide +kernel
theorem dX7_digestMonths_60 : decode cX7_digestMonths 60 = .ok (.istore 9, 2) := by decide +kernel
theorem dX7_digestMonths_62 : decode cX7_digestMonths 62 = .ok (.iconst 0, 1) := by decide +kernel
theorem dX7_digestMonths_63 : decode cX7_digestMonths 63 = .ok (.istore 10, 2) := by decide +kernel
theorem dX7_digestMonths_65 : decode cX7_digestMonths 65 = .ok (.iload 10, 2) := by decide +kernel
theorem dX7_digestMonths_67 : decode cX7_digestMonths 67 = .ok (.iconst 3, 1) := by decide +kernel
theorem dX7_digestMonths_68 : decode cX7_digestMonths 68 = .ok (.if_icmp .gt 28, 3) := by decide +kernel
theorem dX7_digestMonths_71 : decode cX7_digestMonths 71 = .ok (.ldc2_w 291, 3) := by decide +kernel
theorem dX7_digestMonths_74 : decode cX7_digestMonths 74 = .ok (.lload 4, 2) := by decide +kernel
theorem dX7_digestMonths_76 : decode cX7_digestMonths 76 = .ok (.lmul, 1) := by decide +kernel
theorem dX7_digestMonths_77 : decode cX7_digestMonths 77 = .ok (.aload_n 0, 1) := by decide +kernel
theorem dX7_digestMonths_78 : decode cX7_digestMonths 78 = .ok (.iload 9, 2) := by decide +kernel
theorem dX7_digestMonths_80 : decode cX7_digestMonths 80 = .ok (.iload_n 3, 1) := by decide +kernel
theorem dX7_digestMonths_81 : decode cX7_digestMonths 81 = .ok (.iload 10, 2) := by decide +kernel
theorem dX7_digestMonths_83 : decode cX7_digestMonths 83 = .ok (.invokevirtual 340, 3) := by decide +kernel
theorem dX7_digestMonths_86 : decode cX7_digestMonths 86 = .ok (.i2l, 1) := by decide +kernel
theorem dX7_digestMonths_87 : decode cX7_digestMonths 87 = .ok (.ladd, 1) := by decide +kernel
theorem dX7_digestMonths_88 : decode cX7_digestMonths 88 = .ok (.lstore 4, 2) := by decide +kernel
theorem dX7_digestMonths_90 : decode cX7_digestMonths 90 = .ok (.iinc 10 1, 3) := by decide +kernel
theorem dX7_digestMonths_93 : decode cX7_digestMonths 93 = .ok (.goto (-28), 3) := by decide +kernel
theorem dX7_digestMonths_96 : decode cX7_digestMonths 96 = .ok (.iinc 8 1, 3) := by decide +kernel
theorem dX7_digestMonths_99 : decode cX7_digestMonths 99 = .ok (.goto (-51), 3) := by decide +kernel
theorem dX7_digestMonths_102 : decode cX7_digestMonths 102 = .ok (.iconst 0, 1) := by decide +kernel
theorem dX7_digestMonths_103 : decode cX7_digestMonths 103 = .ok (.istore 6, 2) := by decide +kernel
theorem dX7_digestMonths_105 : decode cX7_digestMonths 105 = .ok (.iload 6, 2) := by decide +kernel
theorem dX7_digestMonths_107 : decode cX7_digestMonths 107 = .ok (.iconst 3, 1) := by decide +kernel
theorem dX7_digestMonths_108 : decode cX7_digestMonths 108 = .ok (.if_icmp .gt 26, 3) := by decide +kernel
theorem dX7_digestMonths_111 : decode cX7_digestMonths 111 = .ok (.ldc2_w 291, 3) := by decide +kernel
theorem dX7_digestMonths_114 : decode cX7_digestMonths 114 = .ok (.lload 4, 2) := by decide +kernel
theorem dX7_digestMonths_116 : decode cX7_digestMonths 116 = .ok (.lmul, 1) := by decide +kernel
theorem dX7_digestMonths_117 : decode cX7_digestMonths 117 = .ok (.aload_n 0, 1) := by decide +kernel
theorem dX7_digestMonths_118 : decode cX7_digestMonths 118 = .ok (.iload_n 3, 1) := by decide +kernel
theorem dX7_digestMonths_119 : decode cX7_digestMonths 119 = .ok (.iload 6, 2) := by decide +kernel
theorem dX7_digestMonths_121 : decode cX7_digestMonths 121 = .ok (.invokevirtual 343, 3) := by decide +kernel
theorem dX7_digestMonths_124 : decode cX7_digestMonths 124 = .ok (.i2l, 1) := by decide +kernel
theorem dX7_digestMonths_125 : decode cX7_digestMonths 125 = .ok (.ladd, 1) := by decide +kernel
theorem dX7_digestMonths_126 : decode cX7_digestMonths 126 = .ok (.lstore 4, 2) := by decide +kernel
theorem dX7_digestMonths_128 : decode cX7_digestMonths 128 = .ok (.iinc 6 1, 3) := by decide +kernel
theorem dX7_digestMonths_131 : decode cX7_digestMonths 131 = .ok (.goto (-26), 3) := by decide +kernel
theorem dX7_digestMonths_134 : decode cX7_digestMonths 134 = .ok (.lload 4, 2) := by decide +kernel
theorem dX7_digestMonths_136 : decode cX7_digestMonths 136 = .ok (.lreturn, 1) := by decide +kernel
theorem dX7_digestPlans_0 : decode cX7_digestPlans 0 = .ok (.aload_n 0, 1) := by decide +kernel
theorem dX7_digestPlans_1 : decode cX7_digestPlans 1 = .ok (.iload_n 3, 1) := by decide +kernel
theorem dX7_digestPlans_2 : decode cX7_digestPlans 2 = .ok (.invokevirtual 199, 3) := by decide +kernel
theorem dX7_digestPlans_5 : decode cX7_digestPlans 5 = .ok (.aload_n 0, 1) := by decide +kernel
theorem dX7_digestPlans_6 : decode cX7_digestPlans 6 = .ok (.lload_n 1, 1) := by decide +kernel
theorem dX7_digestPlans_7 : decode cX7_digestPlans 7 = .ok (.invokevirtual 321, 3) := by decide +kernel
theorem dX7_digestPlans_10 : decode cX7_digestPlans 10 = .ok (.lstore 4, 2) := by decide +kernel
theorem dX7_digestPlans_12 : decode cX7_digestPlans 12 = .ok (.aload_n 0, 1) := by decide +kernel
theorem dX7_digestPlans_13 : decode cX7_digestPlans 13 = .ok (.iload_n 3, 1) := by decide +kernel
theorem dX7_digestPlans_14 : decode cX7_digestPlans 14 = .ok (.invokevirtual 206, 3) := by decide +kernel
theorem dX7_digestPlans_17 : decode cX7_digestPlans 17 = .ok (.aload_n 0, 1) := by decide +kernel
theorem dX7_digestPlans_18 : decode cX7_digestPlans 18 = .ok (.lload 4, 2) := by decide +kernel
theorem dX7_digestPlans_20 : decode cX7_digestPlans 20 = .ok (.invokevirtual 321, 3) := by decide +kernel
theorem dX7_digestPlans_23 : decode cX7_digestPlans 23 = .ok (.lstore 4, 2) := by decide +kernel
theorem dX7_digestPlans_25 : decode cX7_digestPlans 25 = .ok (.ldc2_w 291, 3) := by decide +kernel
theorem dX7_digestPlans_28 : decode cX7_digestPlans 28 = .ok (.lload 4, 2) := by decide +kernel
theorem dX7_digestPlans_30 : decode cX7_digestPlans 30 = .ok (.lmul, 1) := by decide +kernel
theorem dX7_digestPlans_31 : decode cX7_digestPlans 31 = .ok (.aload_n 0, 1) := by decide +kernel
theorem dX7_digestPlans_32 : decode cX7_digestPlans 32 = .ok (.iload_n 3, 1) := by decide +kernel
theorem dX7_digestPlans_33 : decode cX7_digestPlans 33 = .ok (.iconst 0, 1) := by decide +kernel
theorem dX7_digestPlans_34 : decode cX7_digestPlans 34 = .ok (.invokevirtual 346, 3) := by decide +kernel
theorem dX7_digestPlans_37 : decode cX7_digestPlans 37 = .ok (.i2l, 1) := by decide +kernel
theorem dX7_digestPlans_38 : decode cX7_digestPlans 38 = .ok (.ladd, 1) := by decide +kernel
theorem dX7_digestPlans_39 : decode cX7_digestPlans 39 = .ok (.lstore 4, 2) := by decide +kernel
theorem dX7_digestPlans_41 : decode cX7_digestPlans 41 = .ok (.ldc2_w 291, 3) := by decide +kernel
theorem dX7_digestPlans_44 : decode cX7_digestPlans 44 = .ok (.lload 4, 2) := by decide +kernel
theorem dX7_digestPlans_46 : decode cX7_digestPlans 46 = .ok (.lmul, 1) := by decide +kernel
theorem dX7_digestPlans_47 : decode cX7_digestPlans 47 = .ok (.aload_n 0, 1) := by decide +kernel
theorem dX7_digestPlans_48 : decode cX7_digestPlans 48 = .ok (.iload_n 3, 1) := by decide +kernel
theorem dX7_digestPlans_49 : decode cX7_digestPlans 49 = .ok (.iconst 1, 1) := by decide +kernel
theorem dX7_digestPlans_50 : decode cX7_digestPlans 50 = .ok (.invokevirtual 346, 3) := by decide +kernel
theorem dX7_digestPlans_53 : decode cX7_digestPlans 53 = .ok (.i2l, 1) := by decide +kernel
theorem dX7_digestPlans_54 : decode cX7_digestPlans 54 = .ok (.ladd, 1) := by decide +kernel
theorem dX7_digestPlans_55 : decode cX7_digestPlans 55 = .ok (.lstore 4, 2) := by decide +kernel
theorem dX7_digestPlans_57 : decode cX7_digestPlans 57 = .ok (.ldc2_w 291, 3) := by decide +kernel
theorem dX7_digestPlans_60 : decode cX7_digestPlans 60 = .ok (.lload 4, 2) := by decide +kernel
theorem dX7_digestPlans_62 : decode cX7_digestPlans 62 = .ok (.lmul, 1) := by decide +kernel
theorem dX7_digestPlans_63 : decode cX7_digestPlans 63 = .ok (.aload_n 0, 1) := by decide +kernel
theorem dX7_digestPlans_64 : decode cX7_digestPlans 64 = .ok (.iload_n 3, 1) := by decide +kernel
theorem dX7_digestPlans_65 : decode cX7_digestPlans 65 = .ok (.invokevirtual 349, 3) := by decide +kernel
theorem dX7_digestPlans_68 : decode cX7_digestPlans 68 = .ok (.i2l, 1) := by decide +kernel
theorem dX7_digestPlans_69 : decode cX7_digestPlans 69 = .ok (.ladd, 1) := by decide +kernel
theorem dX7_digestPlans_70 : decode cX7_digestPlans 70 = .ok (.lstore 4, 2) := by decide +kernel
theorem dX7_digestPlans_72 : decode cX7_digestPlans 72 = .ok (.ldc2_w 291, 3) := by decide +kernel
theorem dX7_digestPlans_75 : decode cX7_digestPlans 75 = .ok (.lload 4, 2) := by decide +kernel
theorem dX7_digestPlans_77 : decode cX7_digestPlans 77 = .ok (.lmul, 1) := by decide +kernel
theorem dX7_digestPlans_78 : decode cX7_digestPlans 78 = .ok (.aload_n 0, 1) := by decide +kernel
theorem dX7_digestPlans_79 : decode cX7_digestPlans 79 = .ok (.iconst 5, 1) := by decide +kernel
theorem dX7_digestPlans_80 : decode cX7_digestPlans 80 = .ok (.iload_n 3, 1) := by decide +kernel
theorem dX7_digestPlans_81 : decode cX7_digestPlans 81 = .ok (.iconst 0, 1) := by decide +kernel
theorem dX7_digestPlans_82 : decode cX7_digestPlans 82 = .ok (.invokevirtual 352, 3) := by decide +kernel
theorem dX7_digestPlans_85 : decode cX7_digestPlans 85 = .ok (.ladd, 1) := by decide +kernel
theorem dX7_digestPlans_86 : decode cX7_digestPlans 86 = .ok (.lstore 4, 2) := by decide +kernel
theorem dX7_digestPlans_88 : decode cX7_digestPlans 88 = .ok (.ldc2_w 291, 3) := by decide +kernel
theorem dX7_digestPlans_91 : decode cX7_digestPlans 91 = .ok (.lload 4, 2) := by decide +kernel
theorem dX7_digestPlans_93 : decode cX7_digestPlans 93 = .ok (.lmul, 1) := by decide +kernel
theorem dX7_digestPlans_94 : decode cX7_digestPlans 94 = .ok (.aload_n 0, 1) := by decide +kernel
theorem dX7_digestPlans_95 : decode cX7_digestPlans 95 = .ok (.iconst 5, 1) := by decide +kernel
theorem dX7_digestPlans_96 : decode cX7_digestPlans 96 = .ok (.iload_n 3, 1) := by decide +kernel
theorem dX7_digestPlans_97 : decode cX7_digestPlans 97 = .ok (.iconst 1, 1) := by decide +kernel
theorem dX7_digestPlans_98 : decode cX7_digestPlans 98 = .ok (.invokevirtual 352, 3) := by decide +kernel
theorem dX7_digestPlans_101 : decode cX7_digestPlans 101 = .ok (.ladd, 1) := by decide +kernel
theorem dX7_digestPlans_102 : decode cX7_digestPlans 102 = .ok (.lstore 4, 2) := by decide +kernel
theorem dX7_digestPlans_104 : decode cX7_digestPlans 104 = .ok (.lload 4, 2) := by decide +kernel
theorem dX7_digestPlans_106 : decode cX7_digestPlans 106 = .ok (.lreturn, 1) := by decide +kernel
theorem dX7_digestBest_0 : decode cX7_digestBest 0 = .ok (.lload_n 1, 1) := by decide +kernel
theorem dX7_digestBest_1 : decode cX7_digestBest 1 = .ok (.lstore_n 3, 1) := by decide +kernel
theorem dX7_digestBest_2 : decode cX7_digestBest 2 = .ok (.iconst 0, 1) := by decide +kernel
theorem dX7_digestBest_3 : decode cX7_digestBest 3 = .ok (.istore 5, 2) := by decide +kernel
theorem dX7_digestBest_5 : decode cX7_digestBest 5 = .ok (.iload 5, 2) := by decide +kernel
theorem dX7_digestBest_7 : decode cX7_digestBest 7 = .ok (.iconst 2, 1) := by decide +kernel
theorem dX7_digestBest_8 : decode cX7_digestBest 8 = .ok (.if_icmp .gt 26, 3) := by decide +kernel
theorem dX7_digestBest_11 : decode cX7_digestBest 11 = .ok (.ldc2_w 291, 3) := by decide +kernel
theorem dX7_digestBest_14 : decode cX7_digestBest 14 = .ok (.lload_n 3, 1) := by decide +kernel
theorem dX7_digestBest_15 : decode cX7_digestBest 15 = .ok (.lmul, 1) := by decide +kernel
theorem dX7_digestBest_16 : decode cX7_digestBest 16 = .ok (.aload_n 0, 1) := by decide +kernel
theorem dX7_digestBest_17 : decode cX7_digestBest 17 = .ok (.getfield 53, 3) := by decide +kernel
theorem dX7_digestBest_20 : decode cX7_digestBest 20 = .ok (.iload 5, 2) := by decide +kernel
theorem dX7_digestBest_22 : decode cX7_digestBest 22 = .ok (.invokevirtual 203, 3) := by decide +kernel
theorem dX7_digestBest_25 : decode cX7_digestBest 25 = .ok (.i2l, 1) := by decide +kernel
theorem dX7_digestBest_26 : decode cX7_digestBest 26 = .ok (.ladd, 1) := by decide +kernel
theorem dX7_digestBest_27 : decode cX7_digestBest 27 = .ok (.lstore_n 3, 1) := by decide +kernel
theorem dX7_digestBest_28 : decode cX7_digestBest 28 = .ok (.iinc 5 1, 3) := by decide +kernel
theorem dX7_digestBest_31 : decode cX7_digestBest 31 = .ok (.goto (-26), 3) := by decide +kernel
theorem dX7_digestBest_34 : decode cX7_digestBest 34 = .ok (.lload_n 3, 1) := by decide +kernel
theorem dX7_digestBest_35 : decode cX7_digestBest 35 = .ok (.lreturn, 1) := by decide +kernel
theorem dX7_within_0 : decode cX7_within 0 = .ok (.iload_n 0, 1) := by decide +kernel
theorem dX7_within_1 : decode cX7_within 1 = .ok (.iload_n 1, 1) := by decide +kernel
theorem dX7_within_2 : decode cX7_within 2 = .ok (.if_icmp .lt 12, 3) := by decide +kernel
theorem dX7_within_5 : decode cX7_within 5 = .ok (.iload_n 0, 1) := by decide +kernel
theorem dX7_within_6 : decode cX7_within 6 = .ok (.iload_n 2, 1) := by decide +kernel
theorem dX7_within_7 : decode cX7_within 7 = .ok (.if_icmp .gt 7, 3) := by decide +kernel
theorem dX7_within_10 : decode cX7_within 10 = .ok (.iconst 1, 1) := by decide +kernel
theorem dX7_within_11 : decode cX7_within 11 = .ok (.goto 4, 3) := by decide +kernel
theorem dX7_within_14 : decode cX7_within 14 = .ok (.iconst 0, 1) := by decide +kernel
theorem dX7_within_15 : decode cX7_within 15 = .ok (.ireturn, 1) := by decide +kernel
theorem dX7_isMonth_0 : decode cX7_isMonth 0 = .ok (.iload_n 0, 1) := by decide +kernel
theorem dX7_isMonth_1 : decode cX7_isMonth 1 = .ok (.iconst 0, 1) := by decide +kernel
theorem dX7_isMonth_2 : decode cX7_isMonth 2 = .ok (.bipush 23, 2) := by decide +kernel
theorem dX7_isMonth_4 : decode cX7_isMonth 4 = .ok (.invokestatic 85, 3) := by decide +kernel
theorem dX7_isMonth_7 : decode cX7_isMonth 7 = .ok (.ireturn, 1) := by decide +kernel
theorem dX7_isTenant_0 : decode cX7_isTenant 0 = .ok (.iload_n 1, 1) := by decide +kernel
theorem dX7_isTenant_1 : decode cX7_isTenant 1 = .ok (.ifCond .lt 18, 3) := by decide +kernel
theorem dX7_isTenant_4 : decode cX7_isTenant 4 = .ok (.iload_n 1, 1) := by decide +kernel
theorem dX7_isTenant_5 : decode cX7_isTenant 5 = .ok (.aload_n 0, 1) := by decide +kernel
theorem dX7_isTenant_6 : decode cX7_isTenant 6 = .ok (.getfield 19, 3) := by decide +kernel
theorem dX7_isTenant_9 : decode cX7_isTenant 9 = .ok (.getfield 285, 3) := by decide +kernel
theorem dX7_isTenant_12 : decode cX7_isTenant 12 = .ok (.if_icmp .ge 7, 3) := by decide +kernel
theorem dX7_isTenant_15 : decode cX7_isTenant 15 = .ok (.iconst 1, 1) := by decide +kernel
theorem dX7_isTenant_16 : decode cX7_isTenant 16 = .ok (.goto 4, 3) := by decide +kernel
theorem dX7_isTenant_19 : decode cX7_isTenant 19 = .ok (.iconst 0, 1) := by decide +kernel
theorem dX7_isTenant_20 : decode cX7_isTenant 20 = .ok (.ireturn, 1) := by decide +kernel
theorem dX7_found_0 : decode cX7_found 0 = .ok (.aload_n 0, 1) := by decide +kernel
theorem dX7_found_1 : decode cX7_found 1 = .ok (.iload_n 1, 1) := by decide +kernel
theorem dX7_found_2 : decode cX7_found 2 = .ok (.putfield 74, 3) := by decide +kernel
theorem dX7_found_5 : decode cX7_found 5 = .ok (.bipush (-10), 2) := by decide +kernel
theorem dX7_found_7 : decode cX7_found 7 = .ok (.iload_n 1, 1) := by decide +kernel
theorem dX7_found_8 : decode cX7_found 8 = .ok (.isub, 1) := by decide +kernel
theorem dX7_found_9 : decode cX7_found 9 = .ok (.ireturn, 1) := by decide +kernel
theorem dX7_textChanged_0 : decode cX7_textChanged 0 = .ok (.aload_n 0, 1) := by decide +kernel
theorem dX7_textChanged_1 : decode cX7_textChanged 1 = .ok (.getfield 19, 3) := by decide +kernel
theorem dX7_textChanged_4 : decode cX7_textChanged 4 = .ok (.aload_n 0, 1) := by decide +kernel
theorem dX7_textChanged_5 : decode cX7_textChanged 5 = .ok (.getfield 12, 3) := by decide +kernel
theorem dX7_textChanged_8 : decode cX7_textChanged 8 = .ok (.invokevirtual 356, 3) := by decide +kernel
theorem dX7_textChanged_11 : decode cX7_textChanged 11 = .ok (.aload_n 0, 1) := by decide +kernel
theorem dX7_textChanged_12 : decode cX7_textChanged 12 = .ok (.invokevirtual 115, 3) := by decide +kernel
theorem dX7_textChanged_15 : decode cX7_textChanged 15 = .ok (.return_, 1) := by decide +kernel
theorem dX7_houseChanged_0 : decode cX7_houseChanged 0 = .ok (.aload_n 0, 1) := by decide +kernel
theorem dX7_houseChanged_1 : decode cX7_houseChanged 1 = .ok (.iconst 0, 1) := by decide +kernel
theorem dX7_houseChanged_2 : decode cX7_houseChanged 2 = .ok (.putfield 77, 3) := by decide +kernel
theorem dX7_houseChanged_5 : decode cX7_houseChanged 5 = .ok (.aload_n 0, 1) := by decide +kernel
theorem dX7_houseChanged_6 : decode cX7_houseChanged 6 = .ok (.iconst 0, 1) := by decide +kernel
theorem dX7_houseChanged_7 : decode cX7_houseChanged 7 = .ok (.putfield 81, 3) := by decide +kernel
theorem dX7_houseChanged_10 : decode cX7_houseChanged 10 = .ok (.return_, 1) := by decide +kernel
theorem dX7_courseTold_0 : decode cX7_courseTold 0 = .ok (.aload_n 0, 1) := by decide +kernel
theorem dX7_courseTold_1 : decode cX7_courseTold 1 = .ok (.getfield 77, 3) := by decide +kernel
theorem dX7_courseTold_4 : decode cX7_courseTold 4 = .ok (.ifCond .ne 30, 3) := by decide +kernel
theorem dX7_courseTold_7 : decode cX7_courseTold 7 = .ok (.aload_n 0, 1) := by decide +kernel
theorem dX7_courseTold_8 : decode cX7_courseTold 8 = .ok (.getfield 43, 3) := by decide +kernel
theorem dX7_courseTold_11 : decode cX7_courseTold 11 = .ok (.aload_n 0, 1) := by decide +kernel
theorem dX7_courseTold_12 : decode cX7_courseTold 12 = .ok (.getfield 19, 3) := by decide +kernel
theorem dX7_courseTold_15 : decode cX7_courseTold 15 = .ok (.aload_n 0, 1) := by decide +kernel
theorem dX7_courseTold_16 : decode cX7_courseTold 16 = .ok (.getfield 29, 3) := by decide +kernel
theorem dX7_courseTold_19 : decode cX7_courseTold 19 = .ok (.sipush 255, 3) := by decide +kernel
theorem dX7_courseTold_22 : decode cX7_courseTold 22 = .ok (.aload_n 0, 1) := by decide +kernel
theorem dX7_courseTold_23 : decode cX7_courseTold 23 = .ok (.getfield 70, 3) := by decide +kernel
theorem dX7_courseTold_26 : decode cX7_courseTold 26 = .ok (.invokevirtual 225, 3) := by decide +kernel
theorem dX7_courseTold_29 : decode cX7_courseTold 29 = .ok (.aload_n 0, 1) := by decide +kernel
theorem dX7_courseTold_30 : decode cX7_courseTold 30 = .ok (.iconst 1, 1) := by decide +kernel
theorem dX7_courseTold_31 : decode cX7_courseTold 31 = .ok (.putfield 77, 3) := by decide +kernel
theorem dX7_courseTold_34 : decode cX7_courseTold 34 = .ok (.aload_n 0, 1) := by decide +kernel
theorem dX7_courseTold_35 : decode cX7_courseTold 35 = .ok (.getfield 43, 3) := by decide +kernel
theorem dX7_courseTold_38 : decode cX7_courseTold 38 = .ok (.areturn, 1) := by decide +kernel
theorem dX7_planWage_0 : decode cX7_planWage 0 = .ok (.aload_n 0, 1) := by decide +kernel
theorem dX7_planWage_1 : decode cX7_planWage 1 = .ok (.getfield 53, 3) := by decide +kernel
theorem dX7_planWage_4 : decode cX7_planWage 4 = .ok (.invokevirtual 360, 3) := by decide +kernel
theorem dX7_planWage_7 : decode cX7_planWage 7 = .ok (.aload_n 0, 1) := by decide +kernel
theorem dX7_planWage_8 : decode cX7_planWage 8 = .ok (.getfield 23, 3) := by decide +kernel
theorem dX7_planWage_11 : decode cX7_planWage 11 = .ok (.aload_n 0, 1) := by decide +kernel
theorem dX7_planWage_12 : decode cX7_planWage 12 = .ok (.getfield 19, 3) := by decide +kernel
theorem dX7_planWage_15 : decode cX7_planWage 15 = .ok (.invokevirtual 363, 3) := by decide +kernel
theorem dX7_planWage_18 : decode cX7_planWage 18 = .ok (.iconst 0, 1) := by decide +kernel
theorem dX7_planWage_19 : decode cX7_planWage 19 = .ok (.istore_n 2, 1) := by decide +kernel
theorem dX7_planWage_20 : decode cX7_planWage 20 = .ok (.iload_n 2, 1) := by decide +kernel
theorem dX7_planWage_21 : decode cX7_planWage 21 = .ok (.bipush 10, 2) := by decide +kernel
theorem dX7_planWage_23 : decode cX7_planWage 23 = .ok (.if_icmp .ge 63, 3) := by decide +kernel
theorem dX7_planWage_26 : decode cX7_planWage 26 = .ok (.aload_n 0, 1) := by decide +kernel
theorem dX7_planWage_27 : decode cX7_planWage 27 = .ok (.getfield 23, 3) := by decide +kernel
theorem dX7_planWage_30 : decode cX7_planWage 30 = .ok (.getfield 112, 3) := by decide +kernel
theorem dX7_planWage_33 : decode cX7_planWage 33 = .ok (.iload_n 1, 1) := by decide +kernel
theorem dX7_planWage_34 : decode cX7_planWage 34 = .ok (.iload_n 2, 1) := by decide +kernel
theorem dX7_planWage_35 : decode cX7_planWage 35 = .ok (.iastore, 1) := by decide +kernel
theorem dX7_planWage_36 : decode cX7_planWage 36 = .ok (.aload_n 0, 1) := by decide +kernel
theorem dX7_planWage_37 : decode cX7_planWage 37 = .ok (.getfield 47, 3) := by decide +kernel
theorem dX7_planWage_40 : decode cX7_planWage 40 = .ok (.aload_n 0, 1) := by decide +kernel
theorem dX7_planWage_41 : decode cX7_planWage 41 = .ok (.getfield 23, 3) := by decide +kernel
theorem dX7_planWage_44 : decode cX7_planWage 44 = .ok (.aload_n 0, 1) := by decide +kernel
theorem dX7_planWage_45 : decode cX7_planWage 45 = .ok (.getfield 29, 3) := by decide +kernel
theorem dX7_planWage_48 : decode cX7_planWage 48 = .ok (.sipush 255, 3) := by decide +kernel
theorem dX7_planWage_51 : decode cX7_planWage 51 = .ok (.aload_n 0, 1) := by decide +kernel
theorem dX7_planWage_52 : decode cX7_planWage 52 = .ok (.getfield 70, 3) := by decide +kernel
theorem dX7_planWage_55 : decode cX7_planWage 55 = .ok (.invokevirtual 225, 3) := by decide +kernel
theorem dX7_planWage_58 : decode cX7_planWage 58 = .ok (.aload_n 0, 1) := by decide +kernel
theorem dX7_planWage_59 : decode cX7_planWage 59 = .ok (.getfield 53, 3) := by decide +kernel
theorem dX7_planWage_62 : decode cX7_planWage 62 = .ok (.iload_n 2, 1) := by decide +kernel
theorem dX7_planWage_63 : decode cX7_planWage 63 = .ok (.aload_n 0, 1) := by decide +kernel
theorem dX7_planWage_64 : decode cX7_planWage 64 = .ok (.getfield 47, 3) := by decide +kernel
theorem dX7_planWage_67 : decode cX7_planWage 67 = .ok (.invokevirtual 181, 3) := by decide +kernel
theorem dX7_planWage_70 : decode cX7_planWage 70 = .ok (.aload_n 0, 1) := by decide +kernel
theorem dX7_planWage_71 : decode cX7_planWage 71 = .ok (.getfield 47, 3) := by decide +kernel
theorem dX7_planWage_74 : decode cX7_planWage 74 = .ok (.invokevirtual 184, 3) := by decide +kernel
theorem dX7_planWage_77 : decode cX7_planWage 77 = .ok (.invokevirtual 367, 3) := by decide +kernel
theorem dX7_planWage_80 : decode cX7_planWage 80 = .ok (.iinc 2 1, 3) := by decide +kernel
theorem dX7_planWage_83 : decode cX7_planWage 83 = .ok (.goto (-63), 3) := by decide +kernel
theorem dX7_planWage_86 : decode cX7_planWage 86 = .ok (.return_, 1) := by decide +kernel
theorem dX7_planSort_0 : decode cX7_planSort 0 = .ok (.aload_n 0, 1) := by decide +kernel
theorem dX7_planSort_1 : decode cX7_planSort 1 = .ok (.getfield 53, 3) := by decide +kernel
theorem dX7_planSort_4 : decode cX7_planSort 4 = .ok (.invokevirtual 360, 3) := by decide +kernel
theorem dX7_planSort_7 : decode cX7_planSort 7 = .ok (.aload_n 0, 1) := by decide +kernel
theorem dX7_planSort_8 : decode cX7_planSort 8 = .ok (.getfield 23, 3) := by decide +kernel
theorem dX7_planSort_11 : decode cX7_planSort 11 = .ok (.aload_n 0, 1) := by decide +kernel
theorem dX7_planSort_12 : decode cX7_planSort 12 = .ok (.getfield 19, 3) := by decide +kernel
theorem dX7_planSort_15 : decode cX7_planSort 15 = .ok (.invokevirtual 363, 3) := by decide +kernel
theorem dX7_planSort_18 : decode cX7_planSort 18 = .ok (.iconst 0, 1) := by decide +kernel
theorem dX7_planSort_19 : decode cX7_planSort 19 = .ok (.istore_n 2, 1) := by decide +kernel
theorem dX7_planSort_20 : decode cX7_planSort 20 = .ok (.iload_n 2, 1) := by decide +kernel
theorem dX7_planSort_21 : decode cX7_planSort 21 = .ok (.iconst 4, 1) := by decide +kernel
theorem dX7_planSort_22 : decode cX7_planSort 22 = .ok (.if_icmp .ge 63, 3) := by decide +kernel
theorem dX7_planSort_25 : decode cX7_planSort 25 = .ok (.aload_n 0, 1) := by decide +kernel
theorem dX7_planSort_26 : decode cX7_planSort 26 = .ok (.getfield 23, 3) := by decide +kernel
theorem dX7_planSort_29 : decode cX7_planSort 29 = .ok (.getfield 106, 3) := by decide +kernel
theorem dX7_planSort_32 : decode cX7_planSort 32 = .ok (.iload_n 1, 1) := by decide +kernel
theorem dX7_planSort_33 : decode cX7_planSort 33 = .ok (.iload_n 2, 1) := by decide +kernel
theorem dX7_planSort_34 : decode cX7_planSort 34 = .ok (.iastore, 1) := by decide +kernel
theorem dX7_planSort_35 : decode cX7_planSort 35 = .ok (.aload_n 0, 1) := by decide +kernel
theorem dX7_planSort_36 : decode cX7_planSort 36 = .ok (.getfield 47, 3) := by decide +kernel
theorem dX7_planSort_39 : decode cX7_planSort 39 = .ok (.aload_n 0, 1) := by decide +kernel
theorem dX7_planSort_40 : decode cX7_planSort 40 = .ok (.getfield 23, 3) := by decide +kernel
theorem dX7_planSort_43 : decode cX7_planSort 43 = .ok (.aload_n 0, 1) := by decide +kernel
theorem dX7_planSort_44 : decode cX7_planSort 44 = .ok (.getfield 29, 3) := by decide +kernel
theorem dX7_planSort_47 : decode cX7_planSort 47 = .ok (.sipush 255, 3) := by decide +kernel
theorem dX7_planSort_50 : decode cX7_planSort 50 = .ok (.aload_n 0, 1) := by decide +kernel
theorem dX7_planSort_51 : decode cX7_planSort 51 = .ok (.getfield 70, 3) := by decide +kernel
theorem dX7_planSort_54 : decode cX7_planSort 54 = .ok (.invokevirtual 225, 3) := by decide +kernel
theorem dX7_planSort_57 : decode cX7_planSort 57 = .ok (.aload_n 0, 1) := by decide +kernel
theorem dX7_planSort_58 : decode cX7_planSort 58 = .ok (.getfield 53, 3) := by decide +kernel
theorem dX7_planSort_61 : decode cX7_planSort 61 = .ok (.iload_n 2, 1) := by decide +kernel
theorem dX7_planSort_62 : decode cX7_planSort 62 = .ok (.aload_n 0, 1) := by decide +kernel
theorem dX7_planSort_63 : decode cX7_planSort 63 = .ok (.getfield 47, 3) := by decide +kernel
theorem dX7_planSort_66 : decode cX7_planSort 66 = .ok (.invokevirtual 181, 3) := by decide +kernel
theorem dX7_planSort_69 : decode cX7_planSort 69 = .ok (.aload_n 0, 1) := by decide +kernel
theorem dX7_planSort_70 : decode cX7_planSort 70 = .ok (.getfield 47, 3) := by decide +kernel
theorem dX7_planSort_73 : decode cX7_planSort 73 = .ok (.invokevirtual 184, 3) := by decide +kernel
theorem dX7_planSort_76 : decode cX7_planSort 76 = .ok (.invokevirtual 367, 3) := by decide +kernel
theorem dX7_planSort_79 : decode cX7_planSort 79 = .ok (.iinc 2 1, 3) := by decide +kernel
theorem dX7_planSort_82 : decode cX7_planSort 82 = .ok (.goto (-62), 3) := by decide +kernel
theorem dX7_planSort_85 : decode cX7_planSort 85 = .ok (.return_, 1) := by decide +kernel
theorem dX7_planRoom_0 : decode cX7_planRoom 0 = .ok (.aload_n 0, 1) := by decide +kernel
theorem dX7_planRoom_1 : decode cX7_planRoom 1 = .ok (.getfield 53, 3) := by decide +kernel
theorem dX7_planRoom_4 : decode cX7_planRoom 4 = .ok (.invokevirtual 360, 3) := by decide +kernel
theorem dX7_planRoom_7 : decode cX7_planRoom 7 = .ok (.iconst 1, 1) := by decide +kernel
theorem dX7_planRoom_8 : decode cX7_planRoom 8 = .ok (.istore_n 1, 1) := by decide +kernel
theorem dX7_planRoom_9 : decode cX7_planRoom 9 = .ok (.iload_n 1, 1) := by decide +kernel
theorem dX7_planRoom_10 : decode cX7_planRoom 10 = .ok (.bipush 8, 2) := by decide +kernel
theorem dX7_planRoom_12 : decode cX7_planRoom 12 = .ok (.if_icmp .gt 50, 3) := by decide +kernel
theorem dX7_planRoom_15 : decode cX7_planRoom 15 = .ok (.aload_n 0, 1) := by decide +kernel
theorem dX7_planRoom_16 : decode cX7_planRoom 16 = .ok (.getfield 47, 3) := by decide +kernel
theorem dX7_planRoom_19 : decode cX7_planRoom 19 = .ok (.aload_n 0, 1) := by decide +kernel
theorem dX7_planRoom_20 : decode cX7_planRoom 20 = .ok (.getfield 19, 3) := by decide +kernel
theorem dX7_planRoom_23 : decode cX7_planRoom 23 = .ok (.aload_n 0, 1) := by decide +kernel
theorem dX7_planRoom_24 : decode cX7_planRoom 24 = .ok (.getfield 29, 3) := by decide +kernel
theorem dX7_planRoom_27 : decode cX7_planRoom 27 = .ok (.sipush 255, 3) := by decide +kernel
theorem dX7_planRoom_30 : decode cX7_planRoom 30 = .ok (.iload_n 1, 1) := by decide +kernel
theorem dX7_planRoom_31 : decode cX7_planRoom 31 = .ok (.invokevirtual 225, 3) := by decide +kernel
theorem dX7_planRoom_34 : decode cX7_planRoom 34 = .ok (.aload_n 0, 1) := by decide +kernel
theorem dX7_planRoom_35 : decode cX7_planRoom 35 = .ok (.getfield 53, 3) := by decide +kernel
theorem dX7_planRoom_38 : decode cX7_planRoom 38 = .ok (.iload_n 1, 1) := by decide +kernel
theorem dX7_planRoom_39 : decode cX7_planRoom 39 = .ok (.aload_n 0, 1) := by decide +kernel
theorem dX7_planRoom_40 : decode cX7_planRoom 40 = .ok (.getfield 47, 3) := by decide +kernel
theorem dX7_planRoom_43 : decode cX7_planRoom 43 = .ok (.invokevirtual 181, 3) := by decide +kernel
theorem dX7_planRoom_46 : decode cX7_planRoom 46 = .ok (.aload_n 0, 1) := by decide +kernel
theorem dX7_planRoom_47 : decode cX7_planRoom 47 = .ok (.getfield 47, 3) := by decide +kernel
theorem dX7_planRoom_50 : decode cX7_planRoom 50 = .ok (.invokevirtual 184, 3) := by decide +kernel
theorem dX7_planRoom_53 : decode cX7_planRoom 53 = .ok (.invokevirtual 367, 3) := by decide +kernel
theorem dX7_planRoom_56 : decode cX7_planRoom 56 = .ok (.iinc 1 1, 3) := by decide +kernel
theorem dX7_planRoom_59 : decode cX7_planRoom 59 = .ok (.goto (-50), 3) := by decide +kernel
theorem dX7_planRoom_62 : decode cX7_planRoom 62 = .ok (.return_, 1) := by decide +kernel
theorem dX7_sparedEvents_0 : decode cX7_sparedEvents 0 = .ok (.iconst 1, 1) := by decide +kernel
theorem dX7_sparedEvents_1 : decode cX7_sparedEvents 1 = .ok (.aload_n 0, 1) := by decide +kernel
theorem dX7_sparedEvents_2 : decode cX7_sparedEvents 2 = .ok (.getfield 29, 3) := by decide +kernel
theorem dX7_sparedEvents_5 : decode cX7_sparedEvents 5 = .ok (.getfield 121, 3) := by decide +kernel
theorem dX7_sparedEvents_8 : decode cX7_sparedEvents 8 = .ok (.ishl, 1) := by decide +kernel
theorem dX7_sparedEvents_9 : decode cX7_sparedEvents 9 = .ok (.iconst 1, 1) := by decide +kernel
theorem dX7_sparedEvents_10 : decode cX7_sparedEvents 10 = .ok (.isub, 1) := by decide +kernel
theorem dX7_sparedEvents_11 : decode cX7_sparedEvents 11 = .ok (.istore_n 1, 1) := by decide +kernel
theorem dX7_sparedEvents_12 : decode cX7_sparedEvents 12 = .ok (.aload_n 0, 1) := by decide +kernel
theorem dX7_sparedEvents_13 : decode cX7_sparedEvents 13 = .ok (.iload_n 1, 1) := by decide +kernel
theorem dX7_sparedEvents_14 : decode cX7_sparedEvents 14 = .ok (.invokevirtual 244, 3) := by decide +kernel
theorem dX7_sparedEvents_17 : decode cX7_sparedEvents 17 = .ok (.ifCond .ne 5, 3) := by decide +kernel
theorem dX7_sparedEvents_20 : decode cX7_sparedEvents 20 = .ok (.iconst 0, 1) := by decide +kernel
theorem dX7_sparedEvents_21 : decode cX7_sparedEvents 21 = .ok (.ireturn, 1) := by decide +kernel
theorem dX7_sparedEvents_22 : decode cX7_sparedEvents 22 = .ok (.iconst 0, 1) := by decide +kernel
theorem dX7_sparedEvents_23 : decode cX7_sparedEvents 23 = .ok (.istore_n 2, 1) := by decide +kernel
theorem dX7_sparedEvents_24 : decode cX7_sparedEvents 24 = .ok (.iload_n 2, 1) := by decide +kernel
theorem dX7_sparedEvents_25 : decode cX7_sparedEvents 25 = .ok (.aload_n 0, 1) := by decide +kernel
theorem dX7_sparedEvents_26 : decode cX7_sparedEvents 26 = .ok (.getfield 29, 3) := by decide +kernel
theorem dX7_sparedEvents_29 : decode cX7_sparedEvents 29 = .ok (.getfield 121, 3) := by decide +kernel
theorem dX7_sparedEvents_32 : decode cX7_sparedEvents 32 = .ok (.if_icmp .ge 27, 3) := by decide +kernel
theorem dX7_sparedEvents_35 : decode cX7_sparedEvents 35 = .ok (.aload_n 0, 1) := by decide +kernel
theorem dX7_sparedEvents_36 : decode cX7_sparedEvents 36 = .ok (.iload_n 1, 1) := by decide +kernel
theorem dX7_sparedEvents_37 : decode cX7_sparedEvents 37 = .ok (.iconst 1, 1) := by decide +kernel
theorem dX7_sparedEvents_38 : decode cX7_sparedEvents 38 = .ok (.iload_n 2, 1) := by decide +kernel
theorem dX7_sparedEvents_39 : decode cX7_sparedEvents 39 = .ok (.ishl, 1) := by decide +kernel
theorem dX7_sparedEvents_40 : decode cX7_sparedEvents 40 = .ok (.iconst (-1), 1) := by decide +kernel
theorem dX7_sparedEvents_41 : decode cX7_sparedEvents 41 = .ok (.ixor, 1) := by decide +kernel
theorem dX7_sparedEvents_42 : decode cX7_sparedEvents 42 = .ok (.iand, 1) := by decide +kernel
theorem dX7_sparedEvents_43 : decode cX7_sparedEvents 43 = .ok (.invokevirtual 244, 3) := by decide +kernel
theorem dX7_sparedEvents_46 : decode cX7_sparedEvents 46 = .ok (.ifCond .ne 7, 3) := by decide +kernel
theorem dX7_sparedEvents_49 : decode cX7_sparedEvents 49 = .ok (.iconst 1, 1) := by decide +kernel
theorem dX7_sparedEvents_50 : decode cX7_sparedEvents 50 = .ok (.iload_n 2, 1) := by decide +kernel
theorem dX7_sparedEvents_51 : decode cX7_sparedEvents 51 = .ok (.ishl, 1) := by decide +kernel
theorem dX7_sparedEvents_52 : decode cX7_sparedEvents 52 = .ok (.ireturn, 1) := by decide +kernel
theorem dX7_sparedEvents_53 : decode cX7_sparedEvents 53 = .ok (.iinc 2 1, 3) := by decide +kernel
theorem dX7_sparedEvents_56 : decode cX7_sparedEvents 56 = .ok (.goto (-32), 3) := by decide +kernel
theorem dX7_sparedEvents_59 : decode cX7_sparedEvents 59 = .ok (.iconst 0, 1) := by decide +kernel
theorem dX7_sparedEvents_60 : decode cX7_sparedEvents 60 = .ok (.istore_n 2, 1) := by decide +kernel
theorem dX7_sparedEvents_61 : decode cX7_sparedEvents 61 = .ok (.iload_n 2, 1) := by decide +kernel
theorem dX7_sparedEvents_62 : decode cX7_sparedEvents 62 = .ok (.aload_n 0, 1) := by decide +kernel
theorem dX7_sparedEvents_63 : decode cX7_sparedEvents 63 = .ok (.getfield 29, 3) := by decide +kernel
theorem dX7_sparedEvents_66 : decode cX7_sparedEvents 66 = .ok (.getfield 121, 3) := by decide +kernel
theorem dX7_sparedEvents_69 : decode cX7_sparedEvents 69 = .ok (.if_icmp .ge 55, 3) := by decide +kernel
theorem dX7_sparedEvents_72 : decode cX7_sparedEvents 72 = .ok (.iload_n 2, 1) := by decide +kernel
theorem dX7_sparedEvents_73 : decode cX7_sparedEvents 73 = .ok (.iconst 1, 1) := by decide +kernel
theorem dX7_sparedEvents_74 : decode cX7_sparedEvents 74 = .ok (.iadd, 1) := by decide +kernel
theorem dX7_sparedEvents_75 : decode cX7_sparedEvents 75 = .ok (.istore_n 3, 1) := by decide +kernel
theorem dX7_sparedEvents_76 : decode cX7_sparedEvents 76 = .ok (.iload_n 3, 1) := by decide +kernel
theorem dX7_sparedEvents_77 : decode cX7_sparedEvents 77 = .ok (.aload_n 0, 1) := by decide +kernel
theorem dX7_sparedEvents_78 : decode cX7_sparedEvents 78 = .ok (.getfield 29, 3) := by decide +kernel
theorem dX7_sparedEvents_81 : decode cX7_sparedEvents 81 = .ok (.getfield 121, 3) := by decide +kernel
theorem dX7_sparedEvents_84 : decode cX7_sparedEvents 84 = .ok (.if_icmp .ge 34, 3) := by decide +kernel
theorem dX7_sparedEvents_87 : decode cX7_sparedEvents 87 = .ok (.iconst 1, 1) := by decide +kernel
theorem dX7_sparedEvents_88 : decode cX7_sparedEvents 88 = .ok (.iload_n 2, 1) := by decide +kernel
theorem dX7_sparedEvents_89 : decode cX7_sparedEvents 89 = .ok (.ishl, 1) := by decide +kernel
theorem dX7_sparedEvents_90 : decode cX7_sparedEvents 90 = .ok (.iconst 1, 1) := by decide +kernel
theorem dX7_sparedEvents_91 : decode cX7_sparedEvents 91 = .ok (.iload_n 3, 1) := by decide +kernel
theorem dX7_sparedEvents_92 : decode cX7_sparedEvents 92 = .ok (.ishl, 1) := by decide +kernel
theorem dX7_sparedEvents_93 : decode cX7_sparedEvents 93 = .ok (.ior, 1) := by decide +kernel
theorem dX7_sparedEvents_94 : decode cX7_sparedEvents 94 = .ok (.istore 4, 2) := by decide +kernel
theorem dX7_sparedEvents_96 : decode cX7_sparedEvents 96 = .ok (.aload_n 0, 1) := by decide +kernel
theorem dX7_sparedEvents_97 : decode cX7_sparedEvents 97 = .ok (.iload_n 1, 1) := by decide +kernel
theorem dX7_sparedEvents_98 : decode cX7_sparedEvents 98 = .ok (.iload 4, 2) := by decide +kernel
theorem dX7_sparedEvents_100 : decode cX7_sparedEvents 100 = .ok (.iconst (-1), 1) := by decide +kernel
theorem dX7_sparedEvents_101 : decode cX7_sparedEvents 101 = .ok (.ixor, 1) := by decide +kernel
theorem dX7_sparedEvents_102 : decode cX7_sparedEvents 102 = .ok (.iand, 1) := by decide +kernel
theorem dX7_sparedEvents_103 : decode cX7_sparedEvents 103 = .ok (.invokevirtual 244, 3) := by decide +kernel
theorem dX7_sparedEvents_106 : decode cX7_sparedEvents 106 = .ok (.ifCond .ne 6, 3) := by decide +kernel
theorem dX7_sparedEvents_109 : decode cX7_sparedEvents 109 = .ok (.iload 4, 2) := by decide +kernel
theorem dX7_sparedEvents_111 : decode cX7_sparedEvents 111 = .ok (.ireturn, 1) := by decide +kernel
theorem dX7_sparedEvents_112 : decode cX7_sparedEvents 112 = .ok (.iinc 3 1, 3) := by decide +kernel
theorem dX7_sparedEvents_115 : decode cX7_sparedEvents 115 = .ok (.goto (-39), 3) := by decide +kernel
theorem dX7_sparedEvents_118 : decode cX7_sparedEvents 118 = .ok (.iinc 2 1, 3) := by decide +kernel
theorem dX7_sparedEvents_121 : decode cX7_sparedEvents 121 = .ok (.goto (-60), 3) := by decide +kernel
theorem dX7_sparedEvents_124 : decode cX7_sparedEvents 124 = .ok (.iconst (-1), 1) := by decide +kernel
theorem dX7_sparedEvents_125 : decode cX7_sparedEvents 125 = .ok (.ireturn, 1) := by decide +kernel
theorem dX7_settledWith_0 : decode cX7_settledWith 0 = .ok (.aload_n 0, 1) := by decide +kernel
theorem dX7_settledWith_1 : decode cX7_settledWith 1 = .ok (.getfield 81, 3) := by decide +kernel
theorem dX7_settledWith_4 : decode cX7_settledWith 4 = .ok (.ifCond .ne 16, 3) := by decide +kernel
theorem dX7_settledWith_7 : decode cX7_settledWith 7 = .ok (.aload_n 0, 1) := by decide +kernel
theorem dX7_settledWith_8 : decode cX7_settledWith 8 = .ok (.getfield 63, 3) := by decide +kernel
theorem dX7_settledWith_11 : decode cX7_settledWith 11 = .ok (.iconst (-1), 1) := by decide +kernel
theorem dX7_settledWith_12 : decode cX7_settledWith 12 = .ok (.invokestatic 370, 3) := by decide +kernel
theorem dX7_settledWith_15 : decode cX7_settledWith 15 = .ok (.aload_n 0, 1) := by decide +kernel
theorem dX7_settledWith_16 : decode cX7_settledWith 16 = .ok (.iconst 1, 1) := by decide +kernel
theorem dX7_settledWith_17 : decode cX7_settledWith 17 = .ok (.putfield 81, 3) := by decide +kernel
theorem dX7_settledWith_20 : decode cX7_settledWith 20 = .ok (.aload_n 0, 1) := by decide +kernel
theorem dX7_settledWith_21 : decode cX7_settledWith 21 = .ok (.getfield 63, 3) := by decide +kernel
theorem dX7_settledWith_24 : decode cX7_settledWith 24 = .ok (.iload_n 1, 1) := by decide +kernel
theorem dX7_settledWith_25 : decode cX7_settledWith 25 = .ok (.iaload, 1) := by decide +kernel
theorem dX7_settledWith_26 : decode cX7_settledWith 26 = .ok (.ifCond .ge 36, 3) := by decide +kernel
theorem dX7_settledWith_29 : decode cX7_settledWith 29 = .ok (.aload_n 0, 1) := by decide +kernel
theorem dX7_settledWith_30 : decode cX7_settledWith 30 = .ok (.getfield 47, 3) := by decide +kernel
theorem dX7_settledWith_33 : decode cX7_settledWith 33 = .ok (.aload_n 0, 1) := by decide +kernel
theorem dX7_settledWith_34 : decode cX7_settledWith 34 = .ok (.getfield 19, 3) := by decide +kernel
theorem dX7_settledWith_37 : decode cX7_settledWith 37 = .ok (.aload_n 0, 1) := by decide +kernel
theorem dX7_settledWith_38 : decode cX7_settledWith 38 = .ok (.getfield 29, 3) := by decide +kernel
theorem dX7_settledWith_41 : decode cX7_settledWith 41 = .ok (.iload_n 1, 1) := by decide +kernel
theorem dX7_settledWith_42 : decode cX7_settledWith 42 = .ok (.aload_n 0, 1) := by decide +kernel
theorem dX7_settledWith_43 : decode cX7_settledWith 43 = .ok (.getfield 70, 3) := by decide +kernel
theorem dX7_settledWith_46 : decode cX7_settledWith 46 = .ok (.invokevirtual 225, 3) := by decide +kernel
theorem dX7_settledWith_49 : decode cX7_settledWith 49 = .ok (.aload_n 0, 1) := by decide +kernel
theorem dX7_settledWith_50 : decode cX7_settledWith 50 = .ok (.getfield 63, 3) := by decide +kernel
theorem dX7_settledWith_53 : decode cX7_settledWith 53 = .ok (.iload_n 1, 1) := by decide +kernel
theorem dX7_settledWith_54 : decode cX7_settledWith 54 = .ok (.aload_n 0, 1) := by decide +kernel
theorem dX7_settledWith_55 : decode cX7_settledWith 55 = .ok (.getfield 47, 3) := by decide +kernel
theorem dX7_settledWith_58 : decode cX7_settledWith 58 = .ok (.invokevirtual 376, 3) := by decide +kernel
theorem dX7_settledWith_61 : decode cX7_settledWith 61 = .ok (.iastore, 1) := by decide +kernel
theorem dX7_settledWith_62 : decode cX7_settledWith 62 = .ok (.aload_n 0, 1) := by decide +kernel
theorem dX7_settledWith_63 : decode cX7_settledWith 63 = .ok (.getfield 63, 3) := by decide +kernel
theorem dX7_settledWith_66 : decode cX7_settledWith 66 = .ok (.iload_n 1, 1) := by decide +kernel
theorem dX7_settledWith_67 : decode cX7_settledWith 67 = .ok (.iaload, 1) := by decide +kernel
theorem dX7_settledWith_68 : decode cX7_settledWith 68 = .ok (.ireturn, 1) := by decide +kernel
theorem dX7_bitPlace_0 : decode cX7_bitPlace 0 = .ok (.iconst 0, 1) := by decide +kernel
theorem dX7_bitPlace_1 : decode cX7_bitPlace 1 = .ok (.istore_n 2, 1) := by decide +kernel
theorem dX7_bitPlace_2 : decode cX7_bitPlace 2 = .ok (.iconst 0, 1) := by decide +kernel
theorem dX7_bitPlace_3 : decode cX7_bitPlace 3 = .ok (.istore_n 3, 1) := by decide +kernel
theorem dX7_bitPlace_4 : decode cX7_bitPlace 4 = .ok (.iload_n 3, 1) := by decide +kernel
theorem dX7_bitPlace_5 : decode cX7_bitPlace 5 = .ok (.bipush 8, 2) := by decide +kernel
theorem dX7_bitPlace_7 : decode cX7_bitPlace 7 = .ok (.if_icmp .ge 27, 3) := by decide +kernel
theorem dX7_bitPlace_10 : decode cX7_bitPlace 10 = .ok (.iload_n 0, 1) := by decide +kernel
theorem dX7_bitPlace_11 : decode cX7_bitPlace 11 = .ok (.iload_n 3, 1) := by decide +kernel
theorem dX7_bitPlace_12 : decode cX7_bitPlace 12 = .ok (.ishr, 1) := by decide +kernel
theorem dX7_bitPlace_13 : decode cX7_bitPlace 13 = .ok (.iconst 1, 1) := by decide +kernel
theorem dX7_bitPlace_14 : decode cX7_bitPlace 14 = .ok (.iand, 1) := by decide +kernel
theorem dX7_bitPlace_15 : decode cX7_bitPlace 15 = .ok (.ifCond .eq 13, 3) := by decide +kernel
theorem dX7_bitPlace_18 : decode cX7_bitPlace 18 = .ok (.iload_n 2, 1) := by decide +kernel
theorem dX7_bitPlace_19 : decode cX7_bitPlace 19 = .ok (.iload_n 1, 1) := by decide +kernel
theorem dX7_bitPlace_20 : decode cX7_bitPlace 20 = .ok (.if_icmp .ne 5, 3) := by decide +kernel
theorem dX7_bitPlace_23 : decode cX7_bitPlace 23 = .ok (.iload_n 3, 1) := by decide +kernel
theorem dX7_bitPlace_24 : decode cX7_bitPlace 24 = .ok (.ireturn, 1) := by decide +kernel
theorem dX7_bitPlace_25 : decode cX7_bitPlace 25 = .ok (.iinc 2 1, 3) := by decide +kernel
theorem dX7_bitPlace_28 : decode cX7_bitPlace 28 = .ok (.iinc 3 1, 3) := by decide +kernel
theorem dX7_bitPlace_31 : decode cX7_bitPlace 31 = .ok (.goto (-27), 3) := by decide +kernel
theorem dX7_bitPlace_34 : decode cX7_bitPlace 34 = .ok (.iconst (-1), 1) := by decide +kernel
theorem dX7_bitPlace_35 : decode cX7_bitPlace 35 = .ok (.ireturn, 1) := by decide +kernel
theorem dX7_seenWages_0 : decode cX7_seenWages 0 = .ok (.iconst 0, 1) := by decide +kernel
theorem dX7_seenWages_1 : decode cX7_seenWages 1 = .ok (.istore_n 2, 1) := by decide +kernel
theorem dX7_seenWages_2 : decode cX7_seenWages 2 = .ok (.aload_n 0, 1) := by decide +kernel
theorem dX7_seenWages_3 : decode cX7_seenWages 3 = .ok (.getfield 23, 3) := by decide +kernel
theorem dX7_seenWages_6 : decode cX7_seenWages 6 = .ok (.aload_n 0, 1) := by decide +kernel
theorem dX7_seenWages_7 : decode cX7_seenWages 7 = .ok (.getfield 19, 3) := by decide +kernel
theorem dX7_seenWages_10 : decode cX7_seenWages 10 = .ok (.invokevirtual 363, 3) := by decide +kernel
theorem dX7_seenWages_13 : decode cX7_seenWages 13 = .ok (.iconst 0, 1) := by decide +kernel
theorem dX7_seenWages_14 : decode cX7_seenWages 14 = .ok (.istore_n 3, 1) := by decide +kernel
theorem dX7_seenWages_15 : decode cX7_seenWages 15 = .ok (.iload_n 3, 1) := by decide +kernel
theorem dX7_seenWages_16 : decode cX7_seenWages 16 = .ok (.bipush 10, 2) := by decide +kernel
theorem dX7_seenWages_18 : decode cX7_seenWages 18 = .ok (.if_icmp .ge 98, 3) := by decide +kernel
theorem dX7_seenWages_21 : decode cX7_seenWages 21 = .ok (.aload_n 0, 1) := by decide +kernel
theorem dX7_seenWages_22 : decode cX7_seenWages 22 = .ok (.getfield 23, 3) := by decide +kernel
theorem dX7_seenWages_25 : decode cX7_seenWages 25 = .ok (.getfield 112, 3) := by decide +kernel
theorem dX7_seenWages_28 : decode cX7_seenWages 28 = .ok (.iload_n 1, 1) := by decide +kernel
theorem dX7_seenWages_29 : decode cX7_seenWages 29 = .ok (.iload_n 3, 1) := by decide +kernel
theorem dX7_seenWages_30 : decode cX7_seenWages 30 = .ok (.iastore, 1) := by decide +kernel
theorem dX7_seenWages_31 : decode cX7_seenWages 31 = .ok (.aload_n 0, 1) := by decide +kernel
theorem dX7_seenWages_32 : decode cX7_seenWages 32 = .ok (.getfield 47, 3) := by decide +kernel
theorem dX7_seenWages_35 : decode cX7_seenWages 35 = .ok (.aload_n 0, 1) := by decide +kernel
theorem dX7_seenWages_36 : decode cX7_seenWages 36 = .ok (.getfield 23, 3) := by decide +kernel
theorem dX7_seenWages_39 : decode cX7_seenWages 39 = .ok (.aload_n 0, 1) := by decide +kernel
theorem dX7_seenWages_40 : decode cX7_seenWages 40 = .ok (.getfield 29, 3) := by decide +kernel
theorem dX7_seenWages_43 : decode cX7_seenWages 43 = .ok (.sipush 255, 3) := by decide +kernel
theorem dX7_seenWages_46 : decode cX7_seenWages 46 = .ok (.aload_n 0, 1) := by decide +kernel
theorem dX7_seenWages_47 : decode cX7_seenWages 47 = .ok (.getfield 70, 3) := by decide +kernel
theorem dX7_seenWages_50 : decode cX7_seenWages 50 = .ok (.invokevirtual 225, 3) := by decide +kernel
theorem dX7_seenWages_53 : decode cX7_seenWages 53 = .ok (.aload_n 0, 1) := by decide +kernel
theorem dX7_seenWages_54 : decode cX7_seenWages 54 = .ok (.getfield 36, 3) := by decide +kernel
theorem dX7_seenWages_57 : decode cX7_seenWages 57 = .ok (.aload_n 0, 1) := by decide +kernel
theorem dX7_seenWages_58 : decode cX7_seenWages 58 = .ok (.getfield 47, 3) := by decide +kernel
theorem dX7_seenWages_61 : decode cX7_seenWages 61 = .ok (.invokevirtual 229, 3) := by decide +kernel
theorem dX7_seenWages_64 : decode cX7_seenWages 64 = .ok (.ifCond .eq 9, 3) := by decide +kernel
theorem dX7_seenWages_67 : decode cX7_seenWages 67 = .ok (.iload_n 2, 1) := by decide +kernel
theorem dX7_seenWages_68 : decode cX7_seenWages 68 = .ok (.iconst 1, 1) := by decide +kernel
theorem dX7_seenWages_69 : decode cX7_seenWages 69 = .ok (.iload_n 3, 1) := by decide +kernel
theorem dX7_seenWages_70 : decode cX7_seenWages 70 = .ok (.ishl, 1) := by decide +kernel
theorem dX7_seenWages_71 : decode cX7_seenWages 71 = .ok (.ior, 1) := by decide +kernel
theorem dX7_seenWages_72 : decode cX7_seenWages 72 = .ok (.istore_n 2, 1) := by decide +kernel
theorem dX7_seenWages_73 : decode cX7_seenWages 73 = .ok (.iconst 0, 1) := by decide +kernel
theorem dX7_seenWages_74 : decode cX7_seenWages 74 = .ok (.istore 4, 2) := by decide +kernel
theorem dX7_seenWages_76 : decode cX7_seenWages 76 = .ok (.iload 4, 2) := by decide +kernel
theorem dX7_seenWages_78 : decode cX7_seenWages 78 = .ok (.bipush 24, 2) := by decide +kernel
theorem dX7_seenWages_80 : decode cX7_seenWages 80 = .ok (.if_icmp .ge 30, 3) := by decide +kernel
theorem dX7_seenWages_83 : decode cX7_seenWages 83 = .ok (.aload_n 0, 1) := by decide +kernel
theorem dX7_seenWages_84 : decode cX7_seenWages 84 = .ok (.getfield 67, 3) := by decide +kernel
theorem dX7_seenWages_87 : decode cX7_seenWages 87 = .ok (.iload_n 3, 1) := by decide +kernel
theorem dX7_seenWages_88 : decode cX7_seenWages 88 = .ok (.bipush 24, 2) := by decide +kernel
theorem dX7_seenWages_90 : decode cX7_seenWages 90 = .ok (.imul, 1) := by decide +kernel
theorem dX7_seenWages_91 : decode cX7_seenWages 91 = .ok (.iload 4, 2) := by decide +kernel
theorem dX7_seenWages_93 : decode cX7_seenWages 93 = .ok (.iadd, 1) := by decide +kernel
theorem dX7_seenWages_94 : decode cX7_seenWages 94 = .ok (.aload_n 0, 1) := by decide +kernel
theorem dX7_seenWages_95 : decode cX7_seenWages 95 = .ok (.getfield 47, 3) := by decide +kernel
theorem dX7_seenWages_98 : decode cX7_seenWages 98 = .ok (.iload 4, 2) := by decide +kernel
theorem dX7_seenWages_100 : decode cX7_seenWages 100 = .ok (.invokevirtual 379, 3) := by decide +kernel
theorem dX7_seenWages_103 : decode cX7_seenWages 103 = .ok (.iastore, 1) := by decide +kernel
theorem dX7_seenWages_104 : decode cX7_seenWages 104 = .ok (.iinc 4 1, 3) := by decide +kernel
theorem dX7_seenWages_107 : decode cX7_seenWages 107 = .ok (.goto (-31), 3) := by decide +kernel
theorem dX7_seenWages_110 : decode cX7_seenWages 110 = .ok (.iinc 3 1, 3) := by decide +kernel
theorem dX7_seenWages_113 : decode cX7_seenWages 113 = .ok (.goto (-98), 3) := by decide +kernel
theorem dX7_seenWages_116 : decode cX7_seenWages 116 = .ok (.iload_n 2, 1) := by decide +kernel
theorem dX7_seenWages_117 : decode cX7_seenWages 117 = .ok (.ireturn, 1) := by decide +kernel
theorem dX7_seenSorts_0 : decode cX7_seenSorts 0 = .ok (.iconst 0, 1) := by decide +kernel
theorem dX7_seenSorts_1 : decode cX7_seenSorts 1 = .ok (.istore_n 2, 1) := by decide +kernel
theorem dX7_seenSorts_2 : decode cX7_seenSorts 2 = .ok (.aload_n 0, 1) := by decide +kernel
theorem dX7_seenSorts_3 : decode cX7_seenSorts 3 = .ok (.getfield 23, 3) := by decide +kernel
theorem dX7_seenSorts_6 : decode cX7_seenSorts 6 = .ok (.aload_n 0, 1) := by decide +kernel
theorem dX7_seenSorts_7 : decode cX7_seenSorts 7 = .ok (.getfield 19, 3) := by decide +kernel
theorem dX7_seenSorts_10 : decode cX7_seenSorts 10 = .ok (.invokevirtual 363, 3) := by decide +kernel
theorem dX7_seenSorts_13 : decode cX7_seenSorts 13 = .ok (.iconst 0, 1) := by decide +kernel
theorem dX7_seenSorts_14 : decode cX7_seenSorts 14 = .ok (.istore_n 3, 1) := by decide +kernel
theorem dX7_seenSorts_15 : decode cX7_seenSorts 15 = .ok (.iload_n 3, 1) := by decide +kernel
theorem dX7_seenSorts_16 : decode cX7_seenSorts 16 = .ok (.iconst 4, 1) := by decide +kernel
theorem dX7_seenSorts_17 : decode cX7_seenSorts 17 = .ok (.if_icmp .ge 61, 3) := by decide +kernel
theorem dX7_seenSorts_20 : decode cX7_seenSorts 20 = .ok (.aload_n 0, 1) := by decide +kernel
theorem dX7_seenSorts_21 : decode cX7_seenSorts 21 = .ok (.getfield 23, 3) := by decide +kernel
theorem dX7_seenSorts_24 : decode cX7_seenSorts 24 = .ok (.getfield 106, 3) := by decide +kernel
theorem dX7_seenSorts_27 : decode cX7_seenSorts 27 = .ok (.iload_n 1, 1) := by decide +kernel
theorem dX7_seenSorts_28 : decode cX7_seenSorts 28 = .ok (.iload_n 3, 1) := by decide +kernel
theorem dX7_seenSorts_29 : decode cX7_seenSorts 29 = .ok (.iastore, 1) := by decide +kernel
theorem dX7_seenSorts_30 : decode cX7_seenSorts 30 = .ok (.aload_n 0, 1) := by decide +kernel
theorem dX7_seenSorts_31 : decode cX7_seenSorts 31 = .ok (.getfield 47, 3) := by decide +kernel
theorem dX7_seenSorts_34 : decode cX7_seenSorts 34 = .ok (.aload_n 0, 1) := by decide +kernel
theorem dX7_seenSorts_35 : decode cX7_seenSorts 35 = .ok (.getfield 23, 3) := by decide +kernel
theorem dX7_seenSorts_38 : decode cX7_seenSorts 38 = .ok (.aload_n 0, 1) := by decide +kernel
theorem dX7_seenSorts_39 : decode cX7_seenSorts 39 = .ok (.getfield 29, 3) := by decide +kernel
theorem dX7_seenSorts_42 : decode cX7_seenSorts 42 = .ok (.sipush 255, 3) := by decide +kernel
theorem dX7_seenSorts_45 : decode cX7_seenSorts 45 = .ok (.aload_n 0, 1) := by decide +kernel
theorem dX7_seenSorts_46 : decode cX7_seenSorts 46 = .ok (.getfield 70, 3) := by decide +kernel
theorem dX7_seenSorts_49 : decode cX7_seenSorts 49 = .ok (.invokevirtual 225, 3) := by decide +kernel
theorem dX7_seenSorts_52 : decode cX7_seenSorts 52 = .ok (.aload_n 0, 1) := by decide +kernel
theorem dX7_seenSorts_53 : decode cX7_seenSorts 53 = .ok (.getfield 36, 3) := by decide +kernel
theorem dX7_seenSorts_56 : decode cX7_seenSorts 56 = .ok (.aload_n 0, 1) := by decide +kernel
theorem dX7_seenSorts_57 : decode cX7_seenSorts 57 = .ok (.getfield 47, 3) := by decide +kernel
theorem dX7_seenSorts_60 : decode cX7_seenSorts 60 = .ok (.invokevirtual 229, 3) := by decide +kernel
theorem dX7_seenSorts_63 : decode cX7_seenSorts 63 = .ok (.ifCond .eq 9, 3) := by decide +kernel
theorem dX7_seenSorts_66 : decode cX7_seenSorts 66 = .ok (.iload_n 2, 1) := by decide +kernel
theorem dX7_seenSorts_67 : decode cX7_seenSorts 67 = .ok (.iconst 1, 1) := by decide +kernel
theorem dX7_seenSorts_68 : decode cX7_seenSorts 68 = .ok (.iload_n 3, 1) := by decide +kernel
theorem dX7_seenSorts_69 : decode cX7_seenSorts 69 = .ok (.ishl, 1) := by decide +kernel
theorem dX7_seenSorts_70 : decode cX7_seenSorts 70 = .ok (.ior, 1) := by decide +kernel
theorem dX7_seenSorts_71 : decode cX7_seenSorts 71 = .ok (.istore_n 2, 1) := by decide +kernel
theorem dX7_seenSorts_72 : decode cX7_seenSorts 72 = .ok (.iinc 3 1, 3) := by decide +kernel
theorem dX7_seenSorts_75 : decode cX7_seenSorts 75 = .ok (.goto (-60), 3) := by decide +kernel
theorem dX7_seenSorts_78 : decode cX7_seenSorts 78 = .ok (.iload_n 2, 1) := by decide +kernel
theorem dX7_seenSorts_79 : decode cX7_seenSorts 79 = .ok (.ireturn, 1) := by decide +kernel
theorem dX7_greatestAlike_0 : decode cX7_greatestAlike 0 = .ok (.iconst 0, 1) := by decide +kernel
theorem dX7_greatestAlike_1 : decode cX7_greatestAlike 1 = .ok (.istore_n 3, 1) := by decide +kernel
theorem dX7_greatestAlike_2 : decode cX7_greatestAlike 2 = .ok (.iconst 0, 1) := by decide +kernel
theorem dX7_greatestAlike_3 : decode cX7_greatestAlike 3 = .ok (.istore 4, 2) := by decide +kernel
theorem dX7_greatestAlike_5 : decode cX7_greatestAlike 5 = .ok (.iload 4, 2) := by decide +kernel
theorem dX7_greatestAlike_7 : decode cX7_greatestAlike 7 = .ok (.bipush 10, 2) := by decide +kernel
theorem dX7_greatestAlike_9 : decode cX7_greatestAlike 9 = .ok (.if_icmp .ge 83, 3) := by decide +kernel
theorem dX7_greatestAlike_12 : decode cX7_greatestAlike 12 = .ok (.iconst 0, 1) := by decide +kernel
theorem dX7_greatestAlike_13 : decode cX7_greatestAlike 13 = .ok (.istore 5, 2) := by decide +kernel
theorem dX7_greatestAlike_15 : decode cX7_greatestAlike 15 = .ok (.iconst 0, 1) := by decide +kernel
theorem dX7_greatestAlike_16 : decode cX7_greatestAlike 16 = .ok (.istore 6, 2) := by decide +kernel
theorem dX7_greatestAlike_18 : decode cX7_greatestAlike 18 = .ok (.iload 6, 2) := by decide +kernel
theorem dX7_greatestAlike_20 : decode cX7_greatestAlike 20 = .ok (.bipush 10, 2) := by decide +kernel
theorem dX7_greatestAlike_22 : decode cX7_greatestAlike 22 = .ok (.if_icmp .ge 48, 3) := by decide +kernel
theorem dX7_greatestAlike_25 : decode cX7_greatestAlike 25 = .ok (.iload_n 1, 1) := by decide +kernel
theorem dX7_greatestAlike_26 : decode cX7_greatestAlike 26 = .ok (.iload 6, 2) := by decide +kernel
theorem dX7_greatestAlike_28 : decode cX7_greatestAlike 28 = .ok (.ishr, 1) := by decide +kernel
theorem dX7_greatestAlike_29 : decode cX7_greatestAlike 29 = .ok (.iconst 1, 1) := by decide +kernel
theorem dX7_greatestAlike_30 : decode cX7_greatestAlike 30 = .ok (.iand, 1) := by decide +kernel
theorem dX7_greatestAlike_31 : decode cX7_greatestAlike 31 = .ok (.ifCond .eq 33, 3) := by decide +kernel
theorem dX7_greatestAlike_34 : decode cX7_greatestAlike 34 = .ok (.aload_n 0, 1) := by decide +kernel
theorem dX7_greatestAlike_35 : decode cX7_greatestAlike 35 = .ok (.getfield 67, 3) := by decide +kernel
theorem dX7_greatestAlike_38 : decode cX7_greatestAlike 38 = .ok (.iload 6, 2) := by decide +kernel
theorem dX7_greatestAlike_40 : decode cX7_greatestAlike 40 = .ok (.bipush 24, 2) := by decide +kernel
theorem dX7_greatestAlike_42 : decode cX7_greatestAlike 42 = .ok (.imul, 1) := by decide +kernel
theorem dX7_greatestAlike_43 : decode cX7_greatestAlike 43 = .ok (.iload_n 2, 1) := by decide +kernel
theorem dX7_greatestAlike_44 : decode cX7_greatestAlike 44 = .ok (.iadd, 1) := by decide +kernel
theorem dX7_greatestAlike_45 : decode cX7_greatestAlike 45 = .ok (.iaload, 1) := by decide +kernel
theorem dX7_greatestAlike_46 : decode cX7_greatestAlike 46 = .ok (.aload_n 0, 1) := by decide +kernel
theorem dX7_greatestAlike_47 : decode cX7_greatestAlike 47 = .ok (.getfield 67, 3) := by decide +kernel
theorem dX7_greatestAlike_50 : decode cX7_greatestAlike 50 = .ok (.iload 4, 2) := by decide +kernel
theorem dX7_greatestAlike_52 : decode cX7_greatestAlike 52 = .ok (.bipush 24, 2) := by decide +kernel
theorem dX7_greatestAlike_54 : decode cX7_greatestAlike 54 = .ok (.imul, 1) := by decide +kernel
theorem dX7_greatestAlike_55 : decode cX7_greatestAlike 55 = .ok (.iload_n 2, 1) := by decide +kernel
theorem dX7_greatestAlike_56 : decode cX7_greatestAlike 56 = .ok (.iadd, 1) := by decide +kernel
theorem dX7_greatestAlike_57 : decode cX7_greatestAlike 57 = .ok (.iaload, 1) := by decide +kernel
theorem dX7_greatestAlike_58 : decode cX7_greatestAlike 58 = .ok (.if_icmp .ne 6, 3) := by decide +kernel
theorem dX7_greatestAlike_61 : decode cX7_greatestAlike 61 = .ok (.iinc 5 1, 3) := by decide +kernel
theorem dX7_greatestAlike_64 : decode cX7_greatestAlike 64 = .ok (.iinc 6 1, 3) := by decide +kernel
theorem dX7_greatestAlike_67 : decode cX7_greatestAlike 67 = .ok (.goto (-49), 3) := by decide +kernel
theorem dX7_greatestAlike_70 : decode cX7_greatestAlike 70 = .ok (.iload_n 1, 1) := by decide +kernel
theorem dX7_greatestAlike_71 : decode cX7_greatestAlike 71 = .ok (.iload 4, 2) := by decide +kernel
theorem dX7_greatestAlike_73 : decode cX7_greatestAlike 73 = .ok (.ishr, 1) := by decide +kernel
theorem dX7_greatestAlike_74 : decode cX7_greatestAlike 74 = .ok (.iconst 1, 1) := by decide +kernel
theorem dX7_greatestAlike_75 : decode cX7_greatestAlike 75 = .ok (.iand, 1) := by decide +kernel
theorem dX7_greatestAlike_76 : decode cX7_greatestAlike 76 = .ok (.ifCond .eq 10, 3) := by decide +kernel
theorem dX7_greatestAlike_79 : decode cX7_greatestAlike 79 = .ok (.iload_n 3, 1) := by decide +kernel
theorem dX7_greatestAlike_80 : decode cX7_greatestAlike 80 = .ok (.iload 5, 2) := by decide +kernel
theorem dX7_greatestAlike_82 : decode cX7_greatestAlike 82 = .ok (.invokestatic 382, 3) := by decide +kernel
theorem dX7_greatestAlike_85 : decode cX7_greatestAlike 85 = .ok (.istore_n 3, 1) := by decide +kernel
theorem dX7_greatestAlike_86 : decode cX7_greatestAlike 86 = .ok (.iinc 4 1, 3) := by decide +kernel
theorem dX7_greatestAlike_89 : decode cX7_greatestAlike 89 = .ok (.goto (-84), 3) := by decide +kernel
theorem dX7_greatestAlike_92 : decode cX7_greatestAlike 92 = .ok (.iload_n 3, 1) := by decide +kernel
theorem dX7_greatestAlike_93 : decode cX7_greatestAlike 93 = .ok (.ireturn, 1) := by decide +kernel
theorem dX7_weight_0 : decode cX7_weight 0 = .ok (.lconst 1, 1) := by decide +kernel
theorem dX7_weight_1 : decode cX7_weight 1 = .ok (.lstore_n 3, 1) := by decide +kernel
theorem dX7_weight_2 : decode cX7_weight 2 = .ok (.iconst 0, 1) := by decide +kernel
theorem dX7_weight_3 : decode cX7_weight 3 = .ok (.istore 5, 2) := by decide +kernel
theorem dX7_weight_5 : decode cX7_weight 5 = .ok (.iload 5, 2) := by decide +kernel
theorem dX7_weight_7 : decode cX7_weight 7 = .ok (.aload_n 0, 1) := by decide +kernel
theorem dX7_weight_8 : decode cX7_weight 8 = .ok (.getfield 29, 3) := by decide +kernel
theorem dX7_weight_11 : decode cX7_weight 11 = .ok (.getfield 121, 3) := by decide +kernel
theorem dX7_weight_14 : decode cX7_weight 14 = .ok (.if_icmp .ge 31, 3) := by decide +kernel
theorem dX7_weight_17 : decode cX7_weight 17 = .ok (.lload_n 3, 1) := by decide +kernel
theorem dX7_weight_18 : decode cX7_weight 18 = .ok (.iload_n 2, 1) := by decide +kernel
theorem dX7_weight_19 : decode cX7_weight 19 = .ok (.iload 5, 2) := by decide +kernel
theorem dX7_weight_21 : decode cX7_weight 21 = .ok (.ishr, 1) := by decide +kernel
theorem dX7_weight_22 : decode cX7_weight 22 = .ok (.iconst 1, 1) := by decide +kernel
theorem dX7_weight_23 : decode cX7_weight 23 = .ok (.iand, 1) := by decide +kernel
theorem dX7_weight_24 : decode cX7_weight 24 = .ok (.ifCond .eq 8, 3) := by decide +kernel
theorem dX7_weight_27 : decode cX7_weight 27 = .ok (.iload_n 1, 1) := by decide +kernel
theorem dX7_weight_28 : decode cX7_weight 28 = .ok (.i2l, 1) := by decide +kernel
theorem dX7_weight_29 : decode cX7_weight 29 = .ok (.goto 8, 3) := by decide +kernel
theorem dX7_weight_32 : decode cX7_weight 32 = .ok (.bipush 16, 2) := by decide +kernel
theorem dX7_weight_34 : decode cX7_weight 34 = .ok (.iload_n 1, 1) := by decide +kernel
theorem dX7_weight_35 : decode cX7_weight 35 = .ok (.isub, 1) := by decide +kernel
theorem dX7_weight_36 : decode cX7_weight 36 = .ok (.i2l, 1) := by decide +kernel
theorem dX7_weight_37 : decode cX7_weight 37 = .ok (.lmul, 1) := by decide +kernel
theorem dX7_weight_38 : decode cX7_weight 38 = .ok (.lstore_n 3, 1) := by decide +kernel
theorem dX7_weight_39 : decode cX7_weight 39 = .ok (.iinc 5 1, 3) := by decide +kernel
theorem dX7_weight_42 : decode cX7_weight 42 = .ok (.goto (-37), 3) := by decide +kernel
theorem dX7_weight_45 : decode cX7_weight 45 = .ok (.lload_n 3, 1) := by decide +kernel
theorem dX7_weight_46 : decode cX7_weight 46 = .ok (.lreturn, 1) := by decide +kernel
theorem dX7_commonDivisor_0 : decode cX7_commonDivisor 0 = .ok (.lload_n 0, 1) := by decide +kernel
theorem dX7_commonDivisor_1 : decode cX7_commonDivisor 1 = .ok (.lstore 4, 2) := by decide +kernel
theorem dX7_commonDivisor_3 : decode cX7_commonDivisor 3 = .ok (.lload_n 2, 1) := by decide +kernel
theorem dX7_commonDivisor_4 : decode cX7_commonDivisor 4 = .ok (.lstore 6, 2) := by decide +kernel
theorem dX7_commonDivisor_6 : decode cX7_commonDivisor 6 = .ok (.iconst 0, 1) := by decide +kernel
theorem dX7_commonDivisor_7 : decode cX7_commonDivisor 7 = .ok (.istore 8, 2) := by decide +kernel
theorem dX7_commonDivisor_9 : decode cX7_commonDivisor 9 = .ok (.iload 8, 2) := by decide +kernel
theorem dX7_commonDivisor_11 : decode cX7_commonDivisor 11 = .ok (.sipush 200, 3) := by decide +kernel
theorem dX7_commonDivisor_14 : decode cX7_commonDivisor 14 = .ok (.if_icmp .ge 31, 3) := by decide +kernel
theorem dX7_commonDivisor_17 : decode cX7_commonDivisor 17 = .ok (.lload 6, 2) := by decide +kernel
theorem dX7_commonDivisor_19 : decode cX7_commonDivisor 19 = .ok (.lconst 0, 1) := by decide +kernel
theorem dX7_commonDivisor_20 : decode cX7_commonDivisor 20 = .ok (.lcmp, 1) := by decide +kernel
theorem dX7_commonDivisor_21 : decode cX7_commonDivisor 21 = .ok (.ifCond .le 24, 3) := by decide +kernel
theorem dX7_commonDivisor_24 : decode cX7_commonDivisor 24 = .ok (.lload 4, 2) := by decide +kernel
theorem dX7_commonDivisor_26 : decode cX7_commonDivisor 26 = .ok (.lload 6, 2) := by decide +kernel
theorem dX7_commonDivisor_28 : decode cX7_commonDivisor 28 = .ok (.lrem, 1) := by decide +kernel
theorem dX7_commonDivisor_29 : decode cX7_commonDivisor 29 = .ok (.lstore 9, 2) := by decide +kernel
theorem dX7_commonDivisor_31 : decode cX7_commonDivisor 31 = .ok (.lload 6, 2) := by decide +kernel
theorem dX7_commonDivisor_33 : decode cX7_commonDivisor 33 = .ok (.lstore 4, 2) := by decide +kernel
theorem dX7_commonDivisor_35 : decode cX7_commonDivisor 35 = .ok (.lload 9, 2) := by decide +kernel
theorem dX7_commonDivisor_37 : decode cX7_commonDivisor 37 = .ok (.lstore 6, 2) := by decide +kernel
theorem dX7_commonDivisor_39 : decode cX7_commonDivisor 39 = .ok (.iinc 8 1, 3) := by decide +kernel
theorem dX7_commonDivisor_42 : decode cX7_commonDivisor 42 = .ok (.goto (-33), 3) := by decide +kernel
theorem dX7_commonDivisor_45 : decode cX7_commonDivisor 45 = .ok (.lconst 1, 1) := by decide +kernel
theorem dX7_commonDivisor_46 : decode cX7_commonDivisor 46 = .ok (.lload 4, 2) := by decide +kernel
theorem dX7_commonDivisor_48 : decode cX7_commonDivisor 48 = .ok (.invokestatic 385, 3) := by decide +kernel
theorem dX7_commonDivisor_51 : decode cX7_commonDivisor 51 = .ok (.lreturn, 1) := by decide +kernel
theorem dX8_init_0 : decode cX8_init 0 = .ok (.aload_n 0, 1) := by decide +kernel
theorem dX8_init_1 : decode cX8_init 1 = .ok (.invokespecial 1, 3) := by decide +kernel
theorem dX8_init_4 : decode cX8_init 4 = .ok (.aload_n 0, 1) := by decide +kernel
theorem dX8_init_5 : decode cX8_init 5 = .ok (.iconst 4, 1) := by decide +kernel
theorem dX8_init_6 : decode cX8_init 6 = .ok (.newarray .int, 2) := by decide +kernel
theorem dX8_init_8 : decode cX8_init 8 = .ok (.putfield 7, 3) := by decide +kernel
theorem dX8_init_11 : decode cX8_init 11 = .ok (.aload_n 0, 1) := by decide +kernel
theorem dX8_init_12 : decode cX8_init 12 = .ok (.iconst 4, 1) := by decide +kernel
theorem dX8_init_13 : decode cX8_init 13 = .ok (.newarray .int, 2) := by decide +kernel
theorem dX8_init_15 : decode cX8_init 15 = .ok (.putfield 13, 3) := by decide +kernel
theorem dX8_init_18 : decode cX8_init 18 = .ok (.aload_n 0, 1) := by decide +kernel
theorem dX8_init_19 : decode cX8_init 19 = .ok (.sipush 240, 3) := by decide +kernel
theorem dX8_init_22 : decode cX8_init 22 = .ok (.newarray .int, 2) := by decide +kernel
theorem dX8_init_24 : decode cX8_init 24 = .ok (.putfield 16, 3) := by decide +kernel
theorem dX8_init_27 : decode cX8_init 27 = .ok (.aload_n 0, 1) := by decide +kernel
theorem dX8_init_28 : decode cX8_init 28 = .ok (.bipush 60, 2) := by decide +kernel
theorem dX8_init_30 : decode cX8_init 30 = .ok (.newarray .int, 2) := by decide +kernel
theorem dX8_init_32 : decode cX8_init 32 = .ok (.putfield 19, 3) := by decide +kernel
theorem dX8_init_35 : decode cX8_init 35 = .ok (.aload_n 0, 1) := by decide +kernel
theorem dX8_init_36 : decode cX8_init 36 = .ok (.bipush 31, 2) := by decide +kernel
theorem dX8_init_38 : decode cX8_init 38 = .ok (.newarray .int, 2) := by decide +kernel
theorem dX8_init_40 : decode cX8_init 40 = .ok (.putfield 22, 3) := by decide +kernel
theorem dX8_init_43 : decode cX8_init 43 = .ok (.aload_n 0, 1) := by decide +kernel
theorem dX8_init_44 : decode cX8_init 44 = .ok (.bipush 24, 2) := by decide +kernel
theorem dX8_init_46 : decode cX8_init 46 = .ok (.newarray .int, 2) := by decide +kernel
theorem dX8_init_48 : decode cX8_init 48 = .ok (.putfield 25, 3) := by decide +kernel
theorem dX8_init_51 : decode cX8_init 51 = .ok (.aload_n 0, 1) := by decide +kernel
theorem dX8_init_52 : decode cX8_init 52 = .ok (.bipush 24, 2) := by decide +kernel
theorem dX8_init_54 : decode cX8_init 54 = .ok (.newarray .int, 2) := by decide +kernel
theorem dX8_init_56 : decode cX8_init 56 = .ok (.putfield 28, 3) := by decide +kernel
theorem dX8_init_59 : decode cX8_init 59 = .ok (.aload_n 0, 1) := by decide +kernel
theorem dX8_init_60 : decode cX8_init 60 = .ok (.bipush 8, 2) := by decide +kernel
theorem dX8_init_62 : decode cX8_init 62 = .ok (.newarray .int, 2) := by decide +kernel
theorem dX8_init_64 : decode cX8_init 64 = .ok (.putfield 31, 3) := by decide +kernel
theorem dX8_init_67 : decode cX8_init 67 = .ok (.aload_n 0, 1) := by decide +kernel
theorem dX8_init_68 : decode cX8_init 68 = .ok (.bipush 8, 2) := by decide +kernel
theorem dX8_init_70 : decode cX8_init 70 = .ok (.newarray .int, 2) := by decide +kernel
theorem dX8_init_72 : decode cX8_init 72 = .ok (.putfield 34, 3) := by decide +kernel
theorem dX8_init_75 : decode cX8_init 75 = .ok (.aload_n 0, 1) := by decide +kernel
theorem dX8_init_76 : decode cX8_init 76 = .ok (.bipush 8, 2) := by decide +kernel
theorem dX8_init_78 : decode cX8_init 78 = .ok (.newarray .int, 2) := by decide +kernel
theorem dX8_init_80 : decode cX8_init 80 = .ok (.putfield 37, 3) := by decide +kernel
theorem dX8_init_83 : decode cX8_init 83 = .ok (.aload_n 0, 1) := by decide +kernel
theorem dX8_init_84 : decode cX8_init 84 = .ok (.bipush 8, 2) := by decide +kernel
theorem dX8_init_86 : decode cX8_init 86 = .ok (.newarray .int, 2) := by decide +kernel
theorem dX8_init_88 : decode cX8_init 88 = .ok (.putfield 40, 3) := by decide +kernel
theorem dX8_init_91 : decode cX8_init 91 = .ok (.aload_n 0, 1) := by decide +kernel
theorem dX8_init_92 : decode cX8_init 92 = .ok (.bipush 8, 2) := by decide +kernel
theorem dX8_init_94 : decode cX8_init 94 = .ok (.newarray .int, 2) := by decide +kernel
theorem dX8_init_96 : decode cX8_init 96 = .ok (.putfield 43, 3) := by decide +kernel
theorem dX8_init_99 : decode cX8_init 99 = .ok (.aload_n 0, 1) := by decide +kernel
theorem dX8_init_100 : decode cX8_init 100 = .ok (.bipush 8, 2) := by decide +kernel
theorem dX8_init_102 : decode cX8_init 102 = .ok (.newarray .int, 2) := by decide +kernel
theorem dX8_init_104 : decode cX8_init 104 = .ok (.putfield 46, 3) := by decide +kernel
theorem dX8_init_107 : decode cX8_init 107 = .ok (.aload_n 0, 1) := by decide +kernel
theorem dX8_init_108 : decode cX8_init 108 = .ok (.bipush 8, 2) := by decide +kernel
theorem dX8_init_110 : decode cX8_init 110 = .ok (.newarray .int, 2) := by decide +kernel
theorem dX8_init_112 : decode cX8_init 112 = .ok (.putfield 49, 3) := by decide +kernel
theorem dX8_init_115 : decode cX8_init 115 = .ok (.aload_n 0, 1) := by decide +kernel
theorem dX8_init_116 : decode cX8_init 116 = .ok (.bipush 13, 2) := by decide +kernel
theorem dX8_init_118 : decode cX8_init 118 = .ok (.newarray .int, 2) := by decide +kernel
theorem dX8_init_120 : decode cX8_init 120 = .ok (.putfield 52, 3) := by decide +kernel
theorem dX8_init_123 : decode cX8_init 123 = .ok (.aload_n 0, 1) := by decide +kernel
theorem dX8_init_124 : decode cX8_init 124 = .ok (.sipush 192, 3) := by decide +kernel
theorem dX8_init_127 : decode cX8_init 127 = .ok (.newarray .int, 2) := by decide +kernel
theorem dX8_init_129 : decode cX8_init 129 = .ok (.putfield 55, 3) := by decide +kernel
theorem dX8_init_132 : decode cX8_init 132 = .ok (.aload_n 0, 1) := by decide +kernel
theorem dX8_init_133 : decode cX8_init 133 = .ok (.sipush 192, 3) := by decide +kernel
theorem dX8_init_136 : decode cX8_init 136 = .ok (.newarray .int, 2) := by decide +kernel
theorem dX8_init_138 : decode cX8_init 138 = .ok (.putfield 58, 3) := by decide +kernel
theorem dX8_init_141 : decode cX8_init 141 = .ok (.aload_n 0, 1) := by decide +kernel
theorem dX8_init_142 : decode cX8_init 142 = .ok (.sipush 192, 3) := by decide +kernel
theorem dX8_init_145 : decode cX8_init 145 = .ok (.newarray .int, 2) := by decide +kernel
theorem dX8_init_147 : decode cX8_init 147 = .ok (.putfield 61, 3) := by decide +kernel
theorem dX8_init_150 : decode cX8_init 150 = .ok (.aload_n 0, 1) := by decide +kernel
theorem dX8_init_151 : decode cX8_init 151 = .ok (.bipush 24, 2) := by decide +kernel
theorem dX8_init_153 : decode cX8_init 153 = .ok (.newarray .int, 2) := by decide +kernel
theorem dX8_init_155 : decode cX8_init 155 = .ok (.putfield 64, 3) := by decide +kernel
theorem dX8_init_158 : decode cX8_init 158 = .ok (.aload_n 0, 1) := by decide +kernel
theorem dX8_init_159 : decode cX8_init 159 = .ok (.sipush 240, 3) := by decide +kernel
theorem dX8_init_162 : decode cX8_init 162 = .ok (.newarray .long, 2) := by decide +kernel
theorem dX8_init_164 : decode cX8_init 164 = .ok (.putfield 67, 3) := by decide +kernel
theorem dX8_init_167 : decode cX8_init 167 = .ok (.iconst 0, 1) := by decide +kernel
theorem dX8_init_168 : decode cX8_init 168 = .ok (.istore_n 1, 1) := by decide +kernel
theorem dX8_init_169 : decode cX8_init 169 = .ok (.iload_n 1, 1) := by decide +kernel
theorem dX8_init_170 : decode cX8_init 170 = .ok (.iconst 4, 1) := by decide +kernel
theorem dX8_init_171 : decode cX8_init 171 = .ok (.if_icmp .ge 16, 3) := by decide +kernel
theorem dX8_init_174 : decode cX8_init 174 = .ok (.aload_n 0, 1) := by decide +kernel
theorem dX8_init_175 : decode cX8_init 175 = .ok (.getfield 7, 3) := by decide +kernel
theorem dX8_init_178 : decode cX8_init 178 = .ok (.iload_n 1, 1) := by decide +kernel
theorem dX8_init_179 : decode cX8_init 179 = .ok (.iconst (-1), 1) := by decide +kernel
theorem dX8_init_180 : decode cX8_init 180 = .ok (.iastore, 1) := by decide +kernel
theorem dX8_init_181 : decode cX8_init 181 = .ok (.iinc 1 1, 3) := by decide +kernel
theorem dX8_init_184 : decode cX8_init 184 = .ok (.goto (-15), 3) := by decide +kernel
theorem dX8_init_187 : decode cX8_init 187 = .ok (.aload_n 0, 1) := by decide +kernel
theorem dX8_init_188 : decode cX8_init 188 = .ok (.iconst 2, 1) := by decide +kernel
theorem dX8_init_189 : decode cX8_init 189 = .ok (.putfield 71, 3) := by decide +kernel
theorem dX8_init_192 : decode cX8_init 192 = .ok (.return_, 1) := by decide +kernel
theorem dX8_in_0 : decode cX8_in 0 = .ok (.lload_n 0, 1) := by decide +kernel
theorem dX8_in_1 : decode cX8_in 1 = .ok (.lload_n 2, 1) := by decide +kernel
theorem dX8_in_2 : decode cX8_in 2 = .ok (.lcmp, 1) := by decide +kernel
theorem dX8_in_3 : decode cX8_in 3 = .ok (.ifCond .lt 14, 3) := by decide +kernel
theorem dX8_in_6 : decode cX8_in 6 = .ok (.lload_n 0, 1) := by decide +kernel
theorem dX8_in_7 : decode cX8_in 7 = .ok (.lload 4, 2) := by decide +kernel
theorem dX8_in_9 : decode cX8_in 9 = .ok (.lcmp, 1) := by decide +kernel
theorem dX8_in_10 : decode cX8_in 10 = .ok (.ifCond .gt 7, 3) := by decide +kernel
theorem dX8_in_13 : decode cX8_in 13 = .ok (.iconst 1, 1) := by decide +kernel
theorem dX8_in_14 : decode cX8_in 14 = .ok (.goto 4, 3) := by decide +kernel
theorem dX8_in_17 : decode cX8_in 17 = .ok (.iconst 0, 1) := by decide +kernel
theorem dX8_in_18 : decode cX8_in 18 = .ok (.ireturn, 1) := by decide +kernel
theorem dX8_no_0 : decode cX8_no 0 = .ok (.ldc2_w 75, 3) := by decide +kernel
theorem dX8_no_3 : decode cX8_no 3 = .ok (.iload_n 0, 1) := by decide +kernel
theorem dX8_no_4 : decode cX8_no 4 = .ok (.i2l, 1) := by decide +kernel
theorem dX8_no_5 : decode cX8_no 5 = .ok (.lsub, 1) := by decide +kernel
theorem dX8_no_6 : decode cX8_no 6 = .ok (.lreturn, 1) := by decide +kernel
theorem dX8_isTwo_0 : decode cX8_isTwo 0 = .ok (.iload_n 0, 1) := by decide +kernel
theorem dX8_isTwo_1 : decode cX8_isTwo 1 = .ok (.i2l, 1) := by decide +kernel
theorem dX8_isTwo_2 : decode cX8_isTwo 2 = .ok (.lconst 0, 1) := by decide +kernel
theorem dX8_isTwo_3 : decode cX8_isTwo 3 = .ok (.lconst 1, 1) := by decide +kernel
theorem dX8_isTwo_4 : decode cX8_isTwo 4 = .ok (.invokestatic 77, 3) := by decide +kernel
theorem dX8_isTwo_7 : decode cX8_isTwo 7 = .ok (.ireturn, 1) := by decide +kernel
theorem dX8_isIn_0 : decode cX8_isIn 0 = .ok (.iload_n 0, 1) := by decide +kernel
theorem dX8_isIn_1 : decode cX8_isIn 1 = .ok (.iload_n 1, 1) := by decide +kernel
theorem dX8_isIn_2 : decode cX8_isIn 2 = .ok (.ishr, 1) := by decide +kernel
theorem dX8_isIn_3 : decode cX8_isIn 3 = .ok (.iconst 1, 1) := by decide +kernel
theorem dX8_isIn_4 : decode cX8_isIn 4 = .ok (.iand, 1) := by decide +kernel
theorem dX8_isIn_5 : decode cX8_isIn 5 = .ok (.iconst 1, 1) := by decide +kernel
theorem dX8_isIn_6 : decode cX8_isIn 6 = .ok (.if_icmp .ne 7, 3) := by decide +kernel
theorem dX8_isIn_9 : decode cX8_isIn 9 = .ok (.iconst 1, 1) := by decide +kernel
theorem dX8_isIn_10 : decode cX8_isIn 10 = .ok (.goto 4, 3) := by decide +kernel
theorem dX8_isIn_13 : decode cX8_isIn 13 = .ok (.iconst 0, 1) := by decide +kernel
theorem dX8_isIn_14 : decode cX8_isIn 14 = .ok (.ireturn, 1) := by decide +kernel
theorem dX8_lesser_0 : decode cX8_lesser 0 = .ok (.iload_n 0, 1) := by decide +kernel
theorem dX8_lesser_1 : decode cX8_lesser 1 = .ok (.iload_n 1, 1) := by decide +kernel
theorem dX8_lesser_2 : decode cX8_lesser 2 = .ok (.if_icmp .ge 7, 3) := by decide +kernel
theorem dX8_lesser_5 : decode cX8_lesser 5 = .ok (.iload_n 0, 1) := by decide +kernel
theorem dX8_lesser_6 : decode cX8_lesser 6 = .ok (.goto 4, 3) := by decide +kernel
theorem dX8_lesser_9 : decode cX8_lesser 9 = .ok (.iload_n 1, 1) := by decide +kernel
theorem dX8_lesser_10 : decode cX8_lesser 10 = .ok (.ireturn, 1) := by decide +kernel
theorem dX8_greater_0 : decode cX8_greater 0 = .ok (.iload_n 0, 1) := by decide +kernel
theorem dX8_greater_1 : decode cX8_greater 1 = .ok (.iload_n 1, 1) := by decide +kernel
theorem dX8_greater_2 : decode cX8_greater 2 = .ok (.if_icmp .le 7, 3) := by decide +kernel
theorem dX8_greater_5 : decode cX8_greater 5 = .ok (.iload_n 0, 1) := by decide +kernel
theorem dX8_greater_6 : decode cX8_greater 6 = .ok (.goto 4, 3) := by decide +kernel
theorem dX8_greater_9 : decode cX8_greater 9 = .ok (.iload_n 1, 1) := by decide +kernel
theorem dX8_greater_10 : decode cX8_greater 10 = .ok (.ireturn, 1) := by decide +kernel
theorem dX8_part_0 : decode cX8_part 0 = .ok (.lload_n 0, 1) := by decide +kernel
theorem dX8_part_1 : decode cX8_part 1 = .ok (.lstore 5, 2) := by decide +kernel
theorem dX8_part_3 : decode cX8_part 3 = .ok (.lload_n 2, 1) := by decide +kernel
theorem dX8_part_4 : decode cX8_part 4 = .ok (.lstore 7, 2) := by decide +kernel
theorem dX8_part_6 : decode cX8_part 6 = .ok (.lload 7, 2) := by decide +kernel
theorem dX8_part_8 : decode cX8_part 8 = .ok (.lconst 0, 1) := by decide +kernel
theorem dX8_part_9 : decode cX8_part 9 = .ok (.lcmp, 1) := by decide +kernel
theorem dX8_part_10 : decode cX8_part 10 = .ok (.ifCond .eq 21, 3) := by decide +kernel
theorem dX8_part_13 : decode cX8_part 13 = .ok (.lload 5, 2) := by decide +kernel
theorem dX8_part_15 : decode cX8_part 15 = .ok (.lload 7, 2) := by decide +kernel
theorem dX8_part_17 : decode cX8_part 17 = .ok (.lrem, 1) := by decide +kernel
theorem dX8_part_18 : decode cX8_part 18 = .ok (.lstore 9, 2) := by decide +kernel
theorem dX8_part_20 : decode cX8_part 20 = .ok (.lload 7, 2) := by decide +kernel
theorem dX8_part_22 : decode cX8_part 22 = .ok (.lstore 5, 2) := by decide +kernel
theorem dX8_part_24 : decode cX8_part 24 = .ok (.lload 9, 2) := by decide +kernel
theorem dX8_part_26 : decode cX8_part 26 = .ok (.lstore 7, 2) := by decide +kernel
theorem dX8_part_28 : decode cX8_part 28 = .ok (.goto (-22), 3) := by decide +kernel
theorem dX8_part_31 : decode cX8_part 31 = .ok (.iload 4, 2) := by decide +kernel
theorem dX8_part_33 : decode cX8_part 33 = .ok (.ifCond .ne 7, 3) := by decide +kernel
theorem dX8_part_36 : decode cX8_part 36 = .ok (.lload_n 0, 1) := by decide +kernel
theorem dX8_part_37 : decode cX8_part 37 = .ok (.goto 4, 3) := by decide +kernel
theorem dX8_part_40 : decode cX8_part 40 = .ok (.lload_n 2, 1) := by decide +kernel
theorem dX8_part_41 : decode cX8_part 41 = .ok (.lload 5, 2) := by decide +kernel
theorem dX8_part_43 : decode cX8_part 43 = .ok (.ldiv, 1) := by decide +kernel
theorem dX8_part_44 : decode cX8_part 44 = .ok (.lreturn, 1) := by decide +kernel
theorem dX8_finds_0 : decode cX8_finds 0 = .ok (.aload_n 0, 1) := by decide +kernel
theorem dX8_finds_1 : decode cX8_finds 1 = .ok (.iload_n 1, 1) := by decide +kernel
theorem dX8_finds_2 : decode cX8_finds 2 = .ok (.putfield 81, 3) := by decide +kernel
theorem dX8_finds_5 : decode cX8_finds 5 = .ok (.bipush (-10), 2) := by decide +kernel
theorem dX8_finds_7 : decode cX8_finds 7 = .ok (.iload_n 1, 1) := by decide +kernel
theorem dX8_finds_8 : decode cX8_finds 8 = .ok (.isub, 1) := by decide +kernel
theorem dX8_finds_9 : decode cX8_finds 9 = .ok (.ireturn, 1) := by decide +kernel
theorem dX8_isSheet_0 : decode cX8_isSheet 0 = .ok (.iload_n 0, 1) := by decide +kernel
theorem dX8_isSheet_1 : decode cX8_isSheet 1 = .ok (.i2l, 1) := by decide +kernel
theorem dX8_isSheet_2 : decode cX8_isSheet 2 = .ok (.lconst 0, 1) := by decide +kernel
theorem dX8_isSheet_3 : decode cX8_isSheet 3 = .ok (.ldc2_w 84, 3) := by decide +kernel
theorem dX8_isSheet_6 : decode cX8_isSheet 6 = .ok (.invokestatic 77, 3) := by decide +kernel
theorem dX8_isSheet_9 : decode cX8_isSheet 9 = .ok (.ireturn, 1) := by decide +kernel
theorem dX8_sheet_0 : decode cX8_sheet 0 = .ok (.iload_n 1, 1) := by decide +kernel
theorem dX8_sheet_1 : decode cX8_sheet 1 = .ok (.invokestatic 86, 3) := by decide +kernel
theorem dX8_sheet_4 : decode cX8_sheet 4 = .ok (.ifCond .eq 21, 3) := by decide +kernel
theorem dX8_sheet_7 : decode cX8_sheet 7 = .ok (.iload_n 2, 1) := by decide +kernel
theorem dX8_sheet_8 : decode cX8_sheet 8 = .ok (.i2l, 1) := by decide +kernel
theorem dX8_sheet_9 : decode cX8_sheet 9 = .ok (.lconst 0, 1) := by decide +kernel
theorem dX8_sheet_10 : decode cX8_sheet 10 = .ok (.ldc2_w 90, 3) := by decide +kernel
theorem dX8_sheet_13 : decode cX8_sheet 13 = .ok (.invokestatic 77, 3) := by decide +kernel
theorem dX8_sheet_16 : decode cX8_sheet 16 = .ok (.ifCond .eq 9, 3) := by decide +kernel
theorem dX8_sheet_19 : decode cX8_sheet 19 = .ok (.iload_n 3, 1) := by decide +kernel
theorem dX8_sheet_20 : decode cX8_sheet 20 = .ok (.bipush 60, 2) := by decide +kernel
theorem dX8_sheet_22 : decode cX8_sheet 22 = .ok (.if_icmp .le 6, 3) := by decide +kernel
theorem dX8_sheet_25 : decode cX8_sheet 25 = .ok (.bipush (-2), 2) := by decide +kernel
theorem dX8_sheet_27 : decode cX8_sheet 27 = .ok (.ireturn, 1) := by decide +kernel
theorem dX8_sheet_28 : decode cX8_sheet 28 = .ok (.iload_n 3, 1) := by decide +kernel
theorem dX8_sheet_29 : decode cX8_sheet 29 = .ok (.ifCond .ge 9, 3) := by decide +kernel
theorem dX8_sheet_32 : decode cX8_sheet 32 = .ok (.aload_n 0, 1) := by decide +kernel
theorem dX8_sheet_33 : decode cX8_sheet 33 = .ok (.iconst 5, 1) := by decide +kernel
theorem dX8_sheet_34 : decode cX8_sheet 34 = .ok (.invokevirtual 92, 3) := by decide +kernel
theorem dX8_sheet_37 : decode cX8_sheet 37 = .ok (.ireturn, 1) := by decide +kernel
theorem dX8_sheet_38 : decode cX8_sheet 38 = .ok (.aload_n 0, 1) := by decide +kernel
theorem dX8_sheet_39 : decode cX8_sheet 39 = .ok (.getfield 7, 3) := by decide +kernel
theorem dX8_sheet_42 : decode cX8_sheet 42 = .ok (.iload_n 1, 1) := by decide +kernel
theorem dX8_sheet_43 : decode cX8_sheet 43 = .ok (.iload_n 2, 1) := by decide +kernel
theorem dX8_sheet_44 : decode cX8_sheet 44 = .ok (.iastore, 1) := by decide +kernel
theorem dX8_sheet_45 : decode cX8_sheet 45 = .ok (.aload_n 0, 1) := by decide +kernel
theorem dX8_sheet_46 : decode cX8_sheet 46 = .ok (.getfield 13, 3) := by decide +kernel
theorem dX8_sheet_49 : decode cX8_sheet 49 = .ok (.iload_n 1, 1) := by decide +kernel
theorem dX8_sheet_50 : decode cX8_sheet 50 = .ok (.iload_n 3, 1) := by decide +kernel
theorem dX8_sheet_51 : decode cX8_sheet 51 = .ok (.iastore, 1) := by decide +kernel
theorem dX8_sheet_52 : decode cX8_sheet 52 = .ok (.iconst 0, 1) := by decide +kernel
theorem dX8_sheet_53 : decode cX8_sheet 53 = .ok (.istore 4, 2) := by decide +kernel
theorem dX8_sheet_55 : decode cX8_sheet 55 = .ok (.iload 4, 2) := by decide +kernel
theorem dX8_sheet_57 : decode cX8_sheet 57 = .ok (.iload_n 3, 1) := by decide +kernel
theorem dX8_sheet_58 : decode cX8_sheet 58 = .ok (.if_icmp .ge 22, 3) := by decide +kernel
theorem dX8_sheet_61 : decode cX8_sheet 61 = .ok (.aload_n 0, 1) := by decide +kernel
theorem dX8_sheet_62 : decode cX8_sheet 62 = .ok (.getfield 16, 3) := by decide +kernel
theorem dX8_sheet_65 : decode cX8_sheet 65 = .ok (.bipush 60, 2) := by decide +kernel
theorem dX8_sheet_67 : decode cX8_sheet 67 = .ok (.iload_n 1, 1) := by decide +kernel
theorem dX8_sheet_68 : decode cX8_sheet 68 = .ok (.imul, 1) := by decide +kernel
theorem dX8_sheet_69 : decode cX8_sheet 69 = .ok (.iload 4, 2) := by decide +kernel
theorem dX8_sheet_71 : decode cX8_sheet 71 = .ok (.iadd, 1) := by decide +kernel
theorem dX8_sheet_72 : decode cX8_sheet 72 = .ok (.iconst 0, 1) := by decide +kernel
theorem dX8_sheet_73 : decode cX8_sheet 73 = .ok (.iastore, 1) := by decide +kernel
theorem dX8_sheet_74 : decode cX8_sheet 74 = .ok (.iinc 4 1, 3) := by decide +kernel
theorem dX8_sheet_77 : decode cX8_sheet 77 = .ok (.goto (-22), 3) := by decide +kernel
theorem dX8_sheet_80 : decode cX8_sheet 80 = .ok (.iload_n 3, 1) := by decide +kernel
theorem dX8_sheet_81 : decode cX8_sheet 81 = .ok (.ireturn, 1) := by decide +kernel
theorem dX8_lose_0 : decode cX8_lose 0 = .ok (.iload_n 1, 1) := by decide +kernel
theorem dX8_lose_1 : decode cX8_lose 1 = .ok (.invokestatic 86, 3) := by decide +kernel
theorem dX8_lose_4 : decode cX8_lose 4 = .ok (.ifCond .ne 6, 3) := by decide +kernel
theorem dX8_lose_7 : decode cX8_lose 7 = .ok (.bipush (-2), 2) := by decide +kernel
theorem dX8_lose_9 : decode cX8_lose 9 = .ok (.ireturn, 1) := by decide +kernel
theorem dX8_lose_10 : decode cX8_lose 10 = .ok (.aload_n 0, 1) := by decide +kernel
theorem dX8_lose_11 : decode cX8_lose 11 = .ok (.getfield 7, 3) := by decide +kernel
theorem dX8_lose_14 : decode cX8_lose 14 = .ok (.iload_n 1, 1) := by decide +kernel
theorem dX8_lose_15 : decode cX8_lose 15 = .ok (.iaload, 1) := by decide +kernel
theorem dX8_lose_16 : decode cX8_lose 16 = .ok (.ifCond .ge 9, 3) := by decide +kernel
theorem dX8_lose_19 : decode cX8_lose 19 = .ok (.aload_n 0, 1) := by decide +kernel
theorem dX8_lose_20 : decode cX8_lose 20 = .ok (.iconst 1, 1) := by decide +kernel
theorem dX8_lose_21 : decode cX8_lose 21 = .ok (.invokevirtual 92, 3) := by decide +kernel
theorem dX8_lose_24 : decode cX8_lose 24 = .ok (.ireturn, 1) := by decide +kernel
theorem dX8_lose_25 : decode cX8_lose 25 = .ok (.aload_n 0, 1) := by decide +kernel
theorem dX8_lose_26 : decode cX8_lose 26 = .ok (.getfield 7, 3) := by decide +kernel
theorem dX8_lose_29 : decode cX8_lose 29 = .ok (.iload_n 1, 1) := by decide +kernel
theorem dX8_lose_30 : decode cX8_lose 30 = .ok (.iconst (-1), 1) := by decide +kernel
theorem dX8_lose_31 : decode cX8_lose 31 = .ok (.iastore, 1) := by decide +kernel
theorem dX8_lose_32 : decode cX8_lose 32 = .ok (.aload_n 0, 1) := by decide +kernel
theorem dX8_lose_33 : decode cX8_lose 33 = .ok (.getfield 13, 3) := by decide +kernel
theorem dX8_lose_36 : decode cX8_lose 36 = .ok (.iload_n 1, 1) := by decide +kernel
theorem dX8_lose_37 : decode cX8_lose 37 = .ok (.iaload, 1) := by decide +kernel
theorem dX8_lose_38 : decode cX8_lose 38 = .ok (.ireturn, 1) := by decide +kernel
theorem dX8_lacks_0 : decode cX8_lacks 0 = .ok (.aload_n 0, 1) := by decide +kernel
theorem dX8_lacks_1 : decode cX8_lacks 1 = .ok (.getfield 7, 3) := by decide +kernel
theorem dX8_lacks_4 : decode cX8_lacks 4 = .ok (.iload_n 1, 1) := by decide +kernel
theorem dX8_lacks_5 : decode cX8_lacks 5 = .ok (.iaload, 1) := by decide +kernel
theorem dX8_lacks_6 : decode cX8_lacks 6 = .ok (.ifCond .ge 9, 3) := by decide +kernel
theorem dX8_lacks_9 : decode cX8_lacks 9 = .ok (.aload_n 0, 1) := by decide +kernel
theorem dX8_lacks_10 : decode cX8_lacks 10 = .ok (.iconst 1, 1) := by decide +kernel
theorem dX8_lacks_11 : decode cX8_lacks 11 = .ok (.invokevirtual 92, 3) := by decide +kernel
theorem dX8_lacks_14 : decode cX8_lacks 14 = .ok (.ireturn, 1) := by decide +kernel
theorem dX8_lacks_15 : decode cX8_lacks 15 = .ok (.aload_n 0, 1) := by decide +kernel
theorem dX8_lacks_16 : decode cX8_lacks 16 = .ok (.getfield 7, 3) := by decide +kernel
theorem dX8_lacks_19 : decode cX8_lacks 19 = .ok (.iload_n 1, 1) := by decide +kernel
theorem dX8_lacks_20 : decode cX8_lacks 20 = .ok (.iaload, 1) := by decide +kernel
theorem dX8_lacks_21 : decode cX8_lacks 21 = .ok (.iload_n 2, 1) := by decide +kernel
theorem dX8_lacks_22 : decode cX8_lacks 22 = .ok (.if_icmp .eq 9, 3) := by decide +kernel
theorem dX8_lacks_25 : decode cX8_lacks 25 = .ok (.aload_n 0, 1) := by decide +kernel
theorem dX8_lacks_26 : decode cX8_lacks 26 = .ok (.iconst 3, 1) := by decide +kernel
theorem dX8_lacks_27 : decode cX8_lacks 27 = .ok (.invokevirtual 92, 3) := by decide +kernel
theorem dX8_lacks_30 : decode cX8_lacks 30 = .ok (.ireturn, 1) := by decide +kernel
theorem dX8_lacks_31 : decode cX8_lacks 31 = .ok (.iload_n 3, 1) := by decide +kernel
theorem dX8_lacks_32 : decode cX8_lacks 32 = .ok (.i2l, 1) := by decide +kernel
theorem dX8_lacks_33 : decode cX8_lacks 33 = .ok (.lconst 0, 1) := by decide +kernel
theorem dX8_lacks_34 : decode cX8_lacks 34 = .ok (.aload_n 0, 1) := by decide +kernel
theorem dX8_lacks_35 : decode cX8_lacks 35 = .ok (.getfield 13, 3) := by decide +kernel
theorem dX8_lacks_38 : decode cX8_lacks 38 = .ok (.iload_n 1, 1) := by decide +kernel
theorem dX8_lacks_39 : decode cX8_lacks 39 = .ok (.iaload, 1) := by decide +kernel
theorem dX8_lacks_40 : decode cX8_lacks 40 = .ok (.iconst 1, 1) := by decide +kernel
theorem dX8_lacks_41 : decode cX8_lacks 41 = .ok (.isub, 1) := by decide +kernel
theorem dX8_lacks_42 : decode cX8_lacks 42 = .ok (.i2l, 1) := by decide +kernel
theorem dX8_lacks_43 : decode cX8_lacks 43 = .ok (.invokestatic 77, 3) := by decide +kernel
theorem dX8_lacks_46 : decode cX8_lacks 46 = .ok (.ifCond .eq 7, 3) := by decide +kernel
theorem dX8_lacks_49 : decode cX8_lacks 49 = .ok (.iconst 0, 1) := by decide +kernel
theorem dX8_lacks_50 : decode cX8_lacks 50 = .ok (.goto 8, 3) := by decide +kernel
theorem dX8_lacks_53 : decode cX8_lacks 53 = .ok (.aload_n 0, 1) := by decide +kernel
theorem dX8_lacks_54 : decode cX8_lacks 54 = .ok (.iconst 2, 1) := by decide +kernel
theorem dX8_lacks_55 : decode cX8_lacks 55 = .ok (.invokevirtual 92, 3) := by decide +kernel
theorem dX8_lacks_58 : decode cX8_lacks 58 = .ok (.ireturn, 1) := by decide +kernel
theorem dX8_cut_0 : decode cX8_cut 0 = .ok (.iload_n 0, 1) := by decide +kernel
theorem dX8_cut_1 : decode cX8_cut 1 = .ok (.ifCond .ne 8, 3) := by decide +kernel
theorem dX8_cut_4 : decode cX8_cut 4 = .ok (.iload_n 1, 1) := by decide +kernel
theorem dX8_cut_5 : decode cX8_cut 5 = .ok (.i2b, 1) := by decide +kernel
theorem dX8_cut_6 : decode cX8_cut 6 = .ok (.goto 14, 3) := by decide +kernel
theorem dX8_cut_9 : decode cX8_cut 9 = .ok (.iload_n 0, 1) := by decide +kernel
theorem dX8_cut_10 : decode cX8_cut 10 = .ok (.iconst 1, 1) := by decide +kernel
theorem dX8_cut_11 : decode cX8_cut 11 = .ok (.if_icmp .ne 8, 3) := by decide +kernel
theorem dX8_cut_14 : decode cX8_cut 14 = .ok (.iload_n 1, 1) := by decide +kernel
theorem dX8_cut_15 : decode cX8_cut 15 = .ok (.i2s, 1) := by decide +kernel
theorem dX8_cut_16 : decode cX8_cut 16 = .ok (.goto 4, 3) := by decide +kernel
theorem dX8_cut_19 : decode cX8_cut 19 = .ok (.iload_n 1, 1) := by decide +kernel
theorem dX8_cut_20 : decode cX8_cut 20 = .ok (.ireturn, 1) := by decide +kernel
theorem dX8_lay_0 : decode cX8_lay 0 = .ok (.iload_n 1, 1) := by decide +kernel
theorem dX8_lay_1 : decode cX8_lay 1 = .ok (.invokestatic 86, 3) := by decide +kernel
theorem dX8_lay_4 : decode cX8_lay 4 = .ok (.ifCond .eq 15, 3) := by decide +kernel
theorem dX8_lay_7 : decode cX8_lay 7 = .ok (.iload_n 2, 1) := by decide +kernel
theorem dX8_lay_8 : decode cX8_lay 8 = .ok (.i2l, 1) := by decide +kernel
theorem dX8_lay_9 : decode cX8_lay 9 = .ok (.lconst 0, 1) := by decide +kernel
theorem dX8_lay_10 : decode cX8_lay 10 = .ok (.ldc2_w 90, 3) := by decide +kernel
theorem dX8_lay_13 : decode cX8_lay 13 = .ok (.invokestatic 77, 3) := by decide +kernel
theorem dX8_lay_16 : decode cX8_lay 16 = .ok (.ifCond .ne 6, 3) := by decide +kernel
theorem dX8_lay_19 : decode cX8_lay 19 = .ok (.bipush (-2), 2) := by decide +kernel
theorem dX8_lay_21 : decode cX8_lay 21 = .ok (.ireturn, 1) := by decide +kernel
theorem dX8_lay_22 : decode cX8_lay 22 = .ok (.aload_n 0, 1) := by decide +kernel
theorem dX8_lay_23 : decode cX8_lay 23 = .ok (.iload_n 1, 1) := by decide +kernel
theorem dX8_lay_24 : decode cX8_lay 24 = .ok (.iload_n 2, 1) := by decide +kernel
theorem dX8_lay_25 : decode cX8_lay 25 = .ok (.iload_n 3, 1) := by decide +kernel
theorem dX8_lay_26 : decode cX8_lay 26 = .ok (.invokevirtual 96, 3) := by decide +kernel
theorem dX8_lay_29 : decode cX8_lay 29 = .ok (.istore 5, 2) := by decide +kernel
theorem dX8_lay_31 : decode cX8_lay 31 = .ok (.iload 5, 2) := by decide +kernel
theorem dX8_lay_33 : decode cX8_lay 33 = .ok (.ifCond .eq 6, 3) := by decide +kernel
theorem dX8_lay_36 : decode cX8_lay 36 = .ok (.iload 5, 2) := by decide +kernel
theorem dX8_lay_38 : decode cX8_lay 38 = .ok (.ireturn, 1) := by decide +kernel
theorem dX8_lay_39 : decode cX8_lay 39 = .ok (.aload_n 0, 1) := by decide +kernel
theorem dX8_lay_40 : decode cX8_lay 40 = .ok (.getfield 16, 3) := by decide +kernel
theorem dX8_lay_43 : decode cX8_lay 43 = .ok (.bipush 60, 2) := by decide +kernel
theorem dX8_lay_45 : decode cX8_lay 45 = .ok (.iload_n 1, 1) := by decide +kernel
theorem dX8_lay_46 : decode cX8_lay 46 = .ok (.imul, 1) := by decide +kernel
theorem dX8_lay_47 : decode cX8_lay 47 = .ok (.iload_n 3, 1) := by decide +kernel
theorem dX8_lay_48 : decode cX8_lay 48 = .ok (.iadd, 1) := by decide +kernel
theorem dX8_lay_49 : decode cX8_lay 49 = .ok (.iload_n 2, 1) := by decide +kernel
theorem dX8_lay_50 : decode cX8_lay 50 = .ok (.iload 4, 2) := by decide +kernel
theorem dX8_lay_52 : decode cX8_lay 52 = .ok (.invokestatic 100, 3) := by decide +kernel
theorem dX8_lay_55 : decode cX8_lay 55 = .ok (.iastore, 1) := by decide +kernel
theorem dX8_lay_56 : decode cX8_lay 56 = .ok (.iconst 1, 1) := by decide +kernel
theorem dX8_lay_57 : decode cX8_lay 57 = .ok (.ireturn, 1) := by decide +kernel
theorem dX8_get_0 : decode cX8_get 0 = .ok (.iload_n 1, 1) := by decide +kernel
theorem dX8_get_1 : decode cX8_get 1 = .ok (.invokestatic 86, 3) := by decide +kernel
theorem dX8_get_4 : decode cX8_get 4 = .ok (.ifCond .eq 25, 3) := by decide +kernel
theorem dX8_get_7 : decode cX8_get 7 = .ok (.iload_n 2, 1) := by decide +kernel
theorem dX8_get_8 : decode cX8_get 8 = .ok (.i2l, 1) := by decide +kernel
theorem dX8_get_9 : decode cX8_get 9 = .ok (.lconst 0, 1) := by decide +kernel
theorem dX8_get_10 : decode cX8_get 10 = .ok (.ldc2_w 90, 3) := by decide +kernel
theorem dX8_get_13 : decode cX8_get 13 = .ok (.invokestatic 77, 3) := by decide +kernel
theorem dX8_get_16 : decode cX8_get 16 = .ok (.ifCond .eq 13, 3) := by decide +kernel
theorem dX8_get_19 : decode cX8_get 19 = .ok (.aload_n 0, 1) := by decide +kernel
theorem dX8_get_20 : decode cX8_get 20 = .ok (.iload_n 1, 1) := by decide +kernel
theorem dX8_get_21 : decode cX8_get 21 = .ok (.iload_n 2, 1) := by decide +kernel
theorem dX8_get_22 : decode cX8_get 22 = .ok (.iload_n 3, 1) := by decide +kernel
theorem dX8_get_23 : decode cX8_get 23 = .ok (.invokevirtual 96, 3) := by decide +kernel
theorem dX8_get_26 : decode cX8_get 26 = .ok (.ifCond .eq 6, 3) := by decide +kernel
theorem dX8_get_29 : decode cX8_get 29 = .ok (.ldc 104, 2) := by decide +kernel
theorem dX8_get_31 : decode cX8_get 31 = .ok (.ireturn, 1) := by decide +kernel
theorem dX8_get_32 : decode cX8_get 32 = .ok (.aload_n 0, 1) := by decide +kernel
theorem dX8_get_33 : decode cX8_get 33 = .ok (.getfield 16, 3) := by decide +kernel
theorem dX8_get_36 : decode cX8_get 36 = .ok (.bipush 60, 2) := by decide +kernel
theorem dX8_get_38 : decode cX8_get 38 = .ok (.iload_n 1, 1) := by decide +kernel
theorem dX8_get_39 : decode cX8_get 39 = .ok (.imul, 1) := by decide +kernel
theorem dX8_get_40 : decode cX8_get 40 = .ok (.iload_n 3, 1) := by decide +kernel
theorem dX8_get_41 : decode cX8_get 41 = .ok (.iadd, 1) := by decide +kernel
theorem dX8_get_42 : decode cX8_get 42 = .ok (.iaload, 1) := by decide +kernel
theorem dX8_get_43 : decode cX8_get 43 = .ok (.ireturn, 1) := by decide +kernel
theorem dX8_copy_0 : decode cX8_copy 0 = .ok (.iload_n 1, 1) := by decide +kernel
theorem dX8_copy_1 : decode cX8_copy 1 = .ok (.invokestatic 86, 3) := by decide +kernel
theorem dX8_copy_4 : decode cX8_copy 4 = .ok (.ifCond .eq 10, 3) := by decide +kernel
theorem dX8_copy_7 : decode cX8_copy 7 = .ok (.iload_n 3, 1) := by decide +kernel
theorem dX8_copy_8 : decode cX8_copy 8 = .ok (.invokestatic 86, 3) := by decide +kernel
theorem dX8_copy_11 : decode cX8_copy 11 = .ok (.ifCond .ne 6, 3) := by decide +kernel
theorem dX8_copy_14 : decode cX8_copy 14 = .ok (.bipush (-2), 2) := by decide +kernel
theorem dX8_copy_16 : decode cX8_copy 16 = .ok (.ireturn, 1) := by decide +kernel
theorem dX8_copy_17 : decode cX8_copy 17 = .ok (.aload_n 0, 1) := by decide +kernel
theorem dX8_copy_18 : decode cX8_copy 18 = .ok (.getfield 7, 3) := by decide +kernel
theorem dX8_copy_21 : decode cX8_copy 21 = .ok (.iload_n 1, 1) := by decide +kernel
theorem dX8_copy_22 : decode cX8_copy 22 = .ok (.iaload, 1) := by decide +kernel
theorem dX8_copy_23 : decode cX8_copy 23 = .ok (.ifCond .lt 12, 3) := by decide +kernel
theorem dX8_copy_26 : decode cX8_copy 26 = .ok (.aload_n 0, 1) := by decide +kernel
theorem dX8_copy_27 : decode cX8_copy 27 = .ok (.getfield 7, 3) := by decide +kernel
theorem dX8_copy_30 : decode cX8_copy 30 = .ok (.iload_n 3, 1) := by decide +kernel
theorem dX8_copy_31 : decode cX8_copy 31 = .ok (.iaload, 1) := by decide +kernel
theorem dX8_copy_32 : decode cX8_copy 32 = .ok (.ifCond .ge 9, 3) := by decide +kernel
theorem dX8_copy_35 : decode cX8_copy 35 = .ok (.aload_n 0, 1) := by decide +kernel
theorem dX8_copy_36 : decode cX8_copy 36 = .ok (.iconst 1, 1) := by decide +kernel
theorem dX8_copy_37 : decode cX8_copy 37 = .ok (.invokevirtual 92, 3) := by decide +kernel
theorem dX8_copy_40 : decode cX8_copy 40 = .ok (.ireturn, 1) := by decide +kernel
theorem dX8_copy_41 : decode cX8_copy 41 = .ok (.aload_n 0, 1) := by decide +kernel
theorem dX8_copy_42 : decode cX8_copy 42 = .ok (.getfield 7, 3) := by decide +kernel
theorem dX8_copy_45 : decode cX8_copy 45 = .ok (.iload_n 1, 1) := by decide +kernel
theorem dX8_copy_46 : decode cX8_copy 46 = .ok (.iaload, 1) := by decide +kernel
theorem dX8_copy_47 : decode cX8_copy 47 = .ok (.aload_n 0, 1) := by decide +kernel
theorem dX8_copy_48 : decode cX8_copy 48 = .ok (.getfield 7, 3) := by decide +kernel
theorem dX8_copy_51 : decode cX8_copy 51 = .ok (.iload_n 3, 1) := by decide +kernel
theorem dX8_copy_52 : decode cX8_copy 52 = .ok (.iaload, 1) := by decide +kernel
theorem dX8_copy_53 : decode cX8_copy 53 = .ok (.if_icmp .eq 9, 3) := by decide +kernel
theorem dX8_copy_56 : decode cX8_copy 56 = .ok (.aload_n 0, 1) := by decide +kernel
theorem dX8_copy_57 : decode cX8_copy 57 = .ok (.iconst 4, 1) := by decide +kernel
theorem dX8_copy_58 : decode cX8_copy 58 = .ok (.invokevirtual 92, 3) := by decide +kernel
theorem dX8_copy_61 : decode cX8_copy 61 = .ok (.ireturn, 1) := by decide +kernel
