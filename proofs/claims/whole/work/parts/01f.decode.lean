theorem dX8_copy_62 : decode cX8_copy 62 = .ok (.iload_n 2, 1) := by decide +kernel
theorem dX8_copy_63 : decode cX8_copy 63 = .ok (.ifCond .lt 48, 3) := by decide +kernel
theorem dX8_copy_66 : decode cX8_copy 66 = .ok (.iload 4, 2) := by decide +kernel
theorem dX8_copy_68 : decode cX8_copy 68 = .ok (.ifCond .lt 43, 3) := by decide +kernel
theorem dX8_copy_71 : decode cX8_copy 71 = .ok (.iload 5, 2) := by decide +kernel
theorem dX8_copy_73 : decode cX8_copy 73 = .ok (.ifCond .lt 38, 3) := by decide +kernel
theorem dX8_copy_76 : decode cX8_copy 76 = .ok (.iload_n 2, 1) := by decide +kernel
theorem dX8_copy_77 : decode cX8_copy 77 = .ok (.i2l, 1) := by decide +kernel
theorem dX8_copy_78 : decode cX8_copy 78 = .ok (.iload 5, 2) := by decide +kernel
theorem dX8_copy_80 : decode cX8_copy 80 = .ok (.i2l, 1) := by decide +kernel
theorem dX8_copy_81 : decode cX8_copy 81 = .ok (.ladd, 1) := by decide +kernel
theorem dX8_copy_82 : decode cX8_copy 82 = .ok (.aload_n 0, 1) := by decide +kernel
theorem dX8_copy_83 : decode cX8_copy 83 = .ok (.getfield 13, 3) := by decide +kernel
theorem dX8_copy_86 : decode cX8_copy 86 = .ok (.iload_n 1, 1) := by decide +kernel
theorem dX8_copy_87 : decode cX8_copy 87 = .ok (.iaload, 1) := by decide +kernel
theorem dX8_copy_88 : decode cX8_copy 88 = .ok (.i2l, 1) := by decide +kernel
theorem dX8_copy_89 : decode cX8_copy 89 = .ok (.lcmp, 1) := by decide +kernel
theorem dX8_copy_90 : decode cX8_copy 90 = .ok (.ifCond .gt 21, 3) := by decide +kernel
theorem dX8_copy_93 : decode cX8_copy 93 = .ok (.iload 4, 2) := by decide +kernel
theorem dX8_copy_95 : decode cX8_copy 95 = .ok (.i2l, 1) := by decide +kernel
theorem dX8_copy_96 : decode cX8_copy 96 = .ok (.iload 5, 2) := by decide +kernel
theorem dX8_copy_98 : decode cX8_copy 98 = .ok (.i2l, 1) := by decide +kernel
theorem dX8_copy_99 : decode cX8_copy 99 = .ok (.ladd, 1) := by decide +kernel
theorem dX8_copy_100 : decode cX8_copy 100 = .ok (.aload_n 0, 1) := by decide +kernel
theorem dX8_copy_101 : decode cX8_copy 101 = .ok (.getfield 13, 3) := by decide +kernel
theorem dX8_copy_104 : decode cX8_copy 104 = .ok (.iload_n 3, 1) := by decide +kernel
theorem dX8_copy_105 : decode cX8_copy 105 = .ok (.iaload, 1) := by decide +kernel
theorem dX8_copy_106 : decode cX8_copy 106 = .ok (.i2l, 1) := by decide +kernel
theorem dX8_copy_107 : decode cX8_copy 107 = .ok (.lcmp, 1) := by decide +kernel
theorem dX8_copy_108 : decode cX8_copy 108 = .ok (.ifCond .le 9, 3) := by decide +kernel
theorem dX8_copy_111 : decode cX8_copy 111 = .ok (.aload_n 0, 1) := by decide +kernel
theorem dX8_copy_112 : decode cX8_copy 112 = .ok (.iconst 2, 1) := by decide +kernel
theorem dX8_copy_113 : decode cX8_copy 113 = .ok (.invokevirtual 92, 3) := by decide +kernel
theorem dX8_copy_116 : decode cX8_copy 116 = .ok (.ireturn, 1) := by decide +kernel
theorem dX8_copy_117 : decode cX8_copy 117 = .ok (.iconst 0, 1) := by decide +kernel
theorem dX8_copy_118 : decode cX8_copy 118 = .ok (.istore 6, 2) := by decide +kernel
theorem dX8_copy_120 : decode cX8_copy 120 = .ok (.iload 6, 2) := by decide +kernel
theorem dX8_copy_122 : decode cX8_copy 122 = .ok (.iload 5, 2) := by decide +kernel
theorem dX8_copy_124 : decode cX8_copy 124 = .ok (.if_icmp .ge 30, 3) := by decide +kernel
theorem dX8_copy_127 : decode cX8_copy 127 = .ok (.aload_n 0, 1) := by decide +kernel
theorem dX8_copy_128 : decode cX8_copy 128 = .ok (.getfield 19, 3) := by decide +kernel
theorem dX8_copy_131 : decode cX8_copy 131 = .ok (.iload 6, 2) := by decide +kernel
theorem dX8_copy_133 : decode cX8_copy 133 = .ok (.aload_n 0, 1) := by decide +kernel
theorem dX8_copy_134 : decode cX8_copy 134 = .ok (.getfield 16, 3) := by decide +kernel
theorem dX8_copy_137 : decode cX8_copy 137 = .ok (.bipush 60, 2) := by decide +kernel
theorem dX8_copy_139 : decode cX8_copy 139 = .ok (.iload_n 1, 1) := by decide +kernel
theorem dX8_copy_140 : decode cX8_copy 140 = .ok (.imul, 1) := by decide +kernel
theorem dX8_copy_141 : decode cX8_copy 141 = .ok (.iload_n 2, 1) := by decide +kernel
theorem dX8_copy_142 : decode cX8_copy 142 = .ok (.iadd, 1) := by decide +kernel
theorem dX8_copy_143 : decode cX8_copy 143 = .ok (.iload 6, 2) := by decide +kernel
theorem dX8_copy_145 : decode cX8_copy 145 = .ok (.iadd, 1) := by decide +kernel
theorem dX8_copy_146 : decode cX8_copy 146 = .ok (.iaload, 1) := by decide +kernel
theorem dX8_copy_147 : decode cX8_copy 147 = .ok (.iastore, 1) := by decide +kernel
theorem dX8_copy_148 : decode cX8_copy 148 = .ok (.iinc 6 1, 3) := by decide +kernel
theorem dX8_copy_151 : decode cX8_copy 151 = .ok (.goto (-31), 3) := by decide +kernel
theorem dX8_copy_154 : decode cX8_copy 154 = .ok (.iconst 0, 1) := by decide +kernel
theorem dX8_copy_155 : decode cX8_copy 155 = .ok (.istore 6, 2) := by decide +kernel
theorem dX8_copy_157 : decode cX8_copy 157 = .ok (.iload 6, 2) := by decide +kernel
theorem dX8_copy_159 : decode cX8_copy 159 = .ok (.iload 5, 2) := by decide +kernel
theorem dX8_copy_161 : decode cX8_copy 161 = .ok (.if_icmp .ge 31, 3) := by decide +kernel
theorem dX8_copy_164 : decode cX8_copy 164 = .ok (.aload_n 0, 1) := by decide +kernel
theorem dX8_copy_165 : decode cX8_copy 165 = .ok (.getfield 16, 3) := by decide +kernel
theorem dX8_copy_168 : decode cX8_copy 168 = .ok (.bipush 60, 2) := by decide +kernel
theorem dX8_copy_170 : decode cX8_copy 170 = .ok (.iload_n 3, 1) := by decide +kernel
theorem dX8_copy_171 : decode cX8_copy 171 = .ok (.imul, 1) := by decide +kernel
theorem dX8_copy_172 : decode cX8_copy 172 = .ok (.iload 4, 2) := by decide +kernel
theorem dX8_copy_174 : decode cX8_copy 174 = .ok (.iadd, 1) := by decide +kernel
theorem dX8_copy_175 : decode cX8_copy 175 = .ok (.iload 6, 2) := by decide +kernel
theorem dX8_copy_177 : decode cX8_copy 177 = .ok (.iadd, 1) := by decide +kernel
theorem dX8_copy_178 : decode cX8_copy 178 = .ok (.aload_n 0, 1) := by decide +kernel
theorem dX8_copy_179 : decode cX8_copy 179 = .ok (.getfield 19, 3) := by decide +kernel
theorem dX8_copy_182 : decode cX8_copy 182 = .ok (.iload 6, 2) := by decide +kernel
theorem dX8_copy_184 : decode cX8_copy 184 = .ok (.iaload, 1) := by decide +kernel
theorem dX8_copy_185 : decode cX8_copy 185 = .ok (.iastore, 1) := by decide +kernel
theorem dX8_copy_186 : decode cX8_copy 186 = .ok (.iinc 6 1, 3) := by decide +kernel
theorem dX8_copy_189 : decode cX8_copy 189 = .ok (.goto (-32), 3) := by decide +kernel
theorem dX8_copy_192 : decode cX8_copy 192 = .ok (.iconst 1, 1) := by decide +kernel
theorem dX8_copy_193 : decode cX8_copy 193 = .ok (.ireturn, 1) := by decide +kernel
theorem dX8_type_0 : decode cX8_type 0 = .ok (.iload_n 1, 1) := by decide +kernel
theorem dX8_type_1 : decode cX8_type 1 = .ok (.i2l, 1) := by decide +kernel
theorem dX8_type_2 : decode cX8_type 2 = .ok (.lconst 0, 1) := by decide +kernel
theorem dX8_type_3 : decode cX8_type 3 = .ok (.ldc2_w 105, 3) := by decide +kernel
theorem dX8_type_6 : decode cX8_type 6 = .ok (.invokestatic 77, 3) := by decide +kernel
theorem dX8_type_9 : decode cX8_type 9 = .ok (.ifCond .ne 6, 3) := by decide +kernel
theorem dX8_type_12 : decode cX8_type 12 = .ok (.bipush (-2), 2) := by decide +kernel
theorem dX8_type_14 : decode cX8_type 14 = .ok (.ireturn, 1) := by decide +kernel
theorem dX8_type_15 : decode cX8_type 15 = .ok (.aload_n 0, 1) := by decide +kernel
theorem dX8_type_16 : decode cX8_type 16 = .ok (.getfield 107, 3) := by decide +kernel
theorem dX8_type_19 : decode cX8_type 19 = .ok (.bipush 31, 2) := by decide +kernel
theorem dX8_type_21 : decode cX8_type 21 = .ok (.if_icmp .ne 6, 3) := by decide +kernel
theorem dX8_type_24 : decode cX8_type 24 = .ok (.bipush (-4), 2) := by decide +kernel
theorem dX8_type_26 : decode cX8_type 26 = .ok (.ireturn, 1) := by decide +kernel
theorem dX8_type_27 : decode cX8_type 27 = .ok (.aload_n 0, 1) := by decide +kernel
theorem dX8_type_28 : decode cX8_type 28 = .ok (.getfield 22, 3) := by decide +kernel
theorem dX8_type_31 : decode cX8_type 31 = .ok (.aload_n 0, 1) := by decide +kernel
theorem dX8_type_32 : decode cX8_type 32 = .ok (.getfield 107, 3) := by decide +kernel
theorem dX8_type_35 : decode cX8_type 35 = .ok (.iload_n 1, 1) := by decide +kernel
theorem dX8_type_36 : decode cX8_type 36 = .ok (.iastore, 1) := by decide +kernel
theorem dX8_type_37 : decode cX8_type 37 = .ok (.aload_n 0, 1) := by decide +kernel
theorem dX8_type_38 : decode cX8_type 38 = .ok (.dup, 1) := by decide +kernel
theorem dX8_type_39 : decode cX8_type 39 = .ok (.getfield 107, 3) := by decide +kernel
theorem dX8_type_42 : decode cX8_type 42 = .ok (.iconst 1, 1) := by decide +kernel
theorem dX8_type_43 : decode cX8_type 43 = .ok (.iadd, 1) := by decide +kernel
theorem dX8_type_44 : decode cX8_type 44 = .ok (.putfield 107, 3) := by decide +kernel
theorem dX8_type_47 : decode cX8_type 47 = .ok (.aload_n 0, 1) := by decide +kernel
theorem dX8_type_48 : decode cX8_type 48 = .ok (.getfield 107, 3) := by decide +kernel
theorem dX8_type_51 : decode cX8_type 51 = .ok (.ireturn, 1) := by decide +kernel
theorem dX8_wipe_0 : decode cX8_wipe 0 = .ok (.aload_n 0, 1) := by decide +kernel
theorem dX8_wipe_1 : decode cX8_wipe 1 = .ok (.getfield 107, 3) := by decide +kernel
theorem dX8_wipe_4 : decode cX8_wipe 4 = .ok (.istore_n 1, 1) := by decide +kernel
theorem dX8_wipe_5 : decode cX8_wipe 5 = .ok (.aload_n 0, 1) := by decide +kernel
theorem dX8_wipe_6 : decode cX8_wipe 6 = .ok (.iconst 0, 1) := by decide +kernel
theorem dX8_wipe_7 : decode cX8_wipe 7 = .ok (.putfield 107, 3) := by decide +kernel
theorem dX8_wipe_10 : decode cX8_wipe 10 = .ok (.iload_n 1, 1) := by decide +kernel
theorem dX8_wipe_11 : decode cX8_wipe 11 = .ok (.ireturn, 1) := by decide +kernel
theorem dX8_undo_0 : decode cX8_undo 0 = .ok (.aload_n 0, 1) := by decide +kernel
theorem dX8_undo_1 : decode cX8_undo 1 = .ok (.getfield 107, 3) := by decide +kernel
theorem dX8_undo_4 : decode cX8_undo 4 = .ok (.ifCond .ne 6, 3) := by decide +kernel
theorem dX8_undo_7 : decode cX8_undo 7 = .ok (.bipush (-3), 2) := by decide +kernel
theorem dX8_undo_9 : decode cX8_undo 9 = .ok (.ireturn, 1) := by decide +kernel
theorem dX8_undo_10 : decode cX8_undo 10 = .ok (.aload_n 0, 1) := by decide +kernel
theorem dX8_undo_11 : decode cX8_undo 11 = .ok (.dup, 1) := by decide +kernel
theorem dX8_undo_12 : decode cX8_undo 12 = .ok (.getfield 107, 3) := by decide +kernel
theorem dX8_undo_15 : decode cX8_undo 15 = .ok (.iconst 1, 1) := by decide +kernel
theorem dX8_undo_16 : decode cX8_undo 16 = .ok (.isub, 1) := by decide +kernel
theorem dX8_undo_17 : decode cX8_undo 17 = .ok (.putfield 107, 3) := by decide +kernel
theorem dX8_undo_20 : decode cX8_undo 20 = .ok (.aload_n 0, 1) := by decide +kernel
theorem dX8_undo_21 : decode cX8_undo 21 = .ok (.getfield 107, 3) := by decide +kernel
theorem dX8_undo_24 : decode cX8_undo 24 = .ok (.ireturn, 1) := by decide +kernel
theorem dX8_tenantOf_0 : decode cX8_tenantOf 0 = .ok (.iload_n 0, 1) := by decide +kernel
theorem dX8_tenantOf_1 : decode cX8_tenantOf 1 = .ok (.lookupswitch 83 #[(0, 27), (3, 70)], 27) := by decide +kernel
theorem dX8_tenantOf_28 : decode cX8_tenantOf 28 = .ok (.iload_n 1, 1) := by decide +kernel
theorem dX8_tenantOf_29 : decode cX8_tenantOf 29 = .ok (.bipush 111, 2) := by decide +kernel
theorem dX8_tenantOf_31 : decode cX8_tenantOf 31 = .ok (.if_icmp .ne 7, 3) := by decide +kernel
theorem dX8_tenantOf_34 : decode cX8_tenantOf 34 = .ok (.iconst 0, 1) := by decide +kernel
theorem dX8_tenantOf_35 : decode cX8_tenantOf 35 = .ok (.goto 35, 3) := by decide +kernel
theorem dX8_tenantOf_38 : decode cX8_tenantOf 38 = .ok (.iload_n 1, 1) := by decide +kernel
theorem dX8_tenantOf_39 : decode cX8_tenantOf 39 = .ok (.bipush 112, 2) := by decide +kernel
theorem dX8_tenantOf_41 : decode cX8_tenantOf 41 = .ok (.if_icmp .ne 7, 3) := by decide +kernel
theorem dX8_tenantOf_44 : decode cX8_tenantOf 44 = .ok (.iconst 1, 1) := by decide +kernel
theorem dX8_tenantOf_45 : decode cX8_tenantOf 45 = .ok (.goto 25, 3) := by decide +kernel
theorem dX8_tenantOf_48 : decode cX8_tenantOf 48 = .ok (.iload_n 1, 1) := by decide +kernel
theorem dX8_tenantOf_49 : decode cX8_tenantOf 49 = .ok (.bipush 99, 2) := by decide +kernel
theorem dX8_tenantOf_51 : decode cX8_tenantOf 51 = .ok (.if_icmp .ne 7, 3) := by decide +kernel
theorem dX8_tenantOf_54 : decode cX8_tenantOf 54 = .ok (.iconst 2, 1) := by decide +kernel
theorem dX8_tenantOf_55 : decode cX8_tenantOf 55 = .ok (.goto 15, 3) := by decide +kernel
theorem dX8_tenantOf_58 : decode cX8_tenantOf 58 = .ok (.iload_n 1, 1) := by decide +kernel
theorem dX8_tenantOf_59 : decode cX8_tenantOf 59 = .ok (.bipush 114, 2) := by decide +kernel
theorem dX8_tenantOf_61 : decode cX8_tenantOf 61 = .ok (.if_icmp .ne 7, 3) := by decide +kernel
theorem dX8_tenantOf_64 : decode cX8_tenantOf 64 = .ok (.iconst 3, 1) := by decide +kernel
theorem dX8_tenantOf_65 : decode cX8_tenantOf 65 = .ok (.goto 5, 3) := by decide +kernel
theorem dX8_tenantOf_68 : decode cX8_tenantOf 68 = .ok (.bipush (-9), 2) := by decide +kernel
theorem dX8_tenantOf_70 : decode cX8_tenantOf 70 = .ok (.ireturn, 1) := by decide +kernel
theorem dX8_tenantOf_71 : decode cX8_tenantOf 71 = .ok (.iload_n 1, 1) := by decide +kernel
theorem dX8_tenantOf_72 : decode cX8_tenantOf 72 = .ok (.bipush 59, 2) := by decide +kernel
theorem dX8_tenantOf_74 : decode cX8_tenantOf 74 = .ok (.if_icmp .ne 7, 3) := by decide +kernel
theorem dX8_tenantOf_77 : decode cX8_tenantOf 77 = .ok (.iconst 0, 1) := by decide +kernel
theorem dX8_tenantOf_78 : decode cX8_tenantOf 78 = .ok (.goto 5, 3) := by decide +kernel
theorem dX8_tenantOf_81 : decode cX8_tenantOf 81 = .ok (.bipush (-9), 2) := by decide +kernel
theorem dX8_tenantOf_83 : decode cX8_tenantOf 83 = .ok (.ireturn, 1) := by decide +kernel
theorem dX8_tenantOf_84 : decode cX8_tenantOf 84 = .ok (.iload_n 1, 1) := by decide +kernel
theorem dX8_tenantOf_85 : decode cX8_tenantOf 85 = .ok (.i2l, 1) := by decide +kernel
theorem dX8_tenantOf_86 : decode cX8_tenantOf 86 = .ok (.ldc2_w 110, 3) := by decide +kernel
theorem dX8_tenantOf_89 : decode cX8_tenantOf 89 = .ok (.ldc2_w 112, 3) := by decide +kernel
theorem dX8_tenantOf_92 : decode cX8_tenantOf 92 = .ok (.invokestatic 77, 3) := by decide +kernel
theorem dX8_tenantOf_95 : decode cX8_tenantOf 95 = .ok (.ifCond .eq 10, 3) := by decide +kernel
theorem dX8_tenantOf_98 : decode cX8_tenantOf 98 = .ok (.iload_n 1, 1) := by decide +kernel
theorem dX8_tenantOf_99 : decode cX8_tenantOf 99 = .ok (.bipush 48, 2) := by decide +kernel
theorem dX8_tenantOf_101 : decode cX8_tenantOf 101 = .ok (.isub, 1) := by decide +kernel
theorem dX8_tenantOf_102 : decode cX8_tenantOf 102 = .ok (.goto 5, 3) := by decide +kernel
theorem dX8_tenantOf_105 : decode cX8_tenantOf 105 = .ok (.bipush (-9), 2) := by decide +kernel
theorem dX8_tenantOf_107 : decode cX8_tenantOf 107 = .ok (.ireturn, 1) := by decide +kernel
theorem dX8_reads_0 : decode cX8_reads 0 = .ok (.aload_n 0, 1) := by decide +kernel
theorem dX8_reads_1 : decode cX8_reads 1 = .ok (.iconst 0, 1) := by decide +kernel
theorem dX8_reads_2 : decode cX8_reads 2 = .ok (.putfield 114, 3) := by decide +kernel
theorem dX8_reads_5 : decode cX8_reads 5 = .ok (.iconst 0, 1) := by decide +kernel
theorem dX8_reads_6 : decode cX8_reads 6 = .ok (.istore_n 1, 1) := by decide +kernel
theorem dX8_reads_7 : decode cX8_reads 7 = .ok (.iload_n 1, 1) := by decide +kernel
theorem dX8_reads_8 : decode cX8_reads 8 = .ok (.aload_n 0, 1) := by decide +kernel
theorem dX8_reads_9 : decode cX8_reads 9 = .ok (.getfield 107, 3) := by decide +kernel
theorem dX8_reads_12 : decode cX8_reads 12 = .ok (.if_icmp .ge 74, 3) := by decide +kernel
theorem dX8_reads_15 : decode cX8_reads 15 = .ok (.iload_n 1, 1) := by decide +kernel
theorem dX8_reads_16 : decode cX8_reads 16 = .ok (.iconst 4, 1) := by decide +kernel
theorem dX8_reads_17 : decode cX8_reads 17 = .ok (.irem, 1) := by decide +kernel
theorem dX8_reads_18 : decode cX8_reads 18 = .ok (.istore_n 2, 1) := by decide +kernel
theorem dX8_reads_19 : decode cX8_reads 19 = .ok (.iload_n 2, 1) := by decide +kernel
theorem dX8_reads_20 : decode cX8_reads 20 = .ok (.aload_n 0, 1) := by decide +kernel
theorem dX8_reads_21 : decode cX8_reads 21 = .ok (.getfield 22, 3) := by decide +kernel
theorem dX8_reads_24 : decode cX8_reads 24 = .ok (.iload_n 1, 1) := by decide +kernel
theorem dX8_reads_25 : decode cX8_reads 25 = .ok (.iaload, 1) := by decide +kernel
theorem dX8_reads_26 : decode cX8_reads 26 = .ok (.invokestatic 117, 3) := by decide +kernel
theorem dX8_reads_29 : decode cX8_reads 29 = .ok (.istore_n 3, 1) := by decide +kernel
theorem dX8_reads_30 : decode cX8_reads 30 = .ok (.iload_n 3, 1) := by decide +kernel
theorem dX8_reads_31 : decode cX8_reads 31 = .ok (.bipush (-9), 2) := by decide +kernel
theorem dX8_reads_33 : decode cX8_reads 33 = .ok (.if_icmp .ne 10, 3) := by decide +kernel
theorem dX8_reads_36 : decode cX8_reads 36 = .ok (.aload_n 0, 1) := by decide +kernel
theorem dX8_reads_37 : decode cX8_reads 37 = .ok (.iconst 0, 1) := by decide +kernel
theorem dX8_reads_38 : decode cX8_reads 38 = .ok (.putfield 114, 3) := by decide +kernel
theorem dX8_reads_41 : decode cX8_reads 41 = .ok (.iload_n 1, 1) := by decide +kernel
theorem dX8_reads_42 : decode cX8_reads 42 = .ok (.ireturn, 1) := by decide +kernel
theorem dX8_reads_43 : decode cX8_reads 43 = .ok (.iload_n 2, 1) := by decide +kernel
theorem dX8_reads_44 : decode cX8_reads 44 = .ok (.iconst 3, 1) := by decide +kernel
theorem dX8_reads_45 : decode cX8_reads 45 = .ok (.if_icmp .ge 16, 3) := by decide +kernel
theorem dX8_reads_48 : decode cX8_reads 48 = .ok (.aload_n 0, 1) := by decide +kernel
theorem dX8_reads_49 : decode cX8_reads 49 = .ok (.getfield 25, 3) := by decide +kernel
theorem dX8_reads_52 : decode cX8_reads 52 = .ok (.iconst 3, 1) := by decide +kernel
theorem dX8_reads_53 : decode cX8_reads 53 = .ok (.iload_n 1, 1) := by decide +kernel
theorem dX8_reads_54 : decode cX8_reads 54 = .ok (.iconst 4, 1) := by decide +kernel
theorem dX8_reads_55 : decode cX8_reads 55 = .ok (.idiv, 1) := by decide +kernel
theorem dX8_reads_56 : decode cX8_reads 56 = .ok (.imul, 1) := by decide +kernel
theorem dX8_reads_57 : decode cX8_reads 57 = .ok (.iload_n 2, 1) := by decide +kernel
theorem dX8_reads_58 : decode cX8_reads 58 = .ok (.iadd, 1) := by decide +kernel
theorem dX8_reads_59 : decode cX8_reads 59 = .ok (.iload_n 3, 1) := by decide +kernel
theorem dX8_reads_60 : decode cX8_reads 60 = .ok (.iastore, 1) := by decide +kernel
theorem dX8_reads_61 : decode cX8_reads 61 = .ok (.aload_n 0, 1) := by decide +kernel
theorem dX8_reads_62 : decode cX8_reads 62 = .ok (.dup, 1) := by decide +kernel
theorem dX8_reads_63 : decode cX8_reads 63 = .ok (.getfield 114, 3) := by decide +kernel
theorem dX8_reads_66 : decode cX8_reads 66 = .ok (.iload_n 2, 1) := by decide +kernel
theorem dX8_reads_67 : decode cX8_reads 67 = .ok (.iconst 2, 1) := by decide +kernel
theorem dX8_reads_68 : decode cX8_reads 68 = .ok (.if_icmp .ne 7, 3) := by decide +kernel
theorem dX8_reads_71 : decode cX8_reads 71 = .ok (.iconst 1, 1) := by decide +kernel
theorem dX8_reads_72 : decode cX8_reads 72 = .ok (.goto 4, 3) := by decide +kernel
theorem dX8_reads_75 : decode cX8_reads 75 = .ok (.iconst 0, 1) := by decide +kernel
theorem dX8_reads_76 : decode cX8_reads 76 = .ok (.iadd, 1) := by decide +kernel
theorem dX8_reads_77 : decode cX8_reads 77 = .ok (.putfield 114, 3) := by decide +kernel
theorem dX8_reads_80 : decode cX8_reads 80 = .ok (.iinc 1 1, 3) := by decide +kernel
theorem dX8_reads_83 : decode cX8_reads 83 = .ok (.goto (-76), 3) := by decide +kernel
theorem dX8_reads_86 : decode cX8_reads 86 = .ok (.aload_n 0, 1) := by decide +kernel
theorem dX8_reads_87 : decode cX8_reads 87 = .ok (.getfield 107, 3) := by decide +kernel
theorem dX8_reads_90 : decode cX8_reads 90 = .ok (.ifCond .le 23, 3) := by decide +kernel
theorem dX8_reads_93 : decode cX8_reads 93 = .ok (.aload_n 0, 1) := by decide +kernel
theorem dX8_reads_94 : decode cX8_reads 94 = .ok (.getfield 107, 3) := by decide +kernel
theorem dX8_reads_97 : decode cX8_reads 97 = .ok (.iconst 4, 1) := by decide +kernel
theorem dX8_reads_98 : decode cX8_reads 98 = .ok (.irem, 1) := by decide +kernel
theorem dX8_reads_99 : decode cX8_reads 99 = .ok (.iconst 3, 1) := by decide +kernel
theorem dX8_reads_100 : decode cX8_reads 100 = .ok (.if_icmp .eq 13, 3) := by decide +kernel
theorem dX8_reads_103 : decode cX8_reads 103 = .ok (.aload_n 0, 1) := by decide +kernel
theorem dX8_reads_104 : decode cX8_reads 104 = .ok (.iconst 0, 1) := by decide +kernel
theorem dX8_reads_105 : decode cX8_reads 105 = .ok (.putfield 114, 3) := by decide +kernel
theorem dX8_reads_108 : decode cX8_reads 108 = .ok (.aload_n 0, 1) := by decide +kernel
theorem dX8_reads_109 : decode cX8_reads 109 = .ok (.getfield 107, 3) := by decide +kernel
theorem dX8_reads_112 : decode cX8_reads 112 = .ok (.ireturn, 1) := by decide +kernel
theorem dX8_reads_113 : decode cX8_reads 113 = .ok (.iconst (-1), 1) := by decide +kernel
theorem dX8_reads_114 : decode cX8_reads 114 = .ok (.ireturn, 1) := by decide +kernel
theorem dX8_fault_0 : decode cX8_fault 0 = .ok (.aload_n 0, 1) := by decide +kernel
theorem dX8_fault_1 : decode cX8_fault 1 = .ok (.invokevirtual 120, 3) := by decide +kernel
theorem dX8_fault_4 : decode cX8_fault 4 = .ok (.ireturn, 1) := by decide +kernel
theorem dX8_isMonth_0 : decode cX8_isMonth 0 = .ok (.iload_n 0, 1) := by decide +kernel
theorem dX8_isMonth_1 : decode cX8_isMonth 1 = .ok (.i2l, 1) := by decide +kernel
theorem dX8_isMonth_2 : decode cX8_isMonth 2 = .ok (.lconst 0, 1) := by decide +kernel
theorem dX8_isMonth_3 : decode cX8_isMonth 3 = .ok (.ldc2_w 124, 3) := by decide +kernel
theorem dX8_isMonth_6 : decode cX8_isMonth 6 = .ok (.invokestatic 77, 3) := by decide +kernel
theorem dX8_isMonth_9 : decode cX8_isMonth 9 = .ok (.ireturn, 1) := by decide +kernel
theorem dX8_isTenant_0 : decode cX8_isTenant 0 = .ok (.iload_n 1, 1) := by decide +kernel
theorem dX8_isTenant_1 : decode cX8_isTenant 1 = .ok (.i2l, 1) := by decide +kernel
theorem dX8_isTenant_2 : decode cX8_isTenant 2 = .ok (.lconst 0, 1) := by decide +kernel
theorem dX8_isTenant_3 : decode cX8_isTenant 3 = .ok (.aload_n 0, 1) := by decide +kernel
theorem dX8_isTenant_4 : decode cX8_isTenant 4 = .ok (.getfield 114, 3) := by decide +kernel
theorem dX8_isTenant_7 : decode cX8_isTenant 7 = .ok (.iconst 1, 1) := by decide +kernel
theorem dX8_isTenant_8 : decode cX8_isTenant 8 = .ok (.isub, 1) := by decide +kernel
theorem dX8_isTenant_9 : decode cX8_isTenant 9 = .ok (.i2l, 1) := by decide +kernel
theorem dX8_isTenant_10 : decode cX8_isTenant 10 = .ok (.invokestatic 77, 3) := by decide +kernel
theorem dX8_isTenant_13 : decode cX8_isTenant 13 = .ok (.ireturn, 1) := by decide +kernel
theorem dX8_tenant_0 : decode cX8_tenant 0 = .ok (.aload_n 0, 1) := by decide +kernel
theorem dX8_tenant_1 : decode cX8_tenant 1 = .ok (.invokevirtual 120, 3) := by decide +kernel
theorem dX8_tenant_4 : decode cX8_tenant 4 = .ok (.pop, 1) := by decide +kernel
theorem dX8_tenant_5 : decode cX8_tenant 5 = .ok (.aload_n 0, 1) := by decide +kernel
theorem dX8_tenant_6 : decode cX8_tenant 6 = .ok (.iload_n 1, 1) := by decide +kernel
theorem dX8_tenant_7 : decode cX8_tenant 7 = .ok (.invokevirtual 126, 3) := by decide +kernel
theorem dX8_tenant_10 : decode cX8_tenant 10 = .ok (.ifCond .eq 28, 3) := by decide +kernel
theorem dX8_tenant_13 : decode cX8_tenant 13 = .ok (.iload_n 2, 1) := by decide +kernel
theorem dX8_tenant_14 : decode cX8_tenant 14 = .ok (.i2l, 1) := by decide +kernel
theorem dX8_tenant_15 : decode cX8_tenant 15 = .ok (.lconst 0, 1) := by decide +kernel
theorem dX8_tenant_16 : decode cX8_tenant 16 = .ok (.ldc2_w 90, 3) := by decide +kernel
theorem dX8_tenant_19 : decode cX8_tenant 19 = .ok (.invokestatic 77, 3) := by decide +kernel
theorem dX8_tenant_22 : decode cX8_tenant 22 = .ok (.ifCond .eq 16, 3) := by decide +kernel
theorem dX8_tenant_25 : decode cX8_tenant 25 = .ok (.aload_n 0, 1) := by decide +kernel
theorem dX8_tenant_26 : decode cX8_tenant 26 = .ok (.getfield 25, 3) := by decide +kernel
theorem dX8_tenant_29 : decode cX8_tenant 29 = .ok (.iconst 3, 1) := by decide +kernel
theorem dX8_tenant_30 : decode cX8_tenant 30 = .ok (.iload_n 1, 1) := by decide +kernel
theorem dX8_tenant_31 : decode cX8_tenant 31 = .ok (.imul, 1) := by decide +kernel
theorem dX8_tenant_32 : decode cX8_tenant 32 = .ok (.iload_n 2, 1) := by decide +kernel
theorem dX8_tenant_33 : decode cX8_tenant 33 = .ok (.iadd, 1) := by decide +kernel
theorem dX8_tenant_34 : decode cX8_tenant 34 = .ok (.iaload, 1) := by decide +kernel
theorem dX8_tenant_35 : decode cX8_tenant 35 = .ok (.goto 5, 3) := by decide +kernel
theorem dX8_tenant_38 : decode cX8_tenant 38 = .ok (.bipush (-2), 2) := by decide +kernel
theorem dX8_tenant_40 : decode cX8_tenant 40 = .ok (.ireturn, 1) := by decide +kernel
theorem dX8_room_0 : decode cX8_room 0 = .ok (.iload_n 1, 1) := by decide +kernel
theorem dX8_room_1 : decode cX8_room 1 = .ok (.i2l, 1) := by decide +kernel
theorem dX8_room_2 : decode cX8_room 2 = .ok (.lconst 1, 1) := by decide +kernel
theorem dX8_room_3 : decode cX8_room 3 = .ok (.ldc2_w 129, 3) := by decide +kernel
theorem dX8_room_6 : decode cX8_room 6 = .ok (.invokestatic 77, 3) := by decide +kernel
theorem dX8_room_9 : decode cX8_room 9 = .ok (.ifCond .ne 6, 3) := by decide +kernel
theorem dX8_room_12 : decode cX8_room 12 = .ok (.bipush (-2), 2) := by decide +kernel
theorem dX8_room_14 : decode cX8_room 14 = .ok (.ireturn, 1) := by decide +kernel
theorem dX8_room_15 : decode cX8_room 15 = .ok (.aload_n 0, 1) := by decide +kernel
theorem dX8_room_16 : decode cX8_room 16 = .ok (.getfield 71, 3) := by decide +kernel
theorem dX8_room_19 : decode cX8_room 19 = .ok (.istore_n 2, 1) := by decide +kernel
theorem dX8_room_20 : decode cX8_room 20 = .ok (.aload_n 0, 1) := by decide +kernel
theorem dX8_room_21 : decode cX8_room 21 = .ok (.iload_n 1, 1) := by decide +kernel
theorem dX8_room_22 : decode cX8_room 22 = .ok (.putfield 71, 3) := by decide +kernel
theorem dX8_room_25 : decode cX8_room 25 = .ok (.iload_n 2, 1) := by decide +kernel
theorem dX8_room_26 : decode cX8_room 26 = .ok (.ireturn, 1) := by decide +kernel
theorem dX8_event_0 : decode cX8_event 0 = .ok (.iload_n 1, 1) := by decide +kernel
theorem dX8_event_1 : decode cX8_event 1 = .ok (.i2l, 1) := by decide +kernel
theorem dX8_event_2 : decode cX8_event 2 = .ok (.lconst 0, 1) := by decide +kernel
theorem dX8_event_3 : decode cX8_event 3 = .ok (.ldc2_w 90, 3) := by decide +kernel
theorem dX8_event_6 : decode cX8_event 6 = .ok (.invokestatic 77, 3) := by decide +kernel
theorem dX8_event_9 : decode cX8_event 9 = .ok (.ifCond .eq 22, 3) := by decide +kernel
theorem dX8_event_12 : decode cX8_event 12 = .ok (.iload_n 2, 1) := by decide +kernel
theorem dX8_event_13 : decode cX8_event 13 = .ok (.invokestatic 131, 3) := by decide +kernel
theorem dX8_event_16 : decode cX8_event 16 = .ok (.ifCond .eq 15, 3) := by decide +kernel
theorem dX8_event_19 : decode cX8_event 19 = .ok (.iload_n 3, 1) := by decide +kernel
theorem dX8_event_20 : decode cX8_event 20 = .ok (.i2l, 1) := by decide +kernel
theorem dX8_event_21 : decode cX8_event 21 = .ok (.lconst 0, 1) := by decide +kernel
theorem dX8_event_22 : decode cX8_event 22 = .ok (.ldc2_w 134, 3) := by decide +kernel
theorem dX8_event_25 : decode cX8_event 25 = .ok (.invokestatic 77, 3) := by decide +kernel
theorem dX8_event_28 : decode cX8_event 28 = .ok (.ifCond .ne 6, 3) := by decide +kernel
theorem dX8_event_31 : decode cX8_event 31 = .ok (.bipush (-2), 2) := by decide +kernel
theorem dX8_event_33 : decode cX8_event 33 = .ok (.ireturn, 1) := by decide +kernel
theorem dX8_event_34 : decode cX8_event 34 = .ok (.aload_n 0, 1) := by decide +kernel
theorem dX8_event_35 : decode cX8_event 35 = .ok (.getfield 136, 3) := by decide +kernel
theorem dX8_event_38 : decode cX8_event 38 = .ok (.bipush 8, 2) := by decide +kernel
theorem dX8_event_40 : decode cX8_event 40 = .ok (.if_icmp .ne 6, 3) := by decide +kernel
theorem dX8_event_43 : decode cX8_event 43 = .ok (.bipush (-4), 2) := by decide +kernel
theorem dX8_event_45 : decode cX8_event 45 = .ok (.ireturn, 1) := by decide +kernel
theorem dX8_event_46 : decode cX8_event 46 = .ok (.aload_n 0, 1) := by decide +kernel
theorem dX8_event_47 : decode cX8_event 47 = .ok (.getfield 28, 3) := by decide +kernel
theorem dX8_event_50 : decode cX8_event 50 = .ok (.iconst 3, 1) := by decide +kernel
theorem dX8_event_51 : decode cX8_event 51 = .ok (.aload_n 0, 1) := by decide +kernel
theorem dX8_event_52 : decode cX8_event 52 = .ok (.getfield 136, 3) := by decide +kernel
theorem dX8_event_55 : decode cX8_event 55 = .ok (.imul, 1) := by decide +kernel
theorem dX8_event_56 : decode cX8_event 56 = .ok (.iload_n 1, 1) := by decide +kernel
theorem dX8_event_57 : decode cX8_event 57 = .ok (.iastore, 1) := by decide +kernel
theorem dX8_event_58 : decode cX8_event 58 = .ok (.aload_n 0, 1) := by decide +kernel
theorem dX8_event_59 : decode cX8_event 59 = .ok (.getfield 28, 3) := by decide +kernel
theorem dX8_event_62 : decode cX8_event 62 = .ok (.iconst 3, 1) := by decide +kernel
theorem dX8_event_63 : decode cX8_event 63 = .ok (.aload_n 0, 1) := by decide +kernel
theorem dX8_event_64 : decode cX8_event 64 = .ok (.getfield 136, 3) := by decide +kernel
theorem dX8_event_67 : decode cX8_event 67 = .ok (.imul, 1) := by decide +kernel
theorem dX8_event_68 : decode cX8_event 68 = .ok (.iconst 1, 1) := by decide +kernel
theorem dX8_event_69 : decode cX8_event 69 = .ok (.iadd, 1) := by decide +kernel
theorem dX8_event_70 : decode cX8_event 70 = .ok (.iload_n 2, 1) := by decide +kernel
theorem dX8_event_71 : decode cX8_event 71 = .ok (.iastore, 1) := by decide +kernel
theorem dX8_event_72 : decode cX8_event 72 = .ok (.aload_n 0, 1) := by decide +kernel
theorem dX8_event_73 : decode cX8_event 73 = .ok (.getfield 28, 3) := by decide +kernel
theorem dX8_event_76 : decode cX8_event 76 = .ok (.iconst 3, 1) := by decide +kernel
theorem dX8_event_77 : decode cX8_event 77 = .ok (.aload_n 0, 1) := by decide +kernel
theorem dX8_event_78 : decode cX8_event 78 = .ok (.getfield 136, 3) := by decide +kernel
theorem dX8_event_81 : decode cX8_event 81 = .ok (.imul, 1) := by decide +kernel
theorem dX8_event_82 : decode cX8_event 82 = .ok (.iconst 2, 1) := by decide +kernel
theorem dX8_event_83 : decode cX8_event 83 = .ok (.iadd, 1) := by decide +kernel
theorem dX8_event_84 : decode cX8_event 84 = .ok (.iload_n 3, 1) := by decide +kernel
theorem dX8_event_85 : decode cX8_event 85 = .ok (.iastore, 1) := by decide +kernel
theorem dX8_event_86 : decode cX8_event 86 = .ok (.aload_n 0, 1) := by decide +kernel
theorem dX8_event_87 : decode cX8_event 87 = .ok (.dup, 1) := by decide +kernel
theorem dX8_event_88 : decode cX8_event 88 = .ok (.getfield 136, 3) := by decide +kernel
theorem dX8_event_91 : decode cX8_event 91 = .ok (.iconst 1, 1) := by decide +kernel
theorem dX8_event_92 : decode cX8_event 92 = .ok (.iadd, 1) := by decide +kernel
theorem dX8_event_93 : decode cX8_event 93 = .ok (.putfield 136, 3) := by decide +kernel
theorem dX8_event_96 : decode cX8_event 96 = .ok (.aload_n 0, 1) := by decide +kernel
theorem dX8_event_97 : decode cX8_event 97 = .ok (.getfield 136, 3) := by decide +kernel
theorem dX8_event_100 : decode cX8_event 100 = .ok (.ireturn, 1) := by decide +kernel
theorem dX8_back_0 : decode cX8_back 0 = .ok (.aload_n 0, 1) := by decide +kernel
theorem dX8_back_1 : decode cX8_back 1 = .ok (.getfield 136, 3) := by decide +kernel
theorem dX8_back_4 : decode cX8_back 4 = .ok (.ifCond .ne 6, 3) := by decide +kernel
theorem dX8_back_7 : decode cX8_back 7 = .ok (.bipush (-3), 2) := by decide +kernel
theorem dX8_back_9 : decode cX8_back 9 = .ok (.ireturn, 1) := by decide +kernel
theorem dX8_back_10 : decode cX8_back 10 = .ok (.aload_n 0, 1) := by decide +kernel
theorem dX8_back_11 : decode cX8_back 11 = .ok (.dup, 1) := by decide +kernel
theorem dX8_back_12 : decode cX8_back 12 = .ok (.getfield 136, 3) := by decide +kernel
theorem dX8_back_15 : decode cX8_back 15 = .ok (.iconst 1, 1) := by decide +kernel
theorem dX8_back_16 : decode cX8_back 16 = .ok (.isub, 1) := by decide +kernel
theorem dX8_back_17 : decode cX8_back 17 = .ok (.putfield 136, 3) := by decide +kernel
theorem dX8_back_20 : decode cX8_back 20 = .ok (.aload_n 0, 1) := by decide +kernel
theorem dX8_back_21 : decode cX8_back 21 = .ok (.getfield 136, 3) := by decide +kernel
theorem dX8_back_24 : decode cX8_back 24 = .ok (.ireturn, 1) := by decide +kernel
theorem dX8_read_0 : decode cX8_read 0 = .ok (.iload_n 1, 1) := by decide +kernel
theorem dX8_read_1 : decode cX8_read 1 = .ok (.invokestatic 86, 3) := by decide +kernel
theorem dX8_read_4 : decode cX8_read 4 = .ok (.ifCond .ne 6, 3) := by decide +kernel
theorem dX8_read_7 : decode cX8_read 7 = .ok (.bipush (-2), 2) := by decide +kernel
theorem dX8_read_9 : decode cX8_read 9 = .ok (.ireturn, 1) := by decide +kernel
theorem dX8_read_10 : decode cX8_read 10 = .ok (.aload_n 0, 1) := by decide +kernel
theorem dX8_read_11 : decode cX8_read 11 = .ok (.getfield 7, 3) := by decide +kernel
theorem dX8_read_14 : decode cX8_read 14 = .ok (.iload_n 1, 1) := by decide +kernel
theorem dX8_read_15 : decode cX8_read 15 = .ok (.iaload, 1) := by decide +kernel
theorem dX8_read_16 : decode cX8_read 16 = .ok (.ifCond .ge 9, 3) := by decide +kernel
theorem dX8_read_19 : decode cX8_read 19 = .ok (.aload_n 0, 1) := by decide +kernel
theorem dX8_read_20 : decode cX8_read 20 = .ok (.iconst 1, 1) := by decide +kernel
theorem dX8_read_21 : decode cX8_read 21 = .ok (.invokevirtual 92, 3) := by decide +kernel
theorem dX8_read_24 : decode cX8_read 24 = .ok (.ireturn, 1) := by decide +kernel
theorem dX8_read_25 : decode cX8_read 25 = .ok (.iconst 0, 1) := by decide +kernel
theorem dX8_read_26 : decode cX8_read 26 = .ok (.istore_n 2, 1) := by decide +kernel
theorem dX8_read_27 : decode cX8_read 27 = .ok (.iconst 1, 1) := by decide +kernel
theorem dX8_read_28 : decode cX8_read 28 = .ok (.istore_n 3, 1) := by decide +kernel
theorem dX8_read_29 : decode cX8_read 29 = .ok (.iload_n 3, 1) := by decide +kernel
theorem dX8_read_30 : decode cX8_read 30 = .ok (.ifCond .eq 80, 3) := by decide +kernel
theorem dX8_read_33 : decode cX8_read 33 = .ok (.iconst 3, 1) := by decide +kernel
theorem dX8_read_34 : decode cX8_read 34 = .ok (.iload_n 2, 1) := by decide +kernel
theorem dX8_read_35 : decode cX8_read 35 = .ok (.imul, 1) := by decide +kernel
theorem dX8_read_36 : decode cX8_read 36 = .ok (.iconst 3, 1) := by decide +kernel
theorem dX8_read_37 : decode cX8_read 37 = .ok (.iadd, 1) := by decide +kernel
theorem dX8_read_38 : decode cX8_read 38 = .ok (.aload_n 0, 1) := by decide +kernel
theorem dX8_read_39 : decode cX8_read 39 = .ok (.getfield 13, 3) := by decide +kernel
theorem dX8_read_42 : decode cX8_read 42 = .ok (.iload_n 1, 1) := by decide +kernel
theorem dX8_read_43 : decode cX8_read 43 = .ok (.iaload, 1) := by decide +kernel
theorem dX8_read_44 : decode cX8_read 44 = .ok (.if_icmp .gt 66, 3) := by decide +kernel
theorem dX8_read_47 : decode cX8_read 47 = .ok (.bipush 60, 2) := by decide +kernel
theorem dX8_read_49 : decode cX8_read 49 = .ok (.iload_n 1, 1) := by decide +kernel
theorem dX8_read_50 : decode cX8_read 50 = .ok (.imul, 1) := by decide +kernel
theorem dX8_read_51 : decode cX8_read 51 = .ok (.iconst 3, 1) := by decide +kernel
theorem dX8_read_52 : decode cX8_read 52 = .ok (.iload_n 2, 1) := by decide +kernel
theorem dX8_read_53 : decode cX8_read 53 = .ok (.imul, 1) := by decide +kernel
theorem dX8_read_54 : decode cX8_read 54 = .ok (.iadd, 1) := by decide +kernel
theorem dX8_read_55 : decode cX8_read 55 = .ok (.istore 4, 2) := by decide +kernel
theorem dX8_read_57 : decode cX8_read 57 = .ok (.aload_n 0, 1) := by decide +kernel
theorem dX8_read_58 : decode cX8_read 58 = .ok (.aload_n 0, 1) := by decide +kernel
theorem dX8_read_59 : decode cX8_read 59 = .ok (.getfield 16, 3) := by decide +kernel
theorem dX8_read_62 : decode cX8_read 62 = .ok (.iload 4, 2) := by decide +kernel
theorem dX8_read_64 : decode cX8_read 64 = .ok (.iaload, 1) := by decide +kernel
theorem dX8_read_65 : decode cX8_read 65 = .ok (.aload_n 0, 1) := by decide +kernel
theorem dX8_read_66 : decode cX8_read 66 = .ok (.getfield 16, 3) := by decide +kernel
theorem dX8_read_69 : decode cX8_read 69 = .ok (.iload 4, 2) := by decide +kernel
theorem dX8_read_71 : decode cX8_read 71 = .ok (.iconst 1, 1) := by decide +kernel
theorem dX8_read_72 : decode cX8_read 72 = .ok (.iadd, 1) := by decide +kernel
theorem dX8_read_73 : decode cX8_read 73 = .ok (.iaload, 1) := by decide +kernel
theorem dX8_read_74 : decode cX8_read 74 = .ok (.aload_n 0, 1) := by decide +kernel
theorem dX8_read_75 : decode cX8_read 75 = .ok (.getfield 16, 3) := by decide +kernel
theorem dX8_read_78 : decode cX8_read 78 = .ok (.iload 4, 2) := by decide +kernel
theorem dX8_read_80 : decode cX8_read 80 = .ok (.iconst 2, 1) := by decide +kernel
theorem dX8_read_81 : decode cX8_read 81 = .ok (.iadd, 1) := by decide +kernel
theorem dX8_read_82 : decode cX8_read 82 = .ok (.iaload, 1) := by decide +kernel
theorem dX8_read_83 : decode cX8_read 83 = .ok (.invokevirtual 139, 3) := by decide +kernel
theorem dX8_read_86 : decode cX8_read 86 = .ok (.ifCond .lt 7, 3) := by decide +kernel
theorem dX8_read_89 : decode cX8_read 89 = .ok (.iconst 1, 1) := by decide +kernel
theorem dX8_read_90 : decode cX8_read 90 = .ok (.goto 4, 3) := by decide +kernel
theorem dX8_read_93 : decode cX8_read 93 = .ok (.iconst 0, 1) := by decide +kernel
theorem dX8_read_94 : decode cX8_read 94 = .ok (.istore_n 3, 1) := by decide +kernel
theorem dX8_read_95 : decode cX8_read 95 = .ok (.iload_n 2, 1) := by decide +kernel
theorem dX8_read_96 : decode cX8_read 96 = .ok (.iload_n 3, 1) := by decide +kernel
theorem dX8_read_97 : decode cX8_read 97 = .ok (.ifCond .eq 7, 3) := by decide +kernel
theorem dX8_read_100 : decode cX8_read 100 = .ok (.iconst 1, 1) := by decide +kernel
theorem dX8_read_101 : decode cX8_read 101 = .ok (.goto 4, 3) := by decide +kernel
theorem dX8_read_104 : decode cX8_read 104 = .ok (.iconst 0, 1) := by decide +kernel
theorem dX8_read_105 : decode cX8_read 105 = .ok (.iadd, 1) := by decide +kernel
theorem dX8_read_106 : decode cX8_read 106 = .ok (.istore_n 2, 1) := by decide +kernel
theorem dX8_read_107 : decode cX8_read 107 = .ok (.goto (-78), 3) := by decide +kernel
theorem dX8_read_110 : decode cX8_read 110 = .ok (.iload_n 2, 1) := by decide +kernel
theorem dX8_read_111 : decode cX8_read 111 = .ok (.ireturn, 1) := by decide +kernel
theorem dX8_happens_0 : decode cX8_happens 0 = .ok (.aload_n 0, 1) := by decide +kernel
theorem dX8_happens_1 : decode cX8_happens 1 = .ok (.iconst 0, 1) := by decide +kernel
theorem dX8_happens_2 : decode cX8_happens 2 = .ok (.putfield 141, 3) := by decide +kernel
theorem dX8_happens_5 : decode cX8_happens 5 = .ok (.iconst 0, 1) := by decide +kernel
theorem dX8_happens_6 : decode cX8_happens 6 = .ok (.istore_n 2, 1) := by decide +kernel
theorem dX8_happens_7 : decode cX8_happens 7 = .ok (.iload_n 2, 1) := by decide +kernel
theorem dX8_happens_8 : decode cX8_happens 8 = .ok (.aload_n 0, 1) := by decide +kernel
theorem dX8_happens_9 : decode cX8_happens 9 = .ok (.getfield 136, 3) := by decide +kernel
theorem dX8_happens_12 : decode cX8_happens 12 = .ok (.if_icmp .ge 121, 3) := by decide +kernel
theorem dX8_happens_15 : decode cX8_happens 15 = .ok (.aload_n 0, 1) := by decide +kernel
theorem dX8_happens_16 : decode cX8_happens 16 = .ok (.getfield 28, 3) := by decide +kernel
theorem dX8_happens_19 : decode cX8_happens 19 = .ok (.iconst 3, 1) := by decide +kernel
theorem dX8_happens_20 : decode cX8_happens 20 = .ok (.iload_n 2, 1) := by decide +kernel
theorem dX8_happens_21 : decode cX8_happens 21 = .ok (.imul, 1) := by decide +kernel
theorem dX8_happens_22 : decode cX8_happens 22 = .ok (.iconst 1, 1) := by decide +kernel
theorem dX8_happens_23 : decode cX8_happens 23 = .ok (.iadd, 1) := by decide +kernel
theorem dX8_happens_24 : decode cX8_happens 24 = .ok (.iaload, 1) := by decide +kernel
theorem dX8_happens_25 : decode cX8_happens 25 = .ok (.iload_n 1, 1) := by decide +kernel
theorem dX8_happens_26 : decode cX8_happens 26 = .ok (.if_icmp .ne 101, 3) := by decide +kernel
theorem dX8_happens_29 : decode cX8_happens 29 = .ok (.aload_n 0, 1) := by decide +kernel
theorem dX8_happens_30 : decode cX8_happens 30 = .ok (.getfield 145, 3) := by decide +kernel
theorem dX8_happens_33 : decode cX8_happens 33 = .ok (.iload_n 2, 1) := by decide +kernel
theorem dX8_happens_34 : decode cX8_happens 34 = .ok (.invokestatic 148, 3) := by decide +kernel
theorem dX8_happens_37 : decode cX8_happens 37 = .ok (.ifCond .ne 90, 3) := by decide +kernel
theorem dX8_happens_40 : decode cX8_happens 40 = .ok (.aload_n 0, 1) := by decide +kernel
theorem dX8_happens_41 : decode cX8_happens 41 = .ok (.getfield 28, 3) := by decide +kernel
theorem dX8_happens_44 : decode cX8_happens 44 = .ok (.iconst 3, 1) := by decide +kernel
theorem dX8_happens_45 : decode cX8_happens 45 = .ok (.iload_n 2, 1) := by decide +kernel
theorem dX8_happens_46 : decode cX8_happens 46 = .ok (.imul, 1) := by decide +kernel
theorem dX8_happens_47 : decode cX8_happens 47 = .ok (.iaload, 1) := by decide +kernel
theorem dX8_happens_48 : decode cX8_happens 48 = .ok (.istore_n 3, 1) := by decide +kernel
theorem dX8_happens_49 : decode cX8_happens 49 = .ok (.aload_n 0, 1) := by decide +kernel
theorem dX8_happens_50 : decode cX8_happens 50 = .ok (.getfield 28, 3) := by decide +kernel
theorem dX8_happens_53 : decode cX8_happens 53 = .ok (.iconst 3, 1) := by decide +kernel
theorem dX8_happens_54 : decode cX8_happens 54 = .ok (.iload_n 2, 1) := by decide +kernel
theorem dX8_happens_55 : decode cX8_happens 55 = .ok (.imul, 1) := by decide +kernel
theorem dX8_happens_56 : decode cX8_happens 56 = .ok (.iconst 2, 1) := by decide +kernel
theorem dX8_happens_57 : decode cX8_happens 57 = .ok (.iadd, 1) := by decide +kernel
theorem dX8_happens_58 : decode cX8_happens 58 = .ok (.iaload, 1) := by decide +kernel
theorem dX8_happens_59 : decode cX8_happens 59 = .ok (.istore 4, 2) := by decide +kernel
theorem dX8_happens_61 : decode cX8_happens 61 = .ok (.aload_n 0, 1) := by decide +kernel
theorem dX8_happens_62 : decode cX8_happens 62 = .ok (.aload_n 0, 1) := by decide +kernel
theorem dX8_happens_63 : decode cX8_happens 63 = .ok (.getfield 141, 3) := by decide +kernel
theorem dX8_happens_66 : decode cX8_happens 66 = .ok (.ifCond .ne 8, 3) := by decide +kernel
theorem dX8_happens_69 : decode cX8_happens 69 = .ok (.iload_n 3, 1) := by decide +kernel
theorem dX8_happens_70 : decode cX8_happens 70 = .ok (.iconst 2, 1) := by decide +kernel
theorem dX8_happens_71 : decode cX8_happens 71 = .ok (.if_icmp .ne 7, 3) := by decide +kernel
theorem dX8_happens_74 : decode cX8_happens 74 = .ok (.iconst 1, 1) := by decide +kernel
theorem dX8_happens_75 : decode cX8_happens 75 = .ok (.goto 4, 3) := by decide +kernel
theorem dX8_happens_78 : decode cX8_happens 78 = .ok (.iconst 0, 1) := by decide +kernel
theorem dX8_happens_79 : decode cX8_happens 79 = .ok (.putfield 141, 3) := by decide +kernel
theorem dX8_happens_82 : decode cX8_happens 82 = .ok (.iload_n 3, 1) := by decide +kernel
theorem dX8_happens_83 : decode cX8_happens 83 = .ok (.iconst 2, 1) := by decide +kernel
theorem dX8_happens_84 : decode cX8_happens 84 = .ok (.if_icmp .ge 43, 3) := by decide +kernel
theorem dX8_happens_87 : decode cX8_happens 87 = .ok (.aload_n 0, 1) := by decide +kernel
theorem dX8_happens_88 : decode cX8_happens 88 = .ok (.iload 4, 2) := by decide +kernel
theorem dX8_happens_90 : decode cX8_happens 90 = .ok (.invokevirtual 126, 3) := by decide +kernel
theorem dX8_happens_93 : decode cX8_happens 93 = .ok (.ifCond .eq 34, 3) := by decide +kernel
theorem dX8_happens_96 : decode cX8_happens 96 = .ok (.aload_n 0, 1) := by decide +kernel
theorem dX8_happens_97 : decode cX8_happens 97 = .ok (.getfield 40, 3) := by decide +kernel
theorem dX8_happens_100 : decode cX8_happens 100 = .ok (.iload 4, 2) := by decide +kernel
theorem dX8_happens_102 : decode cX8_happens 102 = .ok (.iaload, 1) := by decide +kernel
theorem dX8_happens_103 : decode cX8_happens 103 = .ok (.iconst (-1), 1) := by decide +kernel
theorem dX8_happens_104 : decode cX8_happens 104 = .ok (.if_icmp .ne 23, 3) := by decide +kernel
theorem dX8_happens_107 : decode cX8_happens 107 = .ok (.aload_n 0, 1) := by decide +kernel
theorem dX8_happens_108 : decode cX8_happens 108 = .ok (.getfield 37, 3) := by decide +kernel
theorem dX8_happens_111 : decode cX8_happens 111 = .ok (.iload 4, 2) := by decide +kernel
theorem dX8_happens_113 : decode cX8_happens 113 = .ok (.dup2, 1) := by decide +kernel
theorem dX8_happens_114 : decode cX8_happens 114 = .ok (.iaload, 1) := by decide +kernel
theorem dX8_happens_115 : decode cX8_happens 115 = .ok (.iload_n 3, 1) := by decide +kernel
theorem dX8_happens_116 : decode cX8_happens 116 = .ok (.ifCond .ne 8, 3) := by decide +kernel
theorem dX8_happens_119 : decode cX8_happens 119 = .ok (.bipush (-4), 2) := by decide +kernel
theorem dX8_happens_121 : decode cX8_happens 121 = .ok (.goto 4, 3) := by decide +kernel
theorem dX8_happens_124 : decode cX8_happens 124 = .ok (.iconst 3, 1) := by decide +kernel
theorem dX8_happens_125 : decode cX8_happens 125 = .ok (.iadd, 1) := by decide +kernel
theorem dX8_happens_126 : decode cX8_happens 126 = .ok (.iastore, 1) := by decide +kernel
theorem dX8_happens_127 : decode cX8_happens 127 = .ok (.iinc 2 1, 3) := by decide +kernel
theorem dX8_happens_130 : decode cX8_happens 130 = .ok (.goto (-123), 3) := by decide +kernel
theorem dX8_happens_133 : decode cX8_happens 133 = .ok (.return_, 1) := by decide +kernel
theorem dX8_pays_0 : decode cX8_pays 0 = .ok (.aload_n 0, 1) := by decide +kernel
theorem dX8_pays_1 : decode cX8_pays 1 = .ok (.getfield 25, 3) := by decide +kernel
theorem dX8_pays_4 : decode cX8_pays 4 = .ok (.iconst 3, 1) := by decide +kernel
theorem dX8_pays_5 : decode cX8_pays 5 = .ok (.iload_n 2, 1) := by decide +kernel
theorem dX8_pays_6 : decode cX8_pays 6 = .ok (.imul, 1) := by decide +kernel
theorem dX8_pays_7 : decode cX8_pays 7 = .ok (.iaload, 1) := by decide +kernel
theorem dX8_pays_8 : decode cX8_pays 8 = .ok (.istore_n 3, 1) := by decide +kernel
theorem dX8_pays_9 : decode cX8_pays 9 = .ok (.aload_n 0, 1) := by decide +kernel
theorem dX8_pays_10 : decode cX8_pays 10 = .ok (.getfield 25, 3) := by decide +kernel
theorem dX8_pays_13 : decode cX8_pays 13 = .ok (.iconst 3, 1) := by decide +kernel
theorem dX8_pays_14 : decode cX8_pays 14 = .ok (.iload_n 2, 1) := by decide +kernel
theorem dX8_pays_15 : decode cX8_pays 15 = .ok (.imul, 1) := by decide +kernel
theorem dX8_pays_16 : decode cX8_pays 16 = .ok (.iconst 2, 1) := by decide +kernel
theorem dX8_pays_17 : decode cX8_pays 17 = .ok (.iadd, 1) := by decide +kernel
theorem dX8_pays_18 : decode cX8_pays 18 = .ok (.iaload, 1) := by decide +kernel
theorem dX8_pays_19 : decode cX8_pays 19 = .ok (.istore 4, 2) := by decide +kernel
theorem dX8_pays_21 : decode cX8_pays 21 = .ok (.aload_n 0, 1) := by decide +kernel
theorem dX8_pays_22 : decode cX8_pays 22 = .ok (.getfield 34, 3) := by decide +kernel
theorem dX8_pays_25 : decode cX8_pays 25 = .ok (.iload_n 2, 1) := by decide +kernel
theorem dX8_pays_26 : decode cX8_pays 26 = .ok (.iaload, 1) := by decide +kernel
theorem dX8_pays_27 : decode cX8_pays 27 = .ok (.iconst 2, 1) := by decide +kernel
theorem dX8_pays_28 : decode cX8_pays 28 = .ok (.idiv, 1) := by decide +kernel
theorem dX8_pays_29 : decode cX8_pays 29 = .ok (.iconst 1, 1) := by decide +kernel
theorem dX8_pays_30 : decode cX8_pays 30 = .ok (.iadd, 1) := by decide +kernel
theorem dX8_pays_31 : decode cX8_pays 31 = .ok (.istore 5, 2) := by decide +kernel
theorem dX8_pays_33 : decode cX8_pays 33 = .ok (.aload_n 0, 1) := by decide +kernel
theorem dX8_pays_34 : decode cX8_pays 34 = .ok (.getfield 37, 3) := by decide +kernel
theorem dX8_pays_37 : decode cX8_pays 37 = .ok (.iload_n 2, 1) := by decide +kernel
theorem dX8_pays_38 : decode cX8_pays 38 = .ok (.dup2, 1) := by decide +kernel
theorem dX8_pays_39 : decode cX8_pays 39 = .ok (.iaload, 1) := by decide +kernel
theorem dX8_pays_40 : decode cX8_pays 40 = .ok (.iload_n 3, 1) := by decide +kernel
theorem dX8_pays_41 : decode cX8_pays 41 = .ok (.iconst 2, 1) := by decide +kernel
theorem dX8_pays_42 : decode cX8_pays 42 = .ok (.if_icmp .ne 10, 3) := by decide +kernel
theorem dX8_pays_45 : decode cX8_pays 45 = .ok (.iload 4, 2) := by decide +kernel
theorem dX8_pays_47 : decode cX8_pays 47 = .ok (.iconst 2, 1) := by decide +kernel
theorem dX8_pays_48 : decode cX8_pays 48 = .ok (.idiv, 1) := by decide +kernel
theorem dX8_pays_49 : decode cX8_pays 49 = .ok (.goto 23, 3) := by decide +kernel
theorem dX8_pays_52 : decode cX8_pays 52 = .ok (.iload_n 3, 1) := by decide +kernel
theorem dX8_pays_53 : decode cX8_pays 53 = .ok (.iconst 1, 1) := by decide +kernel
theorem dX8_pays_54 : decode cX8_pays 54 = .ok (.if_icmp .ne 13, 3) := by decide +kernel
theorem dX8_pays_57 : decode cX8_pays 57 = .ok (.iload 4, 2) := by decide +kernel
theorem dX8_pays_59 : decode cX8_pays 59 = .ok (.iload 5, 2) := by decide +kernel
theorem dX8_pays_61 : decode cX8_pays 61 = .ok (.isub, 1) := by decide +kernel
theorem dX8_pays_62 : decode cX8_pays 62 = .ok (.iconst 1, 1) := by decide +kernel
theorem dX8_pays_63 : decode cX8_pays 63 = .ok (.iadd, 1) := by decide +kernel
theorem dX8_pays_64 : decode cX8_pays 64 = .ok (.goto 8, 3) := by decide +kernel
theorem dX8_pays_67 : decode cX8_pays 67 = .ok (.iload 4, 2) := by decide +kernel
theorem dX8_pays_69 : decode cX8_pays 69 = .ok (.iload 5, 2) := by decide +kernel
theorem dX8_pays_71 : decode cX8_pays 71 = .ok (.isub, 1) := by decide +kernel
theorem dX8_pays_72 : decode cX8_pays 72 = .ok (.iadd, 1) := by decide +kernel
theorem dX8_pays_73 : decode cX8_pays 73 = .ok (.iastore, 1) := by decide +kernel
theorem dX8_pays_74 : decode cX8_pays 74 = .ok (.aload_n 0, 1) := by decide +kernel
theorem dX8_pays_75 : decode cX8_pays 75 = .ok (.getfield 37, 3) := by decide +kernel
theorem dX8_pays_78 : decode cX8_pays 78 = .ok (.iload_n 2, 1) := by decide +kernel
theorem dX8_pays_79 : decode cX8_pays 79 = .ok (.aload_n 0, 1) := by decide +kernel
theorem dX8_pays_80 : decode cX8_pays 80 = .ok (.getfield 37, 3) := by decide +kernel
theorem dX8_pays_83 : decode cX8_pays 83 = .ok (.iload_n 2, 1) := by decide +kernel
theorem dX8_pays_84 : decode cX8_pays 84 = .ok (.iaload, 1) := by decide +kernel
theorem dX8_pays_85 : decode cX8_pays 85 = .ok (.bipush 60, 2) := by decide +kernel
theorem dX8_pays_87 : decode cX8_pays 87 = .ok (.invokestatic 152, 3) := by decide +kernel
theorem dX8_pays_90 : decode cX8_pays 90 = .ok (.iastore, 1) := by decide +kernel
theorem dX8_pays_91 : decode cX8_pays 91 = .ok (.aload_n 0, 1) := by decide +kernel
theorem dX8_pays_92 : decode cX8_pays 92 = .ok (.getfield 37, 3) := by decide +kernel
theorem dX8_pays_95 : decode cX8_pays 95 = .ok (.iload_n 2, 1) := by decide +kernel
theorem dX8_pays_96 : decode cX8_pays 96 = .ok (.iaload, 1) := by decide +kernel
theorem dX8_pays_97 : decode cX8_pays 97 = .ok (.iload_n 3, 1) := by decide +kernel
theorem dX8_pays_98 : decode cX8_pays 98 = .ok (.iconst 3, 1) := by decide +kernel
theorem dX8_pays_99 : decode cX8_pays 99 = .ok (.if_icmp .ne 8, 3) := by decide +kernel
theorem dX8_pays_102 : decode cX8_pays 102 = .ok (.bipush (-6), 2) := by decide +kernel
theorem dX8_pays_104 : decode cX8_pays 104 = .ok (.goto 4, 3) := by decide +kernel
theorem dX8_pays_107 : decode cX8_pays 107 = .ok (.iconst 0, 1) := by decide +kernel
theorem dX8_pays_108 : decode cX8_pays 108 = .ok (.if_icmp .ge 17, 3) := by decide +kernel
theorem dX8_pays_111 : decode cX8_pays 111 = .ok (.aload_n 0, 1) := by decide +kernel
theorem dX8_pays_112 : decode cX8_pays 112 = .ok (.getfield 40, 3) := by decide +kernel
theorem dX8_pays_115 : decode cX8_pays 115 = .ok (.iload_n 2, 1) := by decide +kernel
theorem dX8_pays_116 : decode cX8_pays 116 = .ok (.iload_n 1, 1) := by decide +kernel
theorem dX8_pays_117 : decode cX8_pays 117 = .ok (.iastore, 1) := by decide +kernel
theorem dX8_pays_118 : decode cX8_pays 118 = .ok (.aload_n 0, 1) := by decide +kernel
theorem dX8_pays_119 : decode cX8_pays 119 = .ok (.getfield 31, 3) := by decide +kernel
theorem dX8_pays_122 : decode cX8_pays 122 = .ok (.iload_n 2, 1) := by decide +kernel
theorem dX8_pays_123 : decode cX8_pays 123 = .ok (.iconst (-1), 1) := by decide +kernel
theorem dX8_pays_124 : decode cX8_pays 124 = .ok (.iastore, 1) := by decide +kernel
theorem dX8_pays_125 : decode cX8_pays 125 = .ok (.return_, 1) := by decide +kernel
theorem dX8_third_0 : decode cX8_third 0 = .ok (.iload_n 0, 1) := by decide +kernel
theorem dX8_third_1 : decode cX8_third 1 = .ok (.ifCond .ge 7, 3) := by decide +kernel
theorem dX8_third_4 : decode cX8_third 4 = .ok (.iconst 0, 1) := by decide +kernel
theorem dX8_third_5 : decode cX8_third 5 = .ok (.goto 6, 3) := by decide +kernel
theorem dX8_third_8 : decode cX8_third 8 = .ok (.iload_n 0, 1) := by decide +kernel
theorem dX8_third_9 : decode cX8_third 9 = .ok (.iconst 3, 1) := by decide +kernel
theorem dX8_third_10 : decode cX8_third 10 = .ok (.idiv, 1) := by decide +kernel
theorem dX8_third_11 : decode cX8_third 11 = .ok (.ireturn, 1) := by decide +kernel
theorem dX8_wanted_0 : decode cX8_wanted 0 = .ok (.aload_n 0, 1) := by decide +kernel
theorem dX8_wanted_1 : decode cX8_wanted 1 = .ok (.getfield 37, 3) := by decide +kernel
theorem dX8_wanted_4 : decode cX8_wanted 4 = .ok (.iload_n 1, 1) := by decide +kernel
theorem dX8_wanted_5 : decode cX8_wanted 5 = .ok (.iaload, 1) := by decide +kernel
theorem dX8_wanted_6 : decode cX8_wanted 6 = .ok (.ifCond .ge 7, 3) := by decide +kernel
theorem dX8_wanted_9 : decode cX8_wanted 9 = .ok (.iconst 0, 1) := by decide +kernel
theorem dX8_wanted_10 : decode cX8_wanted 10 = .ok (.goto 29, 3) := by decide +kernel
theorem dX8_wanted_13 : decode cX8_wanted 13 = .ok (.aload_n 0, 1) := by decide +kernel
theorem dX8_wanted_14 : decode cX8_wanted 14 = .ok (.getfield 37, 3) := by decide +kernel
theorem dX8_wanted_17 : decode cX8_wanted 17 = .ok (.iload_n 1, 1) := by decide +kernel
theorem dX8_wanted_18 : decode cX8_wanted 18 = .ok (.iaload, 1) := by decide +kernel
theorem dX8_wanted_19 : decode cX8_wanted 19 = .ok (.iconst 3, 1) := by decide +kernel
theorem dX8_wanted_20 : decode cX8_wanted 20 = .ok (.idiv, 1) := by decide +kernel
theorem dX8_wanted_21 : decode cX8_wanted 21 = .ok (.aload_n 0, 1) := by decide +kernel
theorem dX8_wanted_22 : decode cX8_wanted 22 = .ok (.getfield 141, 3) := by decide +kernel
theorem dX8_wanted_25 : decode cX8_wanted 25 = .ok (.ifCond .eq 7, 3) := by decide +kernel
theorem dX8_wanted_28 : decode cX8_wanted 28 = .ok (.iconst 0, 1) := by decide +kernel
theorem dX8_wanted_29 : decode cX8_wanted 29 = .ok (.goto 4, 3) := by decide +kernel
theorem dX8_wanted_32 : decode cX8_wanted 32 = .ok (.iconst 1, 1) := by decide +kernel
theorem dX8_wanted_33 : decode cX8_wanted 33 = .ok (.iadd, 1) := by decide +kernel
theorem dX8_wanted_34 : decode cX8_wanted 34 = .ok (.bipush 12, 2) := by decide +kernel
theorem dX8_wanted_36 : decode cX8_wanted 36 = .ok (.invokestatic 152, 3) := by decide +kernel
theorem dX8_wanted_39 : decode cX8_wanted 39 = .ok (.ireturn, 1) := by decide +kernel
theorem dX8_gets_0 : decode cX8_gets 0 = .ok (.iconst 0, 1) := by decide +kernel
theorem dX8_gets_1 : decode cX8_gets 1 = .ok (.istore_n 1, 1) := by decide +kernel
theorem dX8_gets_2 : decode cX8_gets 2 = .ok (.iload_n 1, 1) := by decide +kernel
theorem dX8_gets_3 : decode cX8_gets 3 = .ok (.bipush 13, 2) := by decide +kernel
theorem dX8_gets_5 : decode cX8_gets 5 = .ok (.if_icmp .ge 16, 3) := by decide +kernel
theorem dX8_gets_8 : decode cX8_gets 8 = .ok (.aload_n 0, 1) := by decide +kernel
theorem dX8_gets_9 : decode cX8_gets 9 = .ok (.getfield 52, 3) := by decide +kernel
theorem dX8_gets_12 : decode cX8_gets 12 = .ok (.iload_n 1, 1) := by decide +kernel
theorem dX8_gets_13 : decode cX8_gets 13 = .ok (.iconst 0, 1) := by decide +kernel
theorem dX8_gets_14 : decode cX8_gets 14 = .ok (.iastore, 1) := by decide +kernel
theorem dX8_gets_15 : decode cX8_gets 15 = .ok (.iinc 1 1, 3) := by decide +kernel
theorem dX8_gets_18 : decode cX8_gets 18 = .ok (.goto (-16), 3) := by decide +kernel
theorem dX8_gets_21 : decode cX8_gets 21 = .ok (.iconst 0, 1) := by decide +kernel
theorem dX8_gets_22 : decode cX8_gets 22 = .ok (.istore_n 1, 1) := by decide +kernel
theorem dX8_gets_23 : decode cX8_gets 23 = .ok (.iconst 0, 1) := by decide +kernel
theorem dX8_gets_24 : decode cX8_gets 24 = .ok (.istore_n 2, 1) := by decide +kernel
theorem dX8_gets_25 : decode cX8_gets 25 = .ok (.iload_n 2, 1) := by decide +kernel
theorem dX8_gets_26 : decode cX8_gets 26 = .ok (.aload_n 0, 1) := by decide +kernel
theorem dX8_gets_27 : decode cX8_gets 27 = .ok (.getfield 114, 3) := by decide +kernel
theorem dX8_gets_30 : decode cX8_gets 30 = .ok (.if_icmp .ge 151, 3) := by decide +kernel
theorem dX8_gets_33 : decode cX8_gets 33 = .ok (.iconst (-1), 1) := by decide +kernel
theorem dX8_gets_34 : decode cX8_gets 34 = .ok (.istore_n 3, 1) := by decide +kernel
theorem dX8_gets_35 : decode cX8_gets 35 = .ok (.iconst 0, 1) := by decide +kernel
theorem dX8_gets_36 : decode cX8_gets 36 = .ok (.istore 4, 2) := by decide +kernel
theorem dX8_gets_38 : decode cX8_gets 38 = .ok (.iload 4, 2) := by decide +kernel
theorem dX8_gets_40 : decode cX8_gets 40 = .ok (.aload_n 0, 1) := by decide +kernel
theorem dX8_gets_41 : decode cX8_gets 41 = .ok (.getfield 114, 3) := by decide +kernel
theorem dX8_gets_44 : decode cX8_gets 44 = .ok (.if_icmp .ge 69, 3) := by decide +kernel
theorem dX8_gets_47 : decode cX8_gets 47 = .ok (.aload_n 0, 1) := by decide +kernel
theorem dX8_gets_48 : decode cX8_gets 48 = .ok (.getfield 40, 3) := by decide +kernel
theorem dX8_gets_51 : decode cX8_gets 51 = .ok (.iload 4, 2) := by decide +kernel
theorem dX8_gets_53 : decode cX8_gets 53 = .ok (.iaload, 1) := by decide +kernel
theorem dX8_gets_54 : decode cX8_gets 54 = .ok (.iconst (-1), 1) := by decide +kernel
theorem dX8_gets_55 : decode cX8_gets 55 = .ok (.if_icmp .ne 16, 3) := by decide +kernel
theorem dX8_gets_58 : decode cX8_gets 58 = .ok (.iload_n 1, 1) := by decide +kernel
theorem dX8_gets_59 : decode cX8_gets 59 = .ok (.iload 4, 2) := by decide +kernel
theorem dX8_gets_61 : decode cX8_gets 61 = .ok (.invokestatic 148, 3) := by decide +kernel
theorem dX8_gets_64 : decode cX8_gets 64 = .ok (.ifCond .ne 7, 3) := by decide +kernel
theorem dX8_gets_67 : decode cX8_gets 67 = .ok (.iconst 1, 1) := by decide +kernel
theorem dX8_gets_68 : decode cX8_gets 68 = .ok (.goto 4, 3) := by decide +kernel
theorem dX8_gets_71 : decode cX8_gets 71 = .ok (.iconst 0, 1) := by decide +kernel
theorem dX8_gets_72 : decode cX8_gets 72 = .ok (.istore 5, 2) := by decide +kernel
theorem dX8_gets_74 : decode cX8_gets 74 = .ok (.iload 5, 2) := by decide +kernel
theorem dX8_gets_76 : decode cX8_gets 76 = .ok (.ifCond .eq 29, 3) := by decide +kernel
theorem dX8_gets_79 : decode cX8_gets 79 = .ok (.iload_n 3, 1) := by decide +kernel
theorem dX8_gets_80 : decode cX8_gets 80 = .ok (.iconst (-1), 1) := by decide +kernel
theorem dX8_gets_81 : decode cX8_gets 81 = .ok (.if_icmp .eq 19, 3) := by decide +kernel
theorem dX8_gets_84 : decode cX8_gets 84 = .ok (.aload_n 0, 1) := by decide +kernel
theorem dX8_gets_85 : decode cX8_gets 85 = .ok (.getfield 37, 3) := by decide +kernel
theorem dX8_gets_88 : decode cX8_gets 88 = .ok (.iload 4, 2) := by decide +kernel
theorem dX8_gets_90 : decode cX8_gets 90 = .ok (.iaload, 1) := by decide +kernel
theorem dX8_gets_91 : decode cX8_gets 91 = .ok (.aload_n 0, 1) := by decide +kernel
theorem dX8_gets_92 : decode cX8_gets 92 = .ok (.getfield 37, 3) := by decide +kernel
theorem dX8_gets_95 : decode cX8_gets 95 = .ok (.iload_n 3, 1) := by decide +kernel
theorem dX8_gets_96 : decode cX8_gets 96 = .ok (.iaload, 1) := by decide +kernel
theorem dX8_gets_97 : decode cX8_gets 97 = .ok (.if_icmp .le 8, 3) := by decide +kernel
theorem dX8_gets_100 : decode cX8_gets 100 = .ok (.iload 4, 2) := by decide +kernel
theorem dX8_gets_102 : decode cX8_gets 102 = .ok (.goto 4, 3) := by decide +kernel
theorem dX8_gets_105 : decode cX8_gets 105 = .ok (.iload_n 3, 1) := by decide +kernel
theorem dX8_gets_106 : decode cX8_gets 106 = .ok (.istore_n 3, 1) := by decide +kernel
theorem dX8_gets_107 : decode cX8_gets 107 = .ok (.iinc 4 1, 3) := by decide +kernel
theorem dX8_gets_110 : decode cX8_gets 110 = .ok (.goto (-72), 3) := by decide +kernel
theorem dX8_gets_113 : decode cX8_gets 113 = .ok (.iload_n 3, 1) := by decide +kernel
theorem dX8_gets_114 : decode cX8_gets 114 = .ok (.iconst (-1), 1) := by decide +kernel
theorem dX8_gets_115 : decode cX8_gets 115 = .ok (.if_icmp .eq 60, 3) := by decide +kernel
theorem dX8_gets_118 : decode cX8_gets 118 = .ok (.iload_n 1, 1) := by decide +kernel
theorem dX8_gets_119 : decode cX8_gets 119 = .ok (.iconst 1, 1) := by decide +kernel
theorem dX8_gets_120 : decode cX8_gets 120 = .ok (.iload_n 3, 1) := by decide +kernel
theorem dX8_gets_121 : decode cX8_gets 121 = .ok (.ishl, 1) := by decide +kernel
theorem dX8_gets_122 : decode cX8_gets 122 = .ok (.ior, 1) := by decide +kernel
theorem dX8_gets_123 : decode cX8_gets 123 = .ok (.istore_n 1, 1) := by decide +kernel
theorem dX8_gets_124 : decode cX8_gets 124 = .ok (.aload_n 0, 1) := by decide +kernel
theorem dX8_gets_125 : decode cX8_gets 125 = .ok (.iload_n 3, 1) := by decide +kernel
theorem dX8_gets_126 : decode cX8_gets 126 = .ok (.invokevirtual 155, 3) := by decide +kernel
theorem dX8_gets_129 : decode cX8_gets 129 = .ok (.istore 4, 2) := by decide +kernel
theorem dX8_gets_131 : decode cX8_gets 131 = .ok (.iload 4, 2) := by decide +kernel
theorem dX8_gets_133 : decode cX8_gets 133 = .ok (.ifCond .le 23, 3) := by decide +kernel
theorem dX8_gets_136 : decode cX8_gets 136 = .ok (.aload_n 0, 1) := by decide +kernel
theorem dX8_gets_137 : decode cX8_gets 137 = .ok (.getfield 52, 3) := by decide +kernel
theorem dX8_gets_140 : decode cX8_gets 140 = .ok (.iload 4, 2) := by decide +kernel
theorem dX8_gets_142 : decode cX8_gets 142 = .ok (.iaload, 1) := by decide +kernel
theorem dX8_gets_143 : decode cX8_gets 143 = .ok (.aload_n 0, 1) := by decide +kernel
theorem dX8_gets_144 : decode cX8_gets 144 = .ok (.getfield 71, 3) := by decide +kernel
theorem dX8_gets_147 : decode cX8_gets 147 = .ok (.if_icmp .ne 9, 3) := by decide +kernel
theorem dX8_gets_150 : decode cX8_gets 150 = .ok (.iinc 4 (-1), 3) := by decide +kernel
theorem dX8_gets_153 : decode cX8_gets 153 = .ok (.goto (-22), 3) := by decide +kernel
theorem dX8_gets_156 : decode cX8_gets 156 = .ok (.aload_n 0, 1) := by decide +kernel
theorem dX8_gets_157 : decode cX8_gets 157 = .ok (.getfield 52, 3) := by decide +kernel
theorem dX8_gets_160 : decode cX8_gets 160 = .ok (.iload 4, 2) := by decide +kernel
theorem dX8_gets_162 : decode cX8_gets 162 = .ok (.dup2, 1) := by decide +kernel
theorem dX8_gets_163 : decode cX8_gets 163 = .ok (.iaload, 1) := by decide +kernel
theorem dX8_gets_164 : decode cX8_gets 164 = .ok (.iconst 1, 1) := by decide +kernel
theorem dX8_gets_165 : decode cX8_gets 165 = .ok (.iadd, 1) := by decide +kernel
theorem dX8_gets_166 : decode cX8_gets 166 = .ok (.iastore, 1) := by decide +kernel
theorem dX8_gets_167 : decode cX8_gets 167 = .ok (.aload_n 0, 1) := by decide +kernel
theorem dX8_gets_168 : decode cX8_gets 168 = .ok (.getfield 31, 3) := by decide +kernel
theorem dX8_gets_171 : decode cX8_gets 171 = .ok (.iload_n 3, 1) := by decide +kernel
theorem dX8_gets_172 : decode cX8_gets 172 = .ok (.iload 4, 2) := by decide +kernel
theorem dX8_gets_174 : decode cX8_gets 174 = .ok (.iastore, 1) := by decide +kernel
theorem dX8_gets_175 : decode cX8_gets 175 = .ok (.iinc 2 1, 3) := by decide +kernel
theorem dX8_gets_178 : decode cX8_gets 178 = .ok (.goto (-153), 3) := by decide +kernel
theorem dX8_gets_181 : decode cX8_gets 181 = .ok (.return_, 1) := by decide +kernel
theorem dX8_between_0 : decode cX8_between 0 = .ok (.iconst 0, 1) := by decide +kernel
theorem dX8_between_1 : decode cX8_between 1 = .ok (.istore_n 3, 1) := by decide +kernel
theorem dX8_between_2 : decode cX8_between 2 = .ok (.iconst 0, 1) := by decide +kernel
theorem dX8_between_3 : decode cX8_between 3 = .ok (.istore 4, 2) := by decide +kernel
theorem dX8_between_5 : decode cX8_between 5 = .ok (.iload 4, 2) := by decide +kernel
theorem dX8_between_7 : decode cX8_between 7 = .ok (.aload_n 0, 1) := by decide +kernel
theorem dX8_between_8 : decode cX8_between 8 = .ok (.getfield 114, 3) := by decide +kernel
theorem dX8_between_11 : decode cX8_between 11 = .ok (.if_icmp .ge 39, 3) := by decide +kernel
theorem dX8_between_14 : decode cX8_between 14 = .ok (.iload_n 3, 1) := by decide +kernel
theorem dX8_between_15 : decode cX8_between 15 = .ok (.aload_n 0, 1) := by decide +kernel
theorem dX8_between_16 : decode cX8_between 16 = .ok (.getfield 31, 3) := by decide +kernel
theorem dX8_between_19 : decode cX8_between 19 = .ok (.iload 4, 2) := by decide +kernel
theorem dX8_between_21 : decode cX8_between 21 = .ok (.iaload, 1) := by decide +kernel
theorem dX8_between_22 : decode cX8_between 22 = .ok (.iload_n 1, 1) := by decide +kernel
theorem dX8_between_23 : decode cX8_between 23 = .ok (.if_icmp .le 18, 3) := by decide +kernel
theorem dX8_between_26 : decode cX8_between 26 = .ok (.aload_n 0, 1) := by decide +kernel
theorem dX8_between_27 : decode cX8_between 27 = .ok (.getfield 31, 3) := by decide +kernel
theorem dX8_between_30 : decode cX8_between 30 = .ok (.iload 4, 2) := by decide +kernel
theorem dX8_between_32 : decode cX8_between 32 = .ok (.iaload, 1) := by decide +kernel
theorem dX8_between_33 : decode cX8_between 33 = .ok (.iload_n 2, 1) := by decide +kernel
theorem dX8_between_34 : decode cX8_between 34 = .ok (.if_icmp .ge 7, 3) := by decide +kernel
theorem dX8_between_37 : decode cX8_between 37 = .ok (.iconst 1, 1) := by decide +kernel
theorem dX8_between_38 : decode cX8_between 38 = .ok (.goto 4, 3) := by decide +kernel
theorem dX8_between_41 : decode cX8_between 41 = .ok (.iconst 0, 1) := by decide +kernel
theorem dX8_between_42 : decode cX8_between 42 = .ok (.iadd, 1) := by decide +kernel
theorem dX8_between_43 : decode cX8_between 43 = .ok (.istore_n 3, 1) := by decide +kernel
theorem dX8_between_44 : decode cX8_between 44 = .ok (.iinc 4 1, 3) := by decide +kernel
theorem dX8_between_47 : decode cX8_between 47 = .ok (.goto (-42), 3) := by decide +kernel
theorem dX8_between_50 : decode cX8_between 50 = .ok (.iload_n 3, 1) := by decide +kernel
theorem dX8_between_51 : decode cX8_between 51 = .ok (.ireturn, 1) := by decide +kernel
theorem dX8_passes_0 : decode cX8_passes 0 = .ok (.iconst 0, 1) := by decide +kernel
theorem dX8_passes_1 : decode cX8_passes 1 = .ok (.istore_n 2, 1) := by decide +kernel
theorem dX8_passes_2 : decode cX8_passes 2 = .ok (.iload_n 2, 1) := by decide +kernel
theorem dX8_passes_3 : decode cX8_passes 3 = .ok (.aload_n 0, 1) := by decide +kernel
theorem dX8_passes_4 : decode cX8_passes 4 = .ok (.getfield 114, 3) := by decide +kernel
theorem dX8_passes_7 : decode cX8_passes 7 = .ok (.if_icmp .ge 21, 3) := by decide +kernel
theorem dX8_passes_10 : decode cX8_passes 10 = .ok (.aload_n 0, 1) := by decide +kernel
theorem dX8_passes_11 : decode cX8_passes 11 = .ok (.getfield 34, 3) := by decide +kernel
theorem dX8_passes_14 : decode cX8_passes 14 = .ok (.iload_n 2, 1) := by decide +kernel
theorem dX8_passes_15 : decode cX8_passes 15 = .ok (.aload_n 0, 1) := by decide +kernel
theorem dX8_passes_16 : decode cX8_passes 16 = .ok (.getfield 31, 3) := by decide +kernel
theorem dX8_passes_19 : decode cX8_passes 19 = .ok (.iload_n 2, 1) := by decide +kernel
theorem dX8_passes_20 : decode cX8_passes 20 = .ok (.iaload, 1) := by decide +kernel
theorem dX8_passes_21 : decode cX8_passes 21 = .ok (.iastore, 1) := by decide +kernel
theorem dX8_passes_22 : decode cX8_passes 22 = .ok (.iinc 2 1, 3) := by decide +kernel
theorem dX8_passes_25 : decode cX8_passes 25 = .ok (.goto (-23), 3) := by decide +kernel
theorem dX8_passes_28 : decode cX8_passes 28 = .ok (.aload_n 0, 1) := by decide +kernel
theorem dX8_passes_29 : decode cX8_passes 29 = .ok (.iload_n 1, 1) := by decide +kernel
theorem dX8_passes_30 : decode cX8_passes 30 = .ok (.invokevirtual 158, 3) := by decide +kernel
theorem dX8_passes_33 : decode cX8_passes 33 = .ok (.iconst 0, 1) := by decide +kernel
theorem dX8_passes_34 : decode cX8_passes 34 = .ok (.istore_n 2, 1) := by decide +kernel
theorem dX8_passes_35 : decode cX8_passes 35 = .ok (.iload_n 2, 1) := by decide +kernel
theorem dX8_passes_36 : decode cX8_passes 36 = .ok (.aload_n 0, 1) := by decide +kernel
theorem dX8_passes_37 : decode cX8_passes 37 = .ok (.getfield 114, 3) := by decide +kernel
theorem dX8_passes_40 : decode cX8_passes 40 = .ok (.if_icmp .ge 25, 3) := by decide +kernel
theorem dX8_passes_43 : decode cX8_passes 43 = .ok (.aload_n 0, 1) := by decide +kernel
theorem dX8_passes_44 : decode cX8_passes 44 = .ok (.getfield 40, 3) := by decide +kernel
theorem dX8_passes_47 : decode cX8_passes 47 = .ok (.iload_n 2, 1) := by decide +kernel
theorem dX8_passes_48 : decode cX8_passes 48 = .ok (.iaload, 1) := by decide +kernel
theorem dX8_passes_49 : decode cX8_passes 49 = .ok (.iconst (-1), 1) := by decide +kernel
theorem dX8_passes_50 : decode cX8_passes 50 = .ok (.if_icmp .ne 9, 3) := by decide +kernel
theorem dX8_passes_53 : decode cX8_passes 53 = .ok (.aload_n 0, 1) := by decide +kernel
theorem dX8_passes_54 : decode cX8_passes 54 = .ok (.iload_n 1, 1) := by decide +kernel
theorem dX8_passes_55 : decode cX8_passes 55 = .ok (.iload_n 2, 1) := by decide +kernel
theorem dX8_passes_56 : decode cX8_passes 56 = .ok (.invokevirtual 162, 3) := by decide +kernel
theorem dX8_passes_59 : decode cX8_passes 59 = .ok (.iinc 2 1, 3) := by decide +kernel
theorem dX8_passes_62 : decode cX8_passes 62 = .ok (.goto (-27), 3) := by decide +kernel
theorem dX8_passes_65 : decode cX8_passes 65 = .ok (.aload_n 0, 1) := by decide +kernel
theorem dX8_passes_66 : decode cX8_passes 66 = .ok (.invokevirtual 166, 3) := by decide +kernel
theorem dX8_passes_69 : decode cX8_passes 69 = .ok (.iconst 0, 1) := by decide +kernel
theorem dX8_passes_70 : decode cX8_passes 70 = .ok (.istore_n 2, 1) := by decide +kernel
theorem dX8_passes_71 : decode cX8_passes 71 = .ok (.iload_n 2, 1) := by decide +kernel
theorem dX8_passes_72 : decode cX8_passes 72 = .ok (.aload_n 0, 1) := by decide +kernel
theorem dX8_passes_73 : decode cX8_passes 73 = .ok (.getfield 114, 3) := by decide +kernel
theorem dX8_passes_76 : decode cX8_passes 76 = .ok (.if_icmp .ge 158, 3) := by decide +kernel
theorem dX8_passes_79 : decode cX8_passes 79 = .ok (.aload_n 0, 1) := by decide +kernel
theorem dX8_passes_80 : decode cX8_passes 80 = .ok (.getfield 31, 3) := by decide +kernel
theorem dX8_passes_83 : decode cX8_passes 83 = .ok (.iload_n 2, 1) := by decide +kernel
theorem dX8_passes_84 : decode cX8_passes 84 = .ok (.iaload, 1) := by decide +kernel
theorem dX8_passes_85 : decode cX8_passes 85 = .ok (.aload_n 0, 1) := by decide +kernel
theorem dX8_passes_86 : decode cX8_passes 86 = .ok (.getfield 34, 3) := by decide +kernel
theorem dX8_passes_89 : decode cX8_passes 89 = .ok (.iload_n 2, 1) := by decide +kernel
theorem dX8_passes_90 : decode cX8_passes 90 = .ok (.iaload, 1) := by decide +kernel
theorem dX8_passes_91 : decode cX8_passes 91 = .ok (.iconst 2, 1) := by decide +kernel
theorem dX8_passes_92 : decode cX8_passes 92 = .ok (.isub, 1) := by decide +kernel
theorem dX8_passes_93 : decode cX8_passes 93 = .ok (.if_icmp .gt 7, 3) := by decide +kernel
theorem dX8_passes_96 : decode cX8_passes 96 = .ok (.iconst 1, 1) := by decide +kernel
theorem dX8_passes_97 : decode cX8_passes 97 = .ok (.goto 4, 3) := by decide +kernel
theorem dX8_passes_100 : decode cX8_passes 100 = .ok (.iconst 0, 1) := by decide +kernel
theorem dX8_passes_101 : decode cX8_passes 101 = .ok (.istore_n 3, 1) := by decide +kernel
theorem dX8_passes_102 : decode cX8_passes 102 = .ok (.aload_n 0, 1) := by decide +kernel
theorem dX8_passes_103 : decode cX8_passes 103 = .ok (.getfield 43, 3) := by decide +kernel
theorem dX8_passes_106 : decode cX8_passes 106 = .ok (.iload_n 2, 1) := by decide +kernel
theorem dX8_passes_107 : decode cX8_passes 107 = .ok (.dup2, 1) := by decide +kernel
theorem dX8_passes_108 : decode cX8_passes 108 = .ok (.iaload, 1) := by decide +kernel
theorem dX8_passes_109 : decode cX8_passes 109 = .ok (.iload_n 3, 1) := by decide +kernel
theorem dX8_passes_110 : decode cX8_passes 110 = .ok (.ifCond .eq 7, 3) := by decide +kernel
theorem dX8_passes_113 : decode cX8_passes 113 = .ok (.iconst 1, 1) := by decide +kernel
theorem dX8_passes_114 : decode cX8_passes 114 = .ok (.goto 4, 3) := by decide +kernel
theorem dX8_passes_117 : decode cX8_passes 117 = .ok (.iconst 0, 1) := by decide +kernel
theorem dX8_passes_118 : decode cX8_passes 118 = .ok (.iadd, 1) := by decide +kernel
theorem dX8_passes_119 : decode cX8_passes 119 = .ok (.iastore, 1) := by decide +kernel
theorem dX8_passes_120 : decode cX8_passes 120 = .ok (.aload_n 0, 1) := by decide +kernel
theorem dX8_passes_121 : decode cX8_passes 121 = .ok (.getfield 46, 3) := by decide +kernel
theorem dX8_passes_124 : decode cX8_passes 124 = .ok (.iload_n 2, 1) := by decide +kernel
theorem dX8_passes_125 : decode cX8_passes 125 = .ok (.dup2, 1) := by decide +kernel
theorem dX8_passes_126 : decode cX8_passes 126 = .ok (.iaload, 1) := by decide +kernel
theorem dX8_passes_127 : decode cX8_passes 127 = .ok (.iload_n 3, 1) := by decide +kernel
theorem dX8_passes_128 : decode cX8_passes 128 = .ok (.ifCond .eq 22, 3) := by decide +kernel
theorem dX8_passes_131 : decode cX8_passes 131 = .ok (.aload_n 0, 1) := by decide +kernel
theorem dX8_passes_132 : decode cX8_passes 132 = .ok (.aload_n 0, 1) := by decide +kernel
theorem dX8_passes_133 : decode cX8_passes 133 = .ok (.getfield 31, 3) := by decide +kernel
theorem dX8_passes_136 : decode cX8_passes 136 = .ok (.iload_n 2, 1) := by decide +kernel
theorem dX8_passes_137 : decode cX8_passes 137 = .ok (.iaload, 1) := by decide +kernel
theorem dX8_passes_138 : decode cX8_passes 138 = .ok (.aload_n 0, 1) := by decide +kernel
theorem dX8_passes_139 : decode cX8_passes 139 = .ok (.getfield 34, 3) := by decide +kernel
theorem dX8_passes_142 : decode cX8_passes 142 = .ok (.iload_n 2, 1) := by decide +kernel
theorem dX8_passes_143 : decode cX8_passes 143 = .ok (.iaload, 1) := by decide +kernel
theorem dX8_passes_144 : decode cX8_passes 144 = .ok (.invokevirtual 169, 3) := by decide +kernel
theorem dX8_passes_147 : decode cX8_passes 147 = .ok (.goto 4, 3) := by decide +kernel
theorem dX8_passes_150 : decode cX8_passes 150 = .ok (.iconst 0, 1) := by decide +kernel
theorem dX8_passes_151 : decode cX8_passes 151 = .ok (.iadd, 1) := by decide +kernel
theorem dX8_passes_152 : decode cX8_passes 152 = .ok (.iastore, 1) := by decide +kernel
theorem dX8_passes_153 : decode cX8_passes 153 = .ok (.aload_n 0, 1) := by decide +kernel
theorem dX8_passes_154 : decode cX8_passes 154 = .ok (.getfield 49, 3) := by decide +kernel
theorem dX8_passes_157 : decode cX8_passes 157 = .ok (.iload_n 2, 1) := by decide +kernel
theorem dX8_passes_158 : decode cX8_passes 158 = .ok (.aload_n 0, 1) := by decide +kernel
theorem dX8_passes_159 : decode cX8_passes 159 = .ok (.getfield 31, 3) := by decide +kernel
theorem dX8_passes_162 : decode cX8_passes 162 = .ok (.iload_n 2, 1) := by decide +kernel
theorem dX8_passes_163 : decode cX8_passes 163 = .ok (.iaload, 1) := by decide +kernel
theorem dX8_passes_164 : decode cX8_passes 164 = .ok (.aload_n 0, 1) := by decide +kernel
theorem dX8_passes_165 : decode cX8_passes 165 = .ok (.getfield 49, 3) := by decide +kernel
theorem dX8_passes_168 : decode cX8_passes 168 = .ok (.iload_n 2, 1) := by decide +kernel
theorem dX8_passes_169 : decode cX8_passes 169 = .ok (.iaload, 1) := by decide +kernel
theorem dX8_passes_170 : decode cX8_passes 170 = .ok (.invokestatic 172, 3) := by decide +kernel
theorem dX8_passes_173 : decode cX8_passes 173 = .ok (.iastore, 1) := by decide +kernel
theorem dX8_passes_174 : decode cX8_passes 174 = .ok (.aload_n 0, 1) := by decide +kernel
theorem dX8_passes_175 : decode cX8_passes 175 = .ok (.getfield 55, 3) := by decide +kernel
theorem dX8_passes_178 : decode cX8_passes 178 = .ok (.bipush 8, 2) := by decide +kernel
theorem dX8_passes_180 : decode cX8_passes 180 = .ok (.iload_n 1, 1) := by decide +kernel
theorem dX8_passes_181 : decode cX8_passes 181 = .ok (.imul, 1) := by decide +kernel
theorem dX8_passes_182 : decode cX8_passes 182 = .ok (.iload_n 2, 1) := by decide +kernel
theorem dX8_passes_183 : decode cX8_passes 183 = .ok (.iadd, 1) := by decide +kernel
theorem dX8_passes_184 : decode cX8_passes 184 = .ok (.aload_n 0, 1) := by decide +kernel
theorem dX8_passes_185 : decode cX8_passes 185 = .ok (.getfield 31, 3) := by decide +kernel
theorem dX8_passes_188 : decode cX8_passes 188 = .ok (.iload_n 2, 1) := by decide +kernel
theorem dX8_passes_189 : decode cX8_passes 189 = .ok (.iaload, 1) := by decide +kernel
theorem dX8_passes_190 : decode cX8_passes 190 = .ok (.iastore, 1) := by decide +kernel
theorem dX8_passes_191 : decode cX8_passes 191 = .ok (.aload_n 0, 1) := by decide +kernel
theorem dX8_passes_192 : decode cX8_passes 192 = .ok (.getfield 58, 3) := by decide +kernel
theorem dX8_passes_195 : decode cX8_passes 195 = .ok (.bipush 8, 2) := by decide +kernel
theorem dX8_passes_197 : decode cX8_passes 197 = .ok (.iload_n 1, 1) := by decide +kernel
theorem dX8_passes_198 : decode cX8_passes 198 = .ok (.imul, 1) := by decide +kernel
theorem dX8_passes_199 : decode cX8_passes 199 = .ok (.iload_n 2, 1) := by decide +kernel
theorem dX8_passes_200 : decode cX8_passes 200 = .ok (.iadd, 1) := by decide +kernel
theorem dX8_passes_201 : decode cX8_passes 201 = .ok (.aload_n 0, 1) := by decide +kernel
theorem dX8_passes_202 : decode cX8_passes 202 = .ok (.getfield 37, 3) := by decide +kernel
theorem dX8_passes_205 : decode cX8_passes 205 = .ok (.iload_n 2, 1) := by decide +kernel
theorem dX8_passes_206 : decode cX8_passes 206 = .ok (.iaload, 1) := by decide +kernel
theorem dX8_passes_207 : decode cX8_passes 207 = .ok (.iastore, 1) := by decide +kernel
theorem dX8_passes_208 : decode cX8_passes 208 = .ok (.aload_n 0, 1) := by decide +kernel
theorem dX8_passes_209 : decode cX8_passes 209 = .ok (.getfield 61, 3) := by decide +kernel
theorem dX8_passes_212 : decode cX8_passes 212 = .ok (.bipush 8, 2) := by decide +kernel
theorem dX8_passes_214 : decode cX8_passes 214 = .ok (.iload_n 1, 1) := by decide +kernel
theorem dX8_passes_215 : decode cX8_passes 215 = .ok (.imul, 1) := by decide +kernel
theorem dX8_passes_216 : decode cX8_passes 216 = .ok (.iload_n 2, 1) := by decide +kernel
theorem dX8_passes_217 : decode cX8_passes 217 = .ok (.iadd, 1) := by decide +kernel
theorem dX8_passes_218 : decode cX8_passes 218 = .ok (.iload_n 3, 1) := by decide +kernel
theorem dX8_passes_219 : decode cX8_passes 219 = .ok (.ifCond .eq 7, 3) := by decide +kernel
theorem dX8_passes_222 : decode cX8_passes 222 = .ok (.iconst 1, 1) := by decide +kernel
theorem dX8_passes_223 : decode cX8_passes 223 = .ok (.goto 4, 3) := by decide +kernel
theorem dX8_passes_226 : decode cX8_passes 226 = .ok (.iconst 0, 1) := by decide +kernel
theorem dX8_passes_227 : decode cX8_passes 227 = .ok (.iastore, 1) := by decide +kernel
theorem dX8_passes_228 : decode cX8_passes 228 = .ok (.iinc 2 1, 3) := by decide +kernel
theorem dX8_passes_231 : decode cX8_passes 231 = .ok (.goto (-160), 3) := by decide +kernel
theorem dX8_passes_234 : decode cX8_passes 234 = .ok (.return_, 1) := by decide +kernel
theorem dX8_lives_0 : decode cX8_lives 0 = .ok (.iconst 0, 1) := by decide +kernel
theorem dX8_lives_1 : decode cX8_lives 1 = .ok (.istore_n 1, 1) := by decide +kernel
theorem dX8_lives_2 : decode cX8_lives 2 = .ok (.iload_n 1, 1) := by decide +kernel
theorem dX8_lives_3 : decode cX8_lives 3 = .ok (.aload_n 0, 1) := by decide +kernel
theorem dX8_lives_4 : decode cX8_lives 4 = .ok (.getfield 114, 3) := by decide +kernel
theorem dX8_lives_7 : decode cX8_lives 7 = .ok (.if_icmp .ge 62, 3) := by decide +kernel
theorem dX8_lives_10 : decode cX8_lives 10 = .ok (.aload_n 0, 1) := by decide +kernel
theorem dX8_lives_11 : decode cX8_lives 11 = .ok (.getfield 31, 3) := by decide +kernel
theorem dX8_lives_14 : decode cX8_lives 14 = .ok (.iload_n 1, 1) := by decide +kernel
theorem dX8_lives_15 : decode cX8_lives 15 = .ok (.iconst 0, 1) := by decide +kernel
theorem dX8_lives_16 : decode cX8_lives 16 = .ok (.iastore, 1) := by decide +kernel
theorem dX8_lives_17 : decode cX8_lives 17 = .ok (.aload_n 0, 1) := by decide +kernel
theorem dX8_lives_18 : decode cX8_lives 18 = .ok (.getfield 37, 3) := by decide +kernel
theorem dX8_lives_21 : decode cX8_lives 21 = .ok (.iload_n 1, 1) := by decide +kernel
theorem dX8_lives_22 : decode cX8_lives 22 = .ok (.iconst 3, 1) := by decide +kernel
theorem dX8_lives_23 : decode cX8_lives 23 = .ok (.aload_n 0, 1) := by decide +kernel
theorem dX8_lives_24 : decode cX8_lives 24 = .ok (.getfield 25, 3) := by decide +kernel
theorem dX8_lives_27 : decode cX8_lives 27 = .ok (.iconst 3, 1) := by decide +kernel
theorem dX8_lives_28 : decode cX8_lives 28 = .ok (.iload_n 1, 1) := by decide +kernel
theorem dX8_lives_29 : decode cX8_lives 29 = .ok (.imul, 1) := by decide +kernel
theorem dX8_lives_30 : decode cX8_lives 30 = .ok (.iconst 1, 1) := by decide +kernel
theorem dX8_lives_31 : decode cX8_lives 31 = .ok (.iadd, 1) := by decide +kernel
theorem dX8_lives_32 : decode cX8_lives 32 = .ok (.iaload, 1) := by decide +kernel
theorem dX8_lives_33 : decode cX8_lives 33 = .ok (.imul, 1) := by decide +kernel
theorem dX8_lives_34 : decode cX8_lives 34 = .ok (.iastore, 1) := by decide +kernel
theorem dX8_lives_35 : decode cX8_lives 35 = .ok (.aload_n 0, 1) := by decide +kernel
theorem dX8_lives_36 : decode cX8_lives 36 = .ok (.getfield 40, 3) := by decide +kernel
theorem dX8_lives_39 : decode cX8_lives 39 = .ok (.iload_n 1, 1) := by decide +kernel
theorem dX8_lives_40 : decode cX8_lives 40 = .ok (.iconst (-1), 1) := by decide +kernel
theorem dX8_lives_41 : decode cX8_lives 41 = .ok (.iastore, 1) := by decide +kernel
theorem dX8_lives_42 : decode cX8_lives 42 = .ok (.aload_n 0, 1) := by decide +kernel
theorem dX8_lives_43 : decode cX8_lives 43 = .ok (.getfield 43, 3) := by decide +kernel
theorem dX8_lives_46 : decode cX8_lives 46 = .ok (.iload_n 1, 1) := by decide +kernel
theorem dX8_lives_47 : decode cX8_lives 47 = .ok (.iconst 0, 1) := by decide +kernel
theorem dX8_lives_48 : decode cX8_lives 48 = .ok (.iastore, 1) := by decide +kernel
theorem dX8_lives_49 : decode cX8_lives 49 = .ok (.aload_n 0, 1) := by decide +kernel
theorem dX8_lives_50 : decode cX8_lives 50 = .ok (.getfield 46, 3) := by decide +kernel
theorem dX8_lives_53 : decode cX8_lives 53 = .ok (.iload_n 1, 1) := by decide +kernel
theorem dX8_lives_54 : decode cX8_lives 54 = .ok (.iconst 0, 1) := by decide +kernel
theorem dX8_lives_55 : decode cX8_lives 55 = .ok (.iastore, 1) := by decide +kernel
theorem dX8_lives_56 : decode cX8_lives 56 = .ok (.aload_n 0, 1) := by decide +kernel
theorem dX8_lives_57 : decode cX8_lives 57 = .ok (.getfield 49, 3) := by decide +kernel
theorem dX8_lives_60 : decode cX8_lives 60 = .ok (.iload_n 1, 1) := by decide +kernel
theorem dX8_lives_61 : decode cX8_lives 61 = .ok (.iconst (-1), 1) := by decide +kernel
theorem dX8_lives_62 : decode cX8_lives 62 = .ok (.iastore, 1) := by decide +kernel
theorem dX8_lives_63 : decode cX8_lives 63 = .ok (.iinc 1 1, 3) := by decide +kernel
theorem dX8_lives_66 : decode cX8_lives 66 = .ok (.goto (-64), 3) := by decide +kernel
theorem dX8_lives_69 : decode cX8_lives 69 = .ok (.iconst 0, 1) := by decide +kernel
theorem dX8_lives_70 : decode cX8_lives 70 = .ok (.istore_n 1, 1) := by decide +kernel
theorem dX8_lives_71 : decode cX8_lives 71 = .ok (.iload_n 1, 1) := by decide +kernel
theorem dX8_lives_72 : decode cX8_lives 72 = .ok (.bipush 24, 2) := by decide +kernel
theorem dX8_lives_74 : decode cX8_lives 74 = .ok (.if_icmp .ge 14, 3) := by decide +kernel
theorem dX8_lives_77 : decode cX8_lives 77 = .ok (.aload_n 0, 1) := by decide +kernel
theorem dX8_lives_78 : decode cX8_lives 78 = .ok (.iload_n 1, 1) := by decide +kernel
theorem dX8_lives_79 : decode cX8_lives 79 = .ok (.invokevirtual 175, 3) := by decide +kernel
theorem dX8_lives_82 : decode cX8_lives 82 = .ok (.iinc 1 1, 3) := by decide +kernel
theorem dX8_lives_85 : decode cX8_lives 85 = .ok (.goto (-14), 3) := by decide +kernel
theorem dX8_lives_88 : decode cX8_lives 88 = .ok (.return_, 1) := by decide +kernel
theorem dX8_find_0 : decode cX8_find 0 = .ok (.aload_n 0, 1) := by decide +kernel
theorem dX8_find_1 : decode cX8_find 1 = .ok (.invokevirtual 120, 3) := by decide +kernel
theorem dX8_find_4 : decode cX8_find 4 = .ok (.pop, 1) := by decide +kernel
theorem dX8_find_5 : decode cX8_find 5 = .ok (.aload_n 0, 1) := by decide +kernel
theorem dX8_find_6 : decode cX8_find 6 = .ok (.invokevirtual 178, 3) := by decide +kernel
theorem dX8_find_9 : decode cX8_find 9 = .ok (.return_, 1) := by decide +kernel
theorem dX8_owes_0 : decode cX8_owes 0 = .ok (.aload_n 0, 1) := by decide +kernel
theorem dX8_owes_1 : decode cX8_owes 1 = .ok (.getfield 55, 3) := by decide +kernel
theorem dX8_owes_4 : decode cX8_owes 4 = .ok (.iload_n 1, 1) := by decide +kernel
theorem dX8_owes_5 : decode cX8_owes 5 = .ok (.iaload, 1) := by decide +kernel
theorem dX8_owes_6 : decode cX8_owes 6 = .ok (.aload_n 0, 1) := by decide +kernel
theorem dX8_owes_7 : decode cX8_owes 7 = .ok (.getfield 58, 3) := by decide +kernel
theorem dX8_owes_10 : decode cX8_owes 10 = .ok (.iload_n 1, 1) := by decide +kernel
theorem dX8_owes_11 : decode cX8_owes 11 = .ok (.iaload, 1) := by decide +kernel
theorem dX8_owes_12 : decode cX8_owes 12 = .ok (.invokestatic 181, 3) := by decide +kernel
theorem dX8_owes_15 : decode cX8_owes 15 = .ok (.if_icmp .le 7, 3) := by decide +kernel
theorem dX8_owes_18 : decode cX8_owes 18 = .ok (.iconst 1, 1) := by decide +kernel
theorem dX8_owes_19 : decode cX8_owes 19 = .ok (.goto 4, 3) := by decide +kernel
theorem dX8_owes_22 : decode cX8_owes 22 = .ok (.iconst 0, 1) := by decide +kernel
theorem dX8_owes_23 : decode cX8_owes 23 = .ok (.ireturn, 1) := by decide +kernel
theorem dX8_atBy_0 : decode cX8_atBy 0 = .ok (.bipush 8, 2) := by decide +kernel
theorem dX8_atBy_2 : decode cX8_atBy 2 = .ok (.iload_n 1, 1) := by decide +kernel
theorem dX8_atBy_3 : decode cX8_atBy 3 = .ok (.imul, 1) := by decide +kernel
theorem dX8_atBy_4 : decode cX8_atBy 4 = .ok (.iload_n 2, 1) := by decide +kernel
theorem dX8_atBy_5 : decode cX8_atBy 5 = .ok (.iadd, 1) := by decide +kernel
theorem dX8_atBy_6 : decode cX8_atBy 6 = .ok (.istore 4, 2) := by decide +kernel
theorem dX8_atBy_8 : decode cX8_atBy 8 = .ok (.iload_n 3, 1) := by decide +kernel
theorem dX8_atBy_9 : decode cX8_atBy 9 = .ok (.ifCond .ne 13, 3) := by decide +kernel
theorem dX8_atBy_12 : decode cX8_atBy 12 = .ok (.aload_n 0, 1) := by decide +kernel
theorem dX8_atBy_13 : decode cX8_atBy 13 = .ok (.getfield 55, 3) := by decide +kernel
theorem dX8_atBy_16 : decode cX8_atBy 16 = .ok (.iload 4, 2) := by decide +kernel
theorem dX8_atBy_18 : decode cX8_atBy 18 = .ok (.iaload, 1) := by decide +kernel
theorem dX8_atBy_19 : decode cX8_atBy 19 = .ok (.goto 39, 3) := by decide +kernel
theorem dX8_atBy_22 : decode cX8_atBy 22 = .ok (.iload_n 3, 1) := by decide +kernel
theorem dX8_atBy_23 : decode cX8_atBy 23 = .ok (.iconst 1, 1) := by decide +kernel
theorem dX8_atBy_24 : decode cX8_atBy 24 = .ok (.if_icmp .ne 13, 3) := by decide +kernel
theorem dX8_atBy_27 : decode cX8_atBy 27 = .ok (.aload_n 0, 1) := by decide +kernel
theorem dX8_atBy_28 : decode cX8_atBy 28 = .ok (.getfield 58, 3) := by decide +kernel
theorem dX8_atBy_31 : decode cX8_atBy 31 = .ok (.iload 4, 2) := by decide +kernel
theorem dX8_atBy_33 : decode cX8_atBy 33 = .ok (.iaload, 1) := by decide +kernel
theorem dX8_atBy_34 : decode cX8_atBy 34 = .ok (.goto 24, 3) := by decide +kernel
theorem dX8_atBy_37 : decode cX8_atBy 37 = .ok (.iload_n 3, 1) := by decide +kernel
theorem dX8_atBy_38 : decode cX8_atBy 38 = .ok (.iconst 2, 1) := by decide +kernel
theorem dX8_atBy_39 : decode cX8_atBy 39 = .ok (.if_icmp .ne 12, 3) := by decide +kernel
theorem dX8_atBy_42 : decode cX8_atBy 42 = .ok (.aload_n 0, 1) := by decide +kernel
theorem dX8_atBy_43 : decode cX8_atBy 43 = .ok (.iload 4, 2) := by decide +kernel
theorem dX8_atBy_45 : decode cX8_atBy 45 = .ok (.invokevirtual 184, 3) := by decide +kernel
theorem dX8_atBy_48 : decode cX8_atBy 48 = .ok (.goto 10, 3) := by decide +kernel
theorem dX8_atBy_51 : decode cX8_atBy 51 = .ok (.aload_n 0, 1) := by decide +kernel
theorem dX8_atBy_52 : decode cX8_atBy 52 = .ok (.getfield 61, 3) := by decide +kernel
theorem dX8_atBy_55 : decode cX8_atBy 55 = .ok (.iload 4, 2) := by decide +kernel
theorem dX8_atBy_57 : decode cX8_atBy 57 = .ok (.iaload, 1) := by decide +kernel
theorem dX8_atBy_58 : decode cX8_atBy 58 = .ok (.ireturn, 1) := by decide +kernel
theorem dX8_at_0 : decode cX8_at 0 = .ok (.aload_n 0, 1) := by decide +kernel
theorem dX8_at_1 : decode cX8_at 1 = .ok (.invokevirtual 187, 3) := by decide +kernel
theorem dX8_at_4 : decode cX8_at 4 = .ok (.iload_n 1, 1) := by decide +kernel
theorem dX8_at_5 : decode cX8_at 5 = .ok (.invokestatic 131, 3) := by decide +kernel
theorem dX8_at_8 : decode cX8_at 8 = .ok (.ifCond .eq 33, 3) := by decide +kernel
theorem dX8_at_11 : decode cX8_at 11 = .ok (.aload_n 0, 1) := by decide +kernel
theorem dX8_at_12 : decode cX8_at 12 = .ok (.iload_n 2, 1) := by decide +kernel
theorem dX8_at_13 : decode cX8_at 13 = .ok (.invokevirtual 126, 3) := by decide +kernel
theorem dX8_at_16 : decode cX8_at 16 = .ok (.ifCond .eq 25, 3) := by decide +kernel
theorem dX8_at_19 : decode cX8_at 19 = .ok (.iload_n 3, 1) := by decide +kernel
theorem dX8_at_20 : decode cX8_at 20 = .ok (.i2l, 1) := by decide +kernel
theorem dX8_at_21 : decode cX8_at 21 = .ok (.lconst 0, 1) := by decide +kernel
theorem dX8_at_22 : decode cX8_at 22 = .ok (.ldc2_w 84, 3) := by decide +kernel
theorem dX8_at_25 : decode cX8_at 25 = .ok (.invokestatic 77, 3) := by decide +kernel
theorem dX8_at_28 : decode cX8_at 28 = .ok (.ifCond .eq 13, 3) := by decide +kernel
theorem dX8_at_31 : decode cX8_at 31 = .ok (.aload_n 0, 1) := by decide +kernel
theorem dX8_at_32 : decode cX8_at 32 = .ok (.iload_n 1, 1) := by decide +kernel
theorem dX8_at_33 : decode cX8_at 33 = .ok (.iload_n 2, 1) := by decide +kernel
theorem dX8_at_34 : decode cX8_at 34 = .ok (.iload_n 3, 1) := by decide +kernel
theorem dX8_at_35 : decode cX8_at 35 = .ok (.invokevirtual 190, 3) := by decide +kernel
theorem dX8_at_38 : decode cX8_at 38 = .ok (.goto 5, 3) := by decide +kernel
theorem dX8_at_41 : decode cX8_at 41 = .ok (.ldc 104, 2) := by decide +kernel
theorem dX8_at_43 : decode cX8_at 43 = .ok (.ireturn, 1) := by decide +kernel
theorem dX8_liveBy_0 : decode cX8_liveBy 0 = .ok (.iconst 0, 1) := by decide +kernel
theorem dX8_liveBy_1 : decode cX8_liveBy 1 = .ok (.istore_n 3, 1) := by decide +kernel
theorem dX8_liveBy_2 : decode cX8_liveBy 2 = .ok (.iconst 0, 1) := by decide +kernel
theorem dX8_liveBy_3 : decode cX8_liveBy 3 = .ok (.istore 4, 2) := by decide +kernel
theorem dX8_liveBy_5 : decode cX8_liveBy 5 = .ok (.iload 4, 2) := by decide +kernel
theorem dX8_liveBy_7 : decode cX8_liveBy 7 = .ok (.aload_n 0, 1) := by decide +kernel
theorem dX8_liveBy_8 : decode cX8_liveBy 8 = .ok (.getfield 114, 3) := by decide +kernel
theorem dX8_liveBy_11 : decode cX8_liveBy 11 = .ok (.if_icmp .ge 36, 3) := by decide +kernel
theorem dX8_liveBy_14 : decode cX8_liveBy 14 = .ok (.iload_n 3, 1) := by decide +kernel
theorem dX8_liveBy_15 : decode cX8_liveBy 15 = .ok (.aload_n 0, 1) := by decide +kernel
theorem dX8_liveBy_16 : decode cX8_liveBy 16 = .ok (.getfield 55, 3) := by decide +kernel
theorem dX8_liveBy_19 : decode cX8_liveBy 19 = .ok (.bipush 8, 2) := by decide +kernel
theorem dX8_liveBy_21 : decode cX8_liveBy 21 = .ok (.iload_n 1, 1) := by decide +kernel
theorem dX8_liveBy_22 : decode cX8_liveBy 22 = .ok (.imul, 1) := by decide +kernel
theorem dX8_liveBy_23 : decode cX8_liveBy 23 = .ok (.iload 4, 2) := by decide +kernel
theorem dX8_liveBy_25 : decode cX8_liveBy 25 = .ok (.iadd, 1) := by decide +kernel
theorem dX8_liveBy_26 : decode cX8_liveBy 26 = .ok (.iaload, 1) := by decide +kernel
theorem dX8_liveBy_27 : decode cX8_liveBy 27 = .ok (.iload_n 2, 1) := by decide +kernel
theorem dX8_liveBy_28 : decode cX8_liveBy 28 = .ok (.if_icmp .ne 10, 3) := by decide +kernel
theorem dX8_liveBy_31 : decode cX8_liveBy 31 = .ok (.iconst 1, 1) := by decide +kernel
theorem dX8_liveBy_32 : decode cX8_liveBy 32 = .ok (.iload 4, 2) := by decide +kernel
theorem dX8_liveBy_34 : decode cX8_liveBy 34 = .ok (.ishl, 1) := by decide +kernel
theorem dX8_liveBy_35 : decode cX8_liveBy 35 = .ok (.goto 4, 3) := by decide +kernel
theorem dX8_liveBy_38 : decode cX8_liveBy 38 = .ok (.iconst 0, 1) := by decide +kernel
theorem dX8_liveBy_39 : decode cX8_liveBy 39 = .ok (.ior, 1) := by decide +kernel
theorem dX8_liveBy_40 : decode cX8_liveBy 40 = .ok (.istore_n 3, 1) := by decide +kernel
theorem dX8_liveBy_41 : decode cX8_liveBy 41 = .ok (.iinc 4 1, 3) := by decide +kernel
theorem dX8_liveBy_44 : decode cX8_liveBy 44 = .ok (.goto (-39), 3) := by decide +kernel
theorem dX8_liveBy_47 : decode cX8_liveBy 47 = .ok (.iload_n 3, 1) := by decide +kernel
theorem dX8_liveBy_48 : decode cX8_liveBy 48 = .ok (.ireturn, 1) := by decide +kernel
theorem dX8_live_0 : decode cX8_live 0 = .ok (.aload_n 0, 1) := by decide +kernel
theorem dX8_live_1 : decode cX8_live 1 = .ok (.invokevirtual 187, 3) := by decide +kernel
theorem dX8_live_4 : decode cX8_live 4 = .ok (.iload_n 1, 1) := by decide +kernel
theorem dX8_live_5 : decode cX8_live 5 = .ok (.invokestatic 131, 3) := by decide +kernel
theorem dX8_live_8 : decode cX8_live 8 = .ok (.ifCond .eq 24, 3) := by decide +kernel
theorem dX8_live_11 : decode cX8_live 11 = .ok (.iload_n 2, 1) := by decide +kernel
theorem dX8_live_12 : decode cX8_live 12 = .ok (.i2l, 1) := by decide +kernel
theorem dX8_live_13 : decode cX8_live 13 = .ok (.lconst 0, 1) := by decide +kernel
theorem dX8_live_14 : decode cX8_live 14 = .ok (.ldc2_w 193, 3) := by decide +kernel
theorem dX8_live_17 : decode cX8_live 17 = .ok (.invokestatic 77, 3) := by decide +kernel
theorem dX8_live_20 : decode cX8_live 20 = .ok (.ifCond .eq 12, 3) := by decide +kernel
theorem dX8_live_23 : decode cX8_live 23 = .ok (.aload_n 0, 1) := by decide +kernel
theorem dX8_live_24 : decode cX8_live 24 = .ok (.iload_n 1, 1) := by decide +kernel
theorem dX8_live_25 : decode cX8_live 25 = .ok (.iload_n 2, 1) := by decide +kernel
theorem dX8_live_26 : decode cX8_live 26 = .ok (.invokevirtual 195, 3) := by decide +kernel
theorem dX8_live_29 : decode cX8_live 29 = .ok (.goto 5, 3) := by decide +kernel
theorem dX8_live_32 : decode cX8_live 32 = .ok (.bipush (-2), 2) := by decide +kernel
theorem dX8_live_34 : decode cX8_live 34 = .ok (.ireturn, 1) := by decide +kernel
theorem dX8_liftBy_0 : decode cX8_liftBy 0 = .ok (.iconst 0, 1) := by decide +kernel
theorem dX8_liftBy_1 : decode cX8_liftBy 1 = .ok (.istore_n 2, 1) := by decide +kernel
theorem dX8_liftBy_2 : decode cX8_liftBy 2 = .ok (.iconst 0, 1) := by decide +kernel
theorem dX8_liftBy_3 : decode cX8_liftBy 3 = .ok (.istore_n 3, 1) := by decide +kernel
theorem dX8_liftBy_4 : decode cX8_liftBy 4 = .ok (.iconst 0, 1) := by decide +kernel
theorem dX8_liftBy_5 : decode cX8_liftBy 5 = .ok (.istore 4, 2) := by decide +kernel
theorem dX8_liftBy_7 : decode cX8_liftBy 7 = .ok (.iload 4, 2) := by decide +kernel
theorem dX8_liftBy_9 : decode cX8_liftBy 9 = .ok (.aload_n 0, 1) := by decide +kernel
theorem dX8_liftBy_10 : decode cX8_liftBy 10 = .ok (.getfield 114, 3) := by decide +kernel
theorem dX8_liftBy_13 : decode cX8_liftBy 13 = .ok (.if_icmp .ge 70, 3) := by decide +kernel
theorem dX8_liftBy_16 : decode cX8_liftBy 16 = .ok (.bipush 8, 2) := by decide +kernel
theorem dX8_liftBy_18 : decode cX8_liftBy 18 = .ok (.iload_n 1, 1) := by decide +kernel
theorem dX8_liftBy_19 : decode cX8_liftBy 19 = .ok (.imul, 1) := by decide +kernel
theorem dX8_liftBy_20 : decode cX8_liftBy 20 = .ok (.iload 4, 2) := by decide +kernel
theorem dX8_liftBy_22 : decode cX8_liftBy 22 = .ok (.iadd, 1) := by decide +kernel
theorem dX8_liftBy_23 : decode cX8_liftBy 23 = .ok (.istore 5, 2) := by decide +kernel
theorem dX8_liftBy_25 : decode cX8_liftBy 25 = .ok (.iload_n 2, 1) := by decide +kernel
theorem dX8_liftBy_26 : decode cX8_liftBy 26 = .ok (.aload_n 0, 1) := by decide +kernel
theorem dX8_liftBy_27 : decode cX8_liftBy 27 = .ok (.getfield 55, 3) := by decide +kernel
theorem dX8_liftBy_30 : decode cX8_liftBy 30 = .ok (.iload 5, 2) := by decide +kernel
theorem dX8_liftBy_32 : decode cX8_liftBy 32 = .ok (.iaload, 1) := by decide +kernel
theorem dX8_liftBy_33 : decode cX8_liftBy 33 = .ok (.ifCond .le 15, 3) := by decide +kernel
theorem dX8_liftBy_36 : decode cX8_liftBy 36 = .ok (.iconst 1, 1) := by decide +kernel
theorem dX8_liftBy_37 : decode cX8_liftBy 37 = .ok (.aload_n 0, 1) := by decide +kernel
theorem dX8_liftBy_38 : decode cX8_liftBy 38 = .ok (.getfield 55, 3) := by decide +kernel
theorem dX8_liftBy_41 : decode cX8_liftBy 41 = .ok (.iload 5, 2) := by decide +kernel
theorem dX8_liftBy_43 : decode cX8_liftBy 43 = .ok (.iaload, 1) := by decide +kernel
theorem dX8_liftBy_44 : decode cX8_liftBy 44 = .ok (.ishl, 1) := by decide +kernel
theorem dX8_liftBy_45 : decode cX8_liftBy 45 = .ok (.goto 4, 3) := by decide +kernel
theorem dX8_liftBy_48 : decode cX8_liftBy 48 = .ok (.iconst 0, 1) := by decide +kernel
theorem dX8_liftBy_49 : decode cX8_liftBy 49 = .ok (.ior, 1) := by decide +kernel
theorem dX8_liftBy_50 : decode cX8_liftBy 50 = .ok (.istore_n 2, 1) := by decide +kernel
theorem dX8_liftBy_51 : decode cX8_liftBy 51 = .ok (.iload_n 3, 1) := by decide +kernel
theorem dX8_liftBy_52 : decode cX8_liftBy 52 = .ok (.aload_n 0, 1) := by decide +kernel
theorem dX8_liftBy_53 : decode cX8_liftBy 53 = .ok (.iload 5, 2) := by decide +kernel
theorem dX8_liftBy_55 : decode cX8_liftBy 55 = .ok (.invokevirtual 184, 3) := by decide +kernel
theorem dX8_liftBy_58 : decode cX8_liftBy 58 = .ok (.iconst 1, 1) := by decide +kernel
theorem dX8_liftBy_59 : decode cX8_liftBy 59 = .ok (.if_icmp .ne 15, 3) := by decide +kernel
theorem dX8_liftBy_62 : decode cX8_liftBy 62 = .ok (.iconst 1, 1) := by decide +kernel
theorem dX8_liftBy_63 : decode cX8_liftBy 63 = .ok (.aload_n 0, 1) := by decide +kernel
theorem dX8_liftBy_64 : decode cX8_liftBy 64 = .ok (.getfield 55, 3) := by decide +kernel
theorem dX8_liftBy_67 : decode cX8_liftBy 67 = .ok (.iload 5, 2) := by decide +kernel
theorem dX8_liftBy_69 : decode cX8_liftBy 69 = .ok (.iaload, 1) := by decide +kernel
theorem dX8_liftBy_70 : decode cX8_liftBy 70 = .ok (.ishl, 1) := by decide +kernel
theorem dX8_liftBy_71 : decode cX8_liftBy 71 = .ok (.goto 4, 3) := by decide +kernel
theorem dX8_liftBy_74 : decode cX8_liftBy 74 = .ok (.iconst 0, 1) := by decide +kernel
theorem dX8_liftBy_75 : decode cX8_liftBy 75 = .ok (.ior, 1) := by decide +kernel
theorem dX8_liftBy_76 : decode cX8_liftBy 76 = .ok (.istore_n 3, 1) := by decide +kernel
theorem dX8_liftBy_77 : decode cX8_liftBy 77 = .ok (.iinc 4 1, 3) := by decide +kernel
theorem dX8_liftBy_80 : decode cX8_liftBy 80 = .ok (.goto (-73), 3) := by decide +kernel
theorem dX8_liftBy_83 : decode cX8_liftBy 83 = .ok (.iload_n 2, 1) := by decide +kernel
theorem dX8_liftBy_84 : decode cX8_liftBy 84 = .ok (.iload_n 3, 1) := by decide +kernel
theorem dX8_liftBy_85 : decode cX8_liftBy 85 = .ok (.iconst (-1), 1) := by decide +kernel
theorem dX8_liftBy_86 : decode cX8_liftBy 86 = .ok (.ixor, 1) := by decide +kernel
theorem dX8_liftBy_87 : decode cX8_liftBy 87 = .ok (.iand, 1) := by decide +kernel
theorem dX8_liftBy_88 : decode cX8_liftBy 88 = .ok (.ireturn, 1) := by decide +kernel
theorem dX8_lift_0 : decode cX8_lift 0 = .ok (.aload_n 0, 1) := by decide +kernel
theorem dX8_lift_1 : decode cX8_lift 1 = .ok (.invokevirtual 187, 3) := by decide +kernel
theorem dX8_lift_4 : decode cX8_lift 4 = .ok (.iload_n 1, 1) := by decide +kernel
theorem dX8_lift_5 : decode cX8_lift 5 = .ok (.invokestatic 131, 3) := by decide +kernel
theorem dX8_lift_8 : decode cX8_lift 8 = .ok (.ifCond .eq 11, 3) := by decide +kernel
theorem dX8_lift_11 : decode cX8_lift 11 = .ok (.aload_n 0, 1) := by decide +kernel
theorem dX8_lift_12 : decode cX8_lift 12 = .ok (.iload_n 1, 1) := by decide +kernel
theorem dX8_lift_13 : decode cX8_lift 13 = .ok (.invokevirtual 198, 3) := by decide +kernel
theorem dX8_lift_16 : decode cX8_lift 16 = .ok (.goto 5, 3) := by decide +kernel
theorem dX8_lift_19 : decode cX8_lift 19 = .ok (.bipush (-2), 2) := by decide +kernel
theorem dX8_lift_21 : decode cX8_lift 21 = .ok (.ireturn, 1) := by decide +kernel
theorem dX8_endsBy_0 : decode cX8_endsBy 0 = .ok (.iload_n 2, 1) := by decide +kernel
theorem dX8_endsBy_1 : decode cX8_endsBy 1 = .ok (.ifCond .ne 12, 3) := by decide +kernel
theorem dX8_endsBy_4 : decode cX8_endsBy 4 = .ok (.aload_n 0, 1) := by decide +kernel
theorem dX8_endsBy_5 : decode cX8_endsBy 5 = .ok (.getfield 40, 3) := by decide +kernel
theorem dX8_endsBy_8 : decode cX8_endsBy 8 = .ok (.iload_n 1, 1) := by decide +kernel
theorem dX8_endsBy_9 : decode cX8_endsBy 9 = .ok (.iaload, 1) := by decide +kernel
theorem dX8_endsBy_10 : decode cX8_endsBy 10 = .ok (.goto 37, 3) := by decide +kernel
theorem dX8_endsBy_13 : decode cX8_endsBy 13 = .ok (.iload_n 2, 1) := by decide +kernel
theorem dX8_endsBy_14 : decode cX8_endsBy 14 = .ok (.iconst 1, 1) := by decide +kernel
theorem dX8_endsBy_15 : decode cX8_endsBy 15 = .ok (.if_icmp .ne 12, 3) := by decide +kernel
theorem dX8_endsBy_18 : decode cX8_endsBy 18 = .ok (.aload_n 0, 1) := by decide +kernel
theorem dX8_endsBy_19 : decode cX8_endsBy 19 = .ok (.getfield 43, 3) := by decide +kernel
theorem dX8_endsBy_22 : decode cX8_endsBy 22 = .ok (.iload_n 1, 1) := by decide +kernel
theorem dX8_endsBy_23 : decode cX8_endsBy 23 = .ok (.iaload, 1) := by decide +kernel
theorem dX8_endsBy_24 : decode cX8_endsBy 24 = .ok (.goto 23, 3) := by decide +kernel
theorem dX8_endsBy_27 : decode cX8_endsBy 27 = .ok (.iload_n 2, 1) := by decide +kernel
theorem dX8_endsBy_28 : decode cX8_endsBy 28 = .ok (.iconst 2, 1) := by decide +kernel
theorem dX8_endsBy_29 : decode cX8_endsBy 29 = .ok (.if_icmp .ne 12, 3) := by decide +kernel
theorem dX8_endsBy_32 : decode cX8_endsBy 32 = .ok (.aload_n 0, 1) := by decide +kernel
theorem dX8_endsBy_33 : decode cX8_endsBy 33 = .ok (.getfield 46, 3) := by decide +kernel
theorem dX8_endsBy_36 : decode cX8_endsBy 36 = .ok (.iload_n 1, 1) := by decide +kernel
theorem dX8_endsBy_37 : decode cX8_endsBy 37 = .ok (.iaload, 1) := by decide +kernel
theorem dX8_endsBy_38 : decode cX8_endsBy 38 = .ok (.goto 9, 3) := by decide +kernel
theorem dX8_endsBy_41 : decode cX8_endsBy 41 = .ok (.aload_n 0, 1) := by decide +kernel
theorem dX8_endsBy_42 : decode cX8_endsBy 42 = .ok (.getfield 49, 3) := by decide +kernel
theorem dX8_endsBy_45 : decode cX8_endsBy 45 = .ok (.iload_n 1, 1) := by decide +kernel
theorem dX8_endsBy_46 : decode cX8_endsBy 46 = .ok (.iaload, 1) := by decide +kernel
theorem dX8_endsBy_47 : decode cX8_endsBy 47 = .ok (.ireturn, 1) := by decide +kernel
theorem dX8_ends_0 : decode cX8_ends 0 = .ok (.aload_n 0, 1) := by decide +kernel
theorem dX8_ends_1 : decode cX8_ends 1 = .ok (.invokevirtual 187, 3) := by decide +kernel
theorem dX8_ends_4 : decode cX8_ends 4 = .ok (.aload_n 0, 1) := by decide +kernel
theorem dX8_ends_5 : decode cX8_ends 5 = .ok (.iload_n 1, 1) := by decide +kernel
theorem dX8_ends_6 : decode cX8_ends 6 = .ok (.invokevirtual 126, 3) := by decide +kernel
theorem dX8_ends_9 : decode cX8_ends 9 = .ok (.ifCond .eq 24, 3) := by decide +kernel
theorem dX8_ends_12 : decode cX8_ends 12 = .ok (.iload_n 2, 1) := by decide +kernel
theorem dX8_ends_13 : decode cX8_ends 13 = .ok (.i2l, 1) := by decide +kernel
theorem dX8_ends_14 : decode cX8_ends 14 = .ok (.lconst 0, 1) := by decide +kernel
theorem dX8_ends_15 : decode cX8_ends 15 = .ok (.ldc2_w 84, 3) := by decide +kernel
theorem dX8_ends_18 : decode cX8_ends 18 = .ok (.invokestatic 77, 3) := by decide +kernel
theorem dX8_ends_21 : decode cX8_ends 21 = .ok (.ifCond .eq 12, 3) := by decide +kernel
theorem dX8_ends_24 : decode cX8_ends 24 = .ok (.aload_n 0, 1) := by decide +kernel
theorem dX8_ends_25 : decode cX8_ends 25 = .ok (.iload_n 1, 1) := by decide +kernel
theorem dX8_ends_26 : decode cX8_ends 26 = .ok (.iload_n 2, 1) := by decide +kernel
theorem dX8_ends_27 : decode cX8_ends 27 = .ok (.invokevirtual 201, 3) := by decide +kernel
theorem dX8_ends_30 : decode cX8_ends 30 = .ok (.goto 5, 3) := by decide +kernel
theorem dX8_ends_33 : decode cX8_ends 33 = .ok (.ldc 104, 2) := by decide +kernel
theorem dX8_ends_35 : decode cX8_ends 35 = .ok (.ireturn, 1) := by decide +kernel
theorem dX8_manySettled_0 : decode cX8_manySettled 0 = .ok (.iconst 0, 1) := by decide +kernel
theorem dX8_manySettled_1 : decode cX8_manySettled 1 = .ok (.istore_n 1, 1) := by decide +kernel
theorem dX8_manySettled_2 : decode cX8_manySettled 2 = .ok (.iconst 0, 1) := by decide +kernel
theorem dX8_manySettled_3 : decode cX8_manySettled 3 = .ok (.istore_n 2, 1) := by decide +kernel
theorem dX8_manySettled_4 : decode cX8_manySettled 4 = .ok (.iload_n 2, 1) := by decide +kernel
theorem dX8_manySettled_5 : decode cX8_manySettled 5 = .ok (.aload_n 0, 1) := by decide +kernel
theorem dX8_manySettled_6 : decode cX8_manySettled 6 = .ok (.getfield 114, 3) := by decide +kernel
theorem dX8_manySettled_9 : decode cX8_manySettled 9 = .ok (.if_icmp .ge 27, 3) := by decide +kernel
theorem dX8_manySettled_12 : decode cX8_manySettled 12 = .ok (.iload_n 1, 1) := by decide +kernel
theorem dX8_manySettled_13 : decode cX8_manySettled 13 = .ok (.aload_n 0, 1) := by decide +kernel
theorem dX8_manySettled_14 : decode cX8_manySettled 14 = .ok (.getfield 40, 3) := by decide +kernel
theorem dX8_manySettled_17 : decode cX8_manySettled 17 = .ok (.iload_n 2, 1) := by decide +kernel
theorem dX8_manySettled_18 : decode cX8_manySettled 18 = .ok (.iaload, 1) := by decide +kernel
theorem dX8_manySettled_19 : decode cX8_manySettled 19 = .ok (.iconst (-1), 1) := by decide +kernel
theorem dX8_manySettled_20 : decode cX8_manySettled 20 = .ok (.if_icmp .eq 7, 3) := by decide +kernel
theorem dX8_manySettled_23 : decode cX8_manySettled 23 = .ok (.iconst 1, 1) := by decide +kernel
theorem dX8_manySettled_24 : decode cX8_manySettled 24 = .ok (.goto 4, 3) := by decide +kernel
theorem dX8_manySettled_27 : decode cX8_manySettled 27 = .ok (.iconst 0, 1) := by decide +kernel
theorem dX8_manySettled_28 : decode cX8_manySettled 28 = .ok (.iadd, 1) := by decide +kernel
theorem dX8_manySettled_29 : decode cX8_manySettled 29 = .ok (.istore_n 1, 1) := by decide +kernel
theorem dX8_manySettled_30 : decode cX8_manySettled 30 = .ok (.iinc 2 1, 3) := by decide +kernel
theorem dX8_manySettled_33 : decode cX8_manySettled 33 = .ok (.goto (-29), 3) := by decide +kernel
theorem dX8_manySettled_36 : decode cX8_manySettled 36 = .ok (.iload_n 1, 1) := by decide +kernel
theorem dX8_manySettled_37 : decode cX8_manySettled 37 = .ok (.ireturn, 1) := by decide +kernel
theorem dX8_allFell_0 : decode cX8_allFell 0 = .ok (.iconst 0, 1) := by decide +kernel
theorem dX8_allFell_1 : decode cX8_allFell 1 = .ok (.istore_n 1, 1) := by decide +kernel
theorem dX8_allFell_2 : decode cX8_allFell 2 = .ok (.iconst 0, 1) := by decide +kernel
theorem dX8_allFell_3 : decode cX8_allFell 3 = .ok (.istore_n 2, 1) := by decide +kernel
theorem dX8_allFell_4 : decode cX8_allFell 4 = .ok (.iload_n 2, 1) := by decide +kernel
theorem dX8_allFell_5 : decode cX8_allFell 5 = .ok (.aload_n 0, 1) := by decide +kernel
theorem dX8_allFell_6 : decode cX8_allFell 6 = .ok (.getfield 114, 3) := by decide +kernel
theorem dX8_allFell_9 : decode cX8_allFell 9 = .ok (.if_icmp .ge 18, 3) := by decide +kernel
theorem dX8_allFell_12 : decode cX8_allFell 12 = .ok (.iload_n 1, 1) := by decide +kernel
theorem dX8_allFell_13 : decode cX8_allFell 13 = .ok (.aload_n 0, 1) := by decide +kernel
theorem dX8_allFell_14 : decode cX8_allFell 14 = .ok (.getfield 43, 3) := by decide +kernel
theorem dX8_allFell_17 : decode cX8_allFell 17 = .ok (.iload_n 2, 1) := by decide +kernel
theorem dX8_allFell_18 : decode cX8_allFell 18 = .ok (.iaload, 1) := by decide +kernel
theorem dX8_allFell_19 : decode cX8_allFell 19 = .ok (.iadd, 1) := by decide +kernel
theorem dX8_allFell_20 : decode cX8_allFell 20 = .ok (.istore_n 1, 1) := by decide +kernel
theorem dX8_allFell_21 : decode cX8_allFell 21 = .ok (.iinc 2 1, 3) := by decide +kernel
theorem dX8_allFell_24 : decode cX8_allFell 24 = .ok (.goto (-20), 3) := by decide +kernel
theorem dX8_allFell_27 : decode cX8_allFell 27 = .ok (.iload_n 1, 1) := by decide +kernel
theorem dX8_allFell_28 : decode cX8_allFell 28 = .ok (.ireturn, 1) := by decide +kernel
theorem dX8_allPast_0 : decode cX8_allPast 0 = .ok (.iconst 0, 1) := by decide +kernel
theorem dX8_allPast_1 : decode cX8_allPast 1 = .ok (.istore_n 1, 1) := by decide +kernel
theorem dX8_allPast_2 : decode cX8_allPast 2 = .ok (.iconst 0, 1) := by decide +kernel
theorem dX8_allPast_3 : decode cX8_allPast 3 = .ok (.istore_n 2, 1) := by decide +kernel
theorem dX8_allPast_4 : decode cX8_allPast 4 = .ok (.iload_n 2, 1) := by decide +kernel
theorem dX8_allPast_5 : decode cX8_allPast 5 = .ok (.aload_n 0, 1) := by decide +kernel
theorem dX8_allPast_6 : decode cX8_allPast 6 = .ok (.getfield 114, 3) := by decide +kernel
theorem dX8_allPast_9 : decode cX8_allPast 9 = .ok (.if_icmp .ge 18, 3) := by decide +kernel
theorem dX8_allPast_12 : decode cX8_allPast 12 = .ok (.iload_n 1, 1) := by decide +kernel
theorem dX8_allPast_13 : decode cX8_allPast 13 = .ok (.aload_n 0, 1) := by decide +kernel
theorem dX8_allPast_14 : decode cX8_allPast 14 = .ok (.getfield 46, 3) := by decide +kernel
theorem dX8_allPast_17 : decode cX8_allPast 17 = .ok (.iload_n 2, 1) := by decide +kernel
theorem dX8_allPast_18 : decode cX8_allPast 18 = .ok (.iaload, 1) := by decide +kernel
theorem dX8_allPast_19 : decode cX8_allPast 19 = .ok (.iadd, 1) := by decide +kernel
theorem dX8_allPast_20 : decode cX8_allPast 20 = .ok (.istore_n 1, 1) := by decide +kernel
theorem dX8_allPast_21 : decode cX8_allPast 21 = .ok (.iinc 2 1, 3) := by decide +kernel
theorem dX8_allPast_24 : decode cX8_allPast 24 = .ok (.goto (-20), 3) := by decide +kernel
theorem dX8_allPast_27 : decode cX8_allPast 27 = .ok (.iload_n 1, 1) := by decide +kernel
theorem dX8_allPast_28 : decode cX8_allPast 28 = .ok (.ireturn, 1) := by decide +kernel
theorem dX8_allOwed_0 : decode cX8_allOwed 0 = .ok (.iconst 0, 1) := by decide +kernel
theorem dX8_allOwed_1 : decode cX8_allOwed 1 = .ok (.istore_n 1, 1) := by decide +kernel
theorem dX8_allOwed_2 : decode cX8_allOwed 2 = .ok (.iconst 0, 1) := by decide +kernel
theorem dX8_allOwed_3 : decode cX8_allOwed 3 = .ok (.istore_n 2, 1) := by decide +kernel
theorem dX8_allOwed_4 : decode cX8_allOwed 4 = .ok (.iload_n 2, 1) := by decide +kernel
theorem dX8_allOwed_5 : decode cX8_allOwed 5 = .ok (.bipush 24, 2) := by decide +kernel
theorem dX8_allOwed_7 : decode cX8_allOwed 7 = .ok (.if_icmp .ge 38, 3) := by decide +kernel
theorem dX8_allOwed_10 : decode cX8_allOwed 10 = .ok (.iconst 0, 1) := by decide +kernel
theorem dX8_allOwed_11 : decode cX8_allOwed 11 = .ok (.istore_n 3, 1) := by decide +kernel
theorem dX8_allOwed_12 : decode cX8_allOwed 12 = .ok (.iload_n 3, 1) := by decide +kernel
theorem dX8_allOwed_13 : decode cX8_allOwed 13 = .ok (.aload_n 0, 1) := by decide +kernel
theorem dX8_allOwed_14 : decode cX8_allOwed 14 = .ok (.getfield 114, 3) := by decide +kernel
theorem dX8_allOwed_17 : decode cX8_allOwed 17 = .ok (.if_icmp .ge 22, 3) := by decide +kernel
theorem dX8_allOwed_20 : decode cX8_allOwed 20 = .ok (.iload_n 1, 1) := by decide +kernel
theorem dX8_allOwed_21 : decode cX8_allOwed 21 = .ok (.aload_n 0, 1) := by decide +kernel
theorem dX8_allOwed_22 : decode cX8_allOwed 22 = .ok (.bipush 8, 2) := by decide +kernel
theorem dX8_allOwed_24 : decode cX8_allOwed 24 = .ok (.iload_n 2, 1) := by decide +kernel
theorem dX8_allOwed_25 : decode cX8_allOwed 25 = .ok (.imul, 1) := by decide +kernel
theorem dX8_allOwed_26 : decode cX8_allOwed 26 = .ok (.iload_n 3, 1) := by decide +kernel
theorem dX8_allOwed_27 : decode cX8_allOwed 27 = .ok (.iadd, 1) := by decide +kernel
theorem dX8_allOwed_28 : decode cX8_allOwed 28 = .ok (.invokevirtual 184, 3) := by decide +kernel
theorem dX8_allOwed_31 : decode cX8_allOwed 31 = .ok (.iadd, 1) := by decide +kernel
theorem dX8_allOwed_32 : decode cX8_allOwed 32 = .ok (.istore_n 1, 1) := by decide +kernel
theorem dX8_allOwed_33 : decode cX8_allOwed 33 = .ok (.iinc 3 1, 3) := by decide +kernel
theorem dX8_allOwed_36 : decode cX8_allOwed 36 = .ok (.goto (-24), 3) := by decide +kernel
theorem dX8_allOwed_39 : decode cX8_allOwed 39 = .ok (.iinc 2 1, 3) := by decide +kernel
theorem dX8_allOwed_42 : decode cX8_allOwed 42 = .ok (.goto (-38), 3) := by decide +kernel
theorem dX8_allOwed_45 : decode cX8_allOwed 45 = .ok (.iload_n 1, 1) := by decide +kernel
theorem dX8_allOwed_46 : decode cX8_allOwed 46 = .ok (.ireturn, 1) := by decide +kernel
theorem dX8_sumBy_0 : decode cX8_sumBy 0 = .ok (.iload_n 1, 1) := by decide +kernel
theorem dX8_sumBy_1 : decode cX8_sumBy 1 = .ok (.ifCond .ne 10, 3) := by decide +kernel
theorem dX8_sumBy_4 : decode cX8_sumBy 4 = .ok (.aload_n 0, 1) := by decide +kernel
theorem dX8_sumBy_5 : decode cX8_sumBy 5 = .ok (.invokevirtual 204, 3) := by decide +kernel
theorem dX8_sumBy_8 : decode cX8_sumBy 8 = .ok (.goto 31, 3) := by decide +kernel
theorem dX8_sumBy_11 : decode cX8_sumBy 11 = .ok (.iload_n 1, 1) := by decide +kernel
theorem dX8_sumBy_12 : decode cX8_sumBy 12 = .ok (.iconst 1, 1) := by decide +kernel
theorem dX8_sumBy_13 : decode cX8_sumBy 13 = .ok (.if_icmp .ne 10, 3) := by decide +kernel
theorem dX8_sumBy_16 : decode cX8_sumBy 16 = .ok (.aload_n 0, 1) := by decide +kernel
theorem dX8_sumBy_17 : decode cX8_sumBy 17 = .ok (.invokevirtual 207, 3) := by decide +kernel
theorem dX8_sumBy_20 : decode cX8_sumBy 20 = .ok (.goto 19, 3) := by decide +kernel
theorem dX8_sumBy_23 : decode cX8_sumBy 23 = .ok (.iload_n 1, 1) := by decide +kernel
theorem dX8_sumBy_24 : decode cX8_sumBy 24 = .ok (.iconst 2, 1) := by decide +kernel
theorem dX8_sumBy_25 : decode cX8_sumBy 25 = .ok (.if_icmp .ne 10, 3) := by decide +kernel
theorem dX8_sumBy_28 : decode cX8_sumBy 28 = .ok (.aload_n 0, 1) := by decide +kernel
theorem dX8_sumBy_29 : decode cX8_sumBy 29 = .ok (.invokevirtual 210, 3) := by decide +kernel
theorem dX8_sumBy_32 : decode cX8_sumBy 32 = .ok (.goto 7, 3) := by decide +kernel
theorem dX8_sumBy_35 : decode cX8_sumBy 35 = .ok (.aload_n 0, 1) := by decide +kernel
theorem dX8_sumBy_36 : decode cX8_sumBy 36 = .ok (.invokevirtual 213, 3) := by decide +kernel
theorem dX8_sumBy_39 : decode cX8_sumBy 39 = .ok (.ireturn, 1) := by decide +kernel
theorem dX8_sum_0 : decode cX8_sum 0 = .ok (.aload_n 0, 1) := by decide +kernel
theorem dX8_sum_1 : decode cX8_sum 1 = .ok (.invokevirtual 187, 3) := by decide +kernel
theorem dX8_sum_4 : decode cX8_sum 4 = .ok (.iload_n 1, 1) := by decide +kernel
theorem dX8_sum_5 : decode cX8_sum 5 = .ok (.i2l, 1) := by decide +kernel
theorem dX8_sum_6 : decode cX8_sum 6 = .ok (.lconst 0, 1) := by decide +kernel
theorem dX8_sum_7 : decode cX8_sum 7 = .ok (.ldc2_w 84, 3) := by decide +kernel
theorem dX8_sum_10 : decode cX8_sum 10 = .ok (.invokestatic 77, 3) := by decide +kernel
theorem dX8_sum_13 : decode cX8_sum 13 = .ok (.ifCond .eq 11, 3) := by decide +kernel
theorem dX8_sum_16 : decode cX8_sum 16 = .ok (.aload_n 0, 1) := by decide +kernel
theorem dX8_sum_17 : decode cX8_sum 17 = .ok (.iload_n 1, 1) := by decide +kernel
theorem dX8_sum_18 : decode cX8_sum 18 = .ok (.invokevirtual 216, 3) := by decide +kernel
theorem dX8_sum_21 : decode cX8_sum 21 = .ok (.goto 5, 3) := by decide +kernel
theorem dX8_sum_24 : decode cX8_sum 24 = .ok (.bipush (-2), 2) := by decide +kernel
theorem dX8_sum_26 : decode cX8_sum 26 = .ok (.ireturn, 1) := by decide +kernel
theorem dX8_topNow_0 : decode cX8_topNow 0 = .ok (.iconst (-1), 1) := by decide +kernel
theorem dX8_topNow_1 : decode cX8_topNow 1 = .ok (.istore_n 1, 1) := by decide +kernel
theorem dX8_topNow_2 : decode cX8_topNow 2 = .ok (.iconst (-1), 1) := by decide +kernel
theorem dX8_topNow_3 : decode cX8_topNow 3 = .ok (.istore_n 2, 1) := by decide +kernel
theorem dX8_topNow_4 : decode cX8_topNow 4 = .ok (.iconst 0, 1) := by decide +kernel
theorem dX8_topNow_5 : decode cX8_topNow 5 = .ok (.istore_n 3, 1) := by decide +kernel
theorem dX8_topNow_6 : decode cX8_topNow 6 = .ok (.iload_n 3, 1) := by decide +kernel
theorem dX8_topNow_7 : decode cX8_topNow 7 = .ok (.aload_n 0, 1) := by decide +kernel
theorem dX8_topNow_8 : decode cX8_topNow 8 = .ok (.getfield 114, 3) := by decide +kernel
theorem dX8_topNow_11 : decode cX8_topNow 11 = .ok (.if_icmp .ge 36, 3) := by decide +kernel
theorem dX8_topNow_14 : decode cX8_topNow 14 = .ok (.aload_n 0, 1) := by decide +kernel
theorem dX8_topNow_15 : decode cX8_topNow 15 = .ok (.getfield 31, 3) := by decide +kernel
theorem dX8_topNow_18 : decode cX8_topNow 18 = .ok (.iload_n 3, 1) := by decide +kernel
theorem dX8_topNow_19 : decode cX8_topNow 19 = .ok (.iaload, 1) := by decide +kernel
theorem dX8_topNow_20 : decode cX8_topNow 20 = .ok (.iload_n 2, 1) := by decide +kernel
theorem dX8_topNow_21 : decode cX8_topNow 21 = .ok (.if_icmp .le 7, 3) := by decide +kernel
theorem dX8_topNow_24 : decode cX8_topNow 24 = .ok (.iload_n 3, 1) := by decide +kernel
theorem dX8_topNow_25 : decode cX8_topNow 25 = .ok (.goto 4, 3) := by decide +kernel
theorem dX8_topNow_28 : decode cX8_topNow 28 = .ok (.iload_n 1, 1) := by decide +kernel
theorem dX8_topNow_29 : decode cX8_topNow 29 = .ok (.istore_n 1, 1) := by decide +kernel
theorem dX8_topNow_30 : decode cX8_topNow 30 = .ok (.aload_n 0, 1) := by decide +kernel
theorem dX8_topNow_31 : decode cX8_topNow 31 = .ok (.getfield 31, 3) := by decide +kernel
theorem dX8_topNow_34 : decode cX8_topNow 34 = .ok (.iload_n 3, 1) := by decide +kernel
theorem dX8_topNow_35 : decode cX8_topNow 35 = .ok (.iaload, 1) := by decide +kernel
theorem dX8_topNow_36 : decode cX8_topNow 36 = .ok (.iload_n 2, 1) := by decide +kernel
theorem dX8_topNow_37 : decode cX8_topNow 37 = .ok (.invokestatic 172, 3) := by decide +kernel
theorem dX8_topNow_40 : decode cX8_topNow 40 = .ok (.istore_n 2, 1) := by decide +kernel
theorem dX8_topNow_41 : decode cX8_topNow 41 = .ok (.iinc 3 1, 3) := by decide +kernel
theorem dX8_topNow_44 : decode cX8_topNow 44 = .ok (.goto (-38), 3) := by decide +kernel
theorem dX8_topNow_47 : decode cX8_topNow 47 = .ok (.iload_n 1, 1) := by decide +kernel
theorem dX8_topNow_48 : decode cX8_topNow 48 = .ok (.ireturn, 1) := by decide +kernel
theorem dX8_top_0 : decode cX8_top 0 = .ok (.aload_n 0, 1) := by decide +kernel
theorem dX8_top_1 : decode cX8_top 1 = .ok (.invokevirtual 187, 3) := by decide +kernel
theorem dX8_top_4 : decode cX8_top 4 = .ok (.aload_n 0, 1) := by decide +kernel
theorem dX8_top_5 : decode cX8_top 5 = .ok (.invokevirtual 219, 3) := by decide +kernel
theorem dX8_top_8 : decode cX8_top 8 = .ok (.ireturn, 1) := by decide +kernel
theorem dX8_heardNow_0 : decode cX8_heardNow 0 = .ok (.iconst 0, 1) := by decide +kernel
theorem dX8_heardNow_1 : decode cX8_heardNow 1 = .ok (.istore_n 1, 1) := by decide +kernel
theorem dX8_heardNow_2 : decode cX8_heardNow 2 = .ok (.iconst 0, 1) := by decide +kernel
theorem dX8_heardNow_3 : decode cX8_heardNow 3 = .ok (.istore_n 2, 1) := by decide +kernel
theorem dX8_heardNow_4 : decode cX8_heardNow 4 = .ok (.iload_n 2, 1) := by decide +kernel
theorem dX8_heardNow_5 : decode cX8_heardNow 5 = .ok (.bipush 24, 2) := by decide +kernel
theorem dX8_heardNow_7 : decode cX8_heardNow 7 = .ok (.if_icmp .ge 54, 3) := by decide +kernel
theorem dX8_heardNow_10 : decode cX8_heardNow 10 = .ok (.iconst 0, 1) := by decide +kernel
theorem dX8_heardNow_11 : decode cX8_heardNow 11 = .ok (.istore_n 3, 1) := by decide +kernel
theorem dX8_heardNow_12 : decode cX8_heardNow 12 = .ok (.iload_n 3, 1) := by decide +kernel
theorem dX8_heardNow_13 : decode cX8_heardNow 13 = .ok (.aload_n 0, 1) := by decide +kernel
theorem dX8_heardNow_14 : decode cX8_heardNow 14 = .ok (.getfield 114, 3) := by decide +kernel
theorem dX8_heardNow_17 : decode cX8_heardNow 17 = .ok (.if_icmp .ge 38, 3) := by decide +kernel
theorem dX8_heardNow_20 : decode cX8_heardNow 20 = .ok (.aload_n 0, 1) := by decide +kernel
theorem dX8_heardNow_21 : decode cX8_heardNow 21 = .ok (.getfield 55, 3) := by decide +kernel
theorem dX8_heardNow_24 : decode cX8_heardNow 24 = .ok (.bipush 8, 2) := by decide +kernel
theorem dX8_heardNow_26 : decode cX8_heardNow 26 = .ok (.iload_n 2, 1) := by decide +kernel
theorem dX8_heardNow_27 : decode cX8_heardNow 27 = .ok (.imul, 1) := by decide +kernel
theorem dX8_heardNow_28 : decode cX8_heardNow 28 = .ok (.iload_n 3, 1) := by decide +kernel
theorem dX8_heardNow_29 : decode cX8_heardNow 29 = .ok (.iadd, 1) := by decide +kernel
theorem dX8_heardNow_30 : decode cX8_heardNow 30 = .ok (.iaload, 1) := by decide +kernel
theorem dX8_heardNow_31 : decode cX8_heardNow 31 = .ok (.istore 4, 2) := by decide +kernel
theorem dX8_heardNow_33 : decode cX8_heardNow 33 = .ok (.iload_n 1, 1) := by decide +kernel
theorem dX8_heardNow_34 : decode cX8_heardNow 34 = .ok (.iload 4, 2) := by decide +kernel
theorem dX8_heardNow_36 : decode cX8_heardNow 36 = .ok (.ifCond .le 10, 3) := by decide +kernel
theorem dX8_heardNow_39 : decode cX8_heardNow 39 = .ok (.iconst 1, 1) := by decide +kernel
theorem dX8_heardNow_40 : decode cX8_heardNow 40 = .ok (.iload 4, 2) := by decide +kernel
theorem dX8_heardNow_42 : decode cX8_heardNow 42 = .ok (.ishl, 1) := by decide +kernel
theorem dX8_heardNow_43 : decode cX8_heardNow 43 = .ok (.goto 4, 3) := by decide +kernel
theorem dX8_heardNow_46 : decode cX8_heardNow 46 = .ok (.iconst 0, 1) := by decide +kernel
theorem dX8_heardNow_47 : decode cX8_heardNow 47 = .ok (.ior, 1) := by decide +kernel
theorem dX8_heardNow_48 : decode cX8_heardNow 48 = .ok (.istore_n 1, 1) := by decide +kernel
theorem dX8_heardNow_49 : decode cX8_heardNow 49 = .ok (.iinc 3 1, 3) := by decide +kernel
theorem dX8_heardNow_52 : decode cX8_heardNow 52 = .ok (.goto (-40), 3) := by decide +kernel
theorem dX8_heardNow_55 : decode cX8_heardNow 55 = .ok (.iinc 2 1, 3) := by decide +kernel
theorem dX8_heardNow_58 : decode cX8_heardNow 58 = .ok (.goto (-54), 3) := by decide +kernel
theorem dX8_heardNow_61 : decode cX8_heardNow 61 = .ok (.iconst 0, 1) := by decide +kernel
theorem dX8_heardNow_62 : decode cX8_heardNow 62 = .ok (.istore_n 2, 1) := by decide +kernel
theorem dX8_heardNow_63 : decode cX8_heardNow 63 = .ok (.iconst 1, 1) := by decide +kernel
theorem dX8_heardNow_64 : decode cX8_heardNow 64 = .ok (.istore_n 3, 1) := by decide +kernel
theorem dX8_heardNow_65 : decode cX8_heardNow 65 = .ok (.iload_n 3, 1) := by decide +kernel
theorem dX8_heardNow_66 : decode cX8_heardNow 66 = .ok (.bipush 13, 2) := by decide +kernel
theorem dX8_heardNow_68 : decode cX8_heardNow 68 = .ok (.if_icmp .ge 33, 3) := by decide +kernel
theorem dX8_heardNow_71 : decode cX8_heardNow 71 = .ok (.iload_n 2, 1) := by decide +kernel
theorem dX8_heardNow_72 : decode cX8_heardNow 72 = .ok (.iload_n 1, 1) := by decide +kernel
theorem dX8_heardNow_73 : decode cX8_heardNow 73 = .ok (.iload_n 3, 1) := by decide +kernel
theorem dX8_heardNow_74 : decode cX8_heardNow 74 = .ok (.invokestatic 148, 3) := by decide +kernel
theorem dX8_heardNow_77 : decode cX8_heardNow 77 = .ok (.ifCond .ne 15, 3) := by decide +kernel
theorem dX8_heardNow_80 : decode cX8_heardNow 80 = .ok (.iload_n 1, 1) := by decide +kernel
theorem dX8_heardNow_81 : decode cX8_heardNow 81 = .ok (.iload_n 3, 1) := by decide +kernel
theorem dX8_heardNow_82 : decode cX8_heardNow 82 = .ok (.ishr, 1) := by decide +kernel
theorem dX8_heardNow_83 : decode cX8_heardNow 83 = .ok (.ifCond .eq 9, 3) := by decide +kernel
theorem dX8_heardNow_86 : decode cX8_heardNow 86 = .ok (.iconst 1, 1) := by decide +kernel
theorem dX8_heardNow_87 : decode cX8_heardNow 87 = .ok (.iload_n 3, 1) := by decide +kernel
theorem dX8_heardNow_88 : decode cX8_heardNow 88 = .ok (.ishl, 1) := by decide +kernel
theorem dX8_heardNow_89 : decode cX8_heardNow 89 = .ok (.goto 4, 3) := by decide +kernel
theorem dX8_heardNow_92 : decode cX8_heardNow 92 = .ok (.iconst 0, 1) := by decide +kernel
theorem dX8_heardNow_93 : decode cX8_heardNow 93 = .ok (.ior, 1) := by decide +kernel
theorem dX8_heardNow_94 : decode cX8_heardNow 94 = .ok (.istore_n 2, 1) := by decide +kernel
theorem dX8_heardNow_95 : decode cX8_heardNow 95 = .ok (.iinc 3 1, 3) := by decide +kernel
theorem dX8_heardNow_98 : decode cX8_heardNow 98 = .ok (.goto (-33), 3) := by decide +kernel
theorem dX8_heardNow_101 : decode cX8_heardNow 101 = .ok (.iload_n 2, 1) := by decide +kernel
theorem dX8_heardNow_102 : decode cX8_heardNow 102 = .ok (.ireturn, 1) := by decide +kernel
theorem dX8_heard_0 : decode cX8_heard 0 = .ok (.aload_n 0, 1) := by decide +kernel
theorem dX8_heard_1 : decode cX8_heard 1 = .ok (.invokevirtual 187, 3) := by decide +kernel
theorem dX8_heard_4 : decode cX8_heard 4 = .ok (.aload_n 0, 1) := by decide +kernel
theorem dX8_heard_5 : decode cX8_heard 5 = .ok (.invokevirtual 222, 3) := by decide +kernel
theorem dX8_heard_8 : decode cX8_heard 8 = .ok (.ireturn, 1) := by decide +kernel
theorem dX8_cost_0 : decode cX8_cost 0 = .ok (.aload_n 0, 1) := by decide +kernel
theorem dX8_cost_1 : decode cX8_cost 1 = .ok (.invokevirtual 178, 3) := by decide +kernel
theorem dX8_cost_4 : decode cX8_cost 4 = .ok (.sipush 1000, 3) := by decide +kernel
theorem dX8_cost_7 : decode cX8_cost 7 = .ok (.aload_n 0, 1) := by decide +kernel
theorem dX8_cost_8 : decode cX8_cost 8 = .ok (.invokevirtual 204, 3) := by decide +kernel
theorem dX8_cost_11 : decode cX8_cost 11 = .ok (.imul, 1) := by decide +kernel
theorem dX8_cost_12 : decode cX8_cost 12 = .ok (.aload_n 0, 1) := by decide +kernel
theorem dX8_cost_13 : decode cX8_cost 13 = .ok (.invokevirtual 207, 3) := by decide +kernel
theorem dX8_cost_16 : decode cX8_cost 16 = .ok (.iadd, 1) := by decide +kernel
theorem dX8_cost_17 : decode cX8_cost 17 = .ok (.ireturn, 1) := by decide +kernel
theorem dX8_tenantBetter_0 : decode cX8_tenantBetter 0 = .ok (.aload_n 0, 1) := by decide +kernel
theorem dX8_tenantBetter_1 : decode cX8_tenantBetter 1 = .ok (.getfield 25, 3) := by decide +kernel
theorem dX8_tenantBetter_4 : decode cX8_tenantBetter 4 = .ok (.iload_n 1, 1) := by decide +kernel
theorem dX8_tenantBetter_5 : decode cX8_tenantBetter 5 = .ok (.iaload, 1) := by decide +kernel
theorem dX8_tenantBetter_6 : decode cX8_tenantBetter 6 = .ok (.istore 4, 2) := by decide +kernel
theorem dX8_tenantBetter_8 : decode cX8_tenantBetter 8 = .ok (.iconst (-1), 1) := by decide +kernel
theorem dX8_tenantBetter_9 : decode cX8_tenantBetter 9 = .ok (.istore 5, 2) := by decide +kernel
theorem dX8_tenantBetter_11 : decode cX8_tenantBetter 11 = .ok (.ldc 225, 2) := by decide +kernel
theorem dX8_tenantBetter_13 : decode cX8_tenantBetter 13 = .ok (.istore 6, 2) := by decide +kernel
theorem dX8_tenantBetter_15 : decode cX8_tenantBetter 15 = .ok (.iconst 0, 1) := by decide +kernel
theorem dX8_tenantBetter_16 : decode cX8_tenantBetter 16 = .ok (.istore 7, 2) := by decide +kernel
theorem dX8_tenantBetter_18 : decode cX8_tenantBetter 18 = .ok (.iload 7, 2) := by decide +kernel
theorem dX8_tenantBetter_20 : decode cX8_tenantBetter 20 = .ok (.iload_n 2, 1) := by decide +kernel
theorem dX8_tenantBetter_21 : decode cX8_tenantBetter 21 = .ok (.if_icmp .ge 48, 3) := by decide +kernel
theorem dX8_tenantBetter_24 : decode cX8_tenantBetter 24 = .ok (.aload_n 0, 1) := by decide +kernel
theorem dX8_tenantBetter_25 : decode cX8_tenantBetter 25 = .ok (.getfield 25, 3) := by decide +kernel
theorem dX8_tenantBetter_28 : decode cX8_tenantBetter 28 = .ok (.iload_n 1, 1) := by decide +kernel
theorem dX8_tenantBetter_29 : decode cX8_tenantBetter 29 = .ok (.iload 7, 2) := by decide +kernel
theorem dX8_tenantBetter_31 : decode cX8_tenantBetter 31 = .ok (.iastore, 1) := by decide +kernel
theorem dX8_tenantBetter_32 : decode cX8_tenantBetter 32 = .ok (.aload_n 0, 1) := by decide +kernel
theorem dX8_tenantBetter_33 : decode cX8_tenantBetter 33 = .ok (.invokevirtual 226, 3) := by decide +kernel
theorem dX8_tenantBetter_36 : decode cX8_tenantBetter 36 = .ok (.istore 8, 2) := by decide +kernel
theorem dX8_tenantBetter_38 : decode cX8_tenantBetter 38 = .ok (.iload 8, 2) := by decide +kernel
theorem dX8_tenantBetter_40 : decode cX8_tenantBetter 40 = .ok (.iload 6, 2) := by decide +kernel
theorem dX8_tenantBetter_42 : decode cX8_tenantBetter 42 = .ok (.if_icmp .ge 8, 3) := by decide +kernel
theorem dX8_tenantBetter_45 : decode cX8_tenantBetter 45 = .ok (.iload 7, 2) := by decide +kernel
theorem dX8_tenantBetter_47 : decode cX8_tenantBetter 47 = .ok (.goto 5, 3) := by decide +kernel
theorem dX8_tenantBetter_50 : decode cX8_tenantBetter 50 = .ok (.iload 5, 2) := by decide +kernel
theorem dX8_tenantBetter_52 : decode cX8_tenantBetter 52 = .ok (.istore 5, 2) := by decide +kernel
theorem dX8_tenantBetter_54 : decode cX8_tenantBetter 54 = .ok (.iload 8, 2) := by decide +kernel
theorem dX8_tenantBetter_56 : decode cX8_tenantBetter 56 = .ok (.iload 6, 2) := by decide +kernel
theorem dX8_tenantBetter_58 : decode cX8_tenantBetter 58 = .ok (.invokestatic 152, 3) := by decide +kernel
theorem dX8_tenantBetter_61 : decode cX8_tenantBetter 61 = .ok (.istore 6, 2) := by decide +kernel
theorem dX8_tenantBetter_63 : decode cX8_tenantBetter 63 = .ok (.iinc 7 1, 3) := by decide +kernel
theorem dX8_tenantBetter_66 : decode cX8_tenantBetter 66 = .ok (.goto (-48), 3) := by decide +kernel
theorem dX8_tenantBetter_69 : decode cX8_tenantBetter 69 = .ok (.aload_n 0, 1) := by decide +kernel
theorem dX8_tenantBetter_70 : decode cX8_tenantBetter 70 = .ok (.getfield 25, 3) := by decide +kernel
theorem dX8_tenantBetter_73 : decode cX8_tenantBetter 73 = .ok (.iload_n 1, 1) := by decide +kernel
theorem dX8_tenantBetter_74 : decode cX8_tenantBetter 74 = .ok (.iload 4, 2) := by decide +kernel
theorem dX8_tenantBetter_76 : decode cX8_tenantBetter 76 = .ok (.iastore, 1) := by decide +kernel
theorem dX8_tenantBetter_77 : decode cX8_tenantBetter 77 = .ok (.iload_n 3, 1) := by decide +kernel
theorem dX8_tenantBetter_78 : decode cX8_tenantBetter 78 = .ok (.ifCond .ne 8, 3) := by decide +kernel
theorem dX8_tenantBetter_81 : decode cX8_tenantBetter 81 = .ok (.iload 5, 2) := by decide +kernel
theorem dX8_tenantBetter_83 : decode cX8_tenantBetter 83 = .ok (.goto 23, 3) := by decide +kernel
theorem dX8_tenantBetter_86 : decode cX8_tenantBetter 86 = .ok (.iload_n 3, 1) := by decide +kernel
theorem dX8_tenantBetter_87 : decode cX8_tenantBetter 87 = .ok (.iconst 1, 1) := by decide +kernel
theorem dX8_tenantBetter_88 : decode cX8_tenantBetter 88 = .ok (.if_icmp .ne 12, 3) := by decide +kernel
theorem dX8_tenantBetter_91 : decode cX8_tenantBetter 91 = .ok (.iload 6, 2) := by decide +kernel
theorem dX8_tenantBetter_93 : decode cX8_tenantBetter 93 = .ok (.sipush 1000, 3) := by decide +kernel
theorem dX8_tenantBetter_96 : decode cX8_tenantBetter 96 = .ok (.idiv, 1) := by decide +kernel
theorem dX8_tenantBetter_97 : decode cX8_tenantBetter 97 = .ok (.goto 9, 3) := by decide +kernel
theorem dX8_tenantBetter_100 : decode cX8_tenantBetter 100 = .ok (.iload 6, 2) := by decide +kernel
theorem dX8_tenantBetter_102 : decode cX8_tenantBetter 102 = .ok (.sipush 1000, 3) := by decide +kernel
theorem dX8_tenantBetter_105 : decode cX8_tenantBetter 105 = .ok (.irem, 1) := by decide +kernel
theorem dX8_tenantBetter_106 : decode cX8_tenantBetter 106 = .ok (.ireturn, 1) := by decide +kernel
theorem dX8_earn_0 : decode cX8_earn 0 = .ok (.aload_n 0, 1) := by decide +kernel
theorem dX8_earn_1 : decode cX8_earn 1 = .ok (.invokevirtual 187, 3) := by decide +kernel
theorem dX8_earn_4 : decode cX8_earn 4 = .ok (.aload_n 0, 1) := by decide +kernel
theorem dX8_earn_5 : decode cX8_earn 5 = .ok (.iload_n 1, 1) := by decide +kernel
theorem dX8_earn_6 : decode cX8_earn 6 = .ok (.invokevirtual 126, 3) := by decide +kernel
theorem dX8_earn_9 : decode cX8_earn 9 = .ok (.ifCond .eq 30, 3) := by decide +kernel
theorem dX8_earn_12 : decode cX8_earn 12 = .ok (.iload_n 2, 1) := by decide +kernel
theorem dX8_earn_13 : decode cX8_earn 13 = .ok (.i2l, 1) := by decide +kernel
theorem dX8_earn_14 : decode cX8_earn 14 = .ok (.lconst 0, 1) := by decide +kernel
theorem dX8_earn_15 : decode cX8_earn 15 = .ok (.ldc2_w 90, 3) := by decide +kernel
theorem dX8_earn_18 : decode cX8_earn 18 = .ok (.invokestatic 77, 3) := by decide +kernel
theorem dX8_earn_21 : decode cX8_earn 21 = .ok (.ifCond .eq 18, 3) := by decide +kernel
theorem dX8_earn_24 : decode cX8_earn 24 = .ok (.aload_n 0, 1) := by decide +kernel
theorem dX8_earn_25 : decode cX8_earn 25 = .ok (.iconst 3, 1) := by decide +kernel
theorem dX8_earn_26 : decode cX8_earn 26 = .ok (.iload_n 1, 1) := by decide +kernel
theorem dX8_earn_27 : decode cX8_earn 27 = .ok (.imul, 1) := by decide +kernel
theorem dX8_earn_28 : decode cX8_earn 28 = .ok (.iconst 2, 1) := by decide +kernel
theorem dX8_earn_29 : decode cX8_earn 29 = .ok (.iadd, 1) := by decide +kernel
theorem dX8_earn_30 : decode cX8_earn 30 = .ok (.bipush 10, 2) := by decide +kernel
theorem dX8_earn_32 : decode cX8_earn 32 = .ok (.iload_n 2, 1) := by decide +kernel
theorem dX8_earn_33 : decode cX8_earn 33 = .ok (.invokevirtual 229, 3) := by decide +kernel
theorem dX8_earn_36 : decode cX8_earn 36 = .ok (.goto 5, 3) := by decide +kernel
theorem dX8_earn_39 : decode cX8_earn 39 = .ok (.bipush (-2), 2) := by decide +kernel
theorem dX8_earn_41 : decode cX8_earn 41 = .ok (.ireturn, 1) := by decide +kernel
theorem dX8_be_0 : decode cX8_be 0 = .ok (.aload_n 0, 1) := by decide +kernel
theorem dX8_be_1 : decode cX8_be 1 = .ok (.invokevirtual 187, 3) := by decide +kernel
theorem dX8_be_4 : decode cX8_be 4 = .ok (.aload_n 0, 1) := by decide +kernel
theorem dX8_be_5 : decode cX8_be 5 = .ok (.iload_n 1, 1) := by decide +kernel
theorem dX8_be_6 : decode cX8_be 6 = .ok (.invokevirtual 126, 3) := by decide +kernel
theorem dX8_be_9 : decode cX8_be 9 = .ok (.ifCond .eq 27, 3) := by decide +kernel
theorem dX8_be_12 : decode cX8_be 12 = .ok (.iload_n 2, 1) := by decide +kernel
theorem dX8_be_13 : decode cX8_be 13 = .ok (.i2l, 1) := by decide +kernel
theorem dX8_be_14 : decode cX8_be 14 = .ok (.lconst 0, 1) := by decide +kernel
theorem dX8_be_15 : decode cX8_be 15 = .ok (.ldc2_w 90, 3) := by decide +kernel
theorem dX8_be_18 : decode cX8_be 18 = .ok (.invokestatic 77, 3) := by decide +kernel
theorem dX8_be_21 : decode cX8_be 21 = .ok (.ifCond .eq 15, 3) := by decide +kernel
theorem dX8_be_24 : decode cX8_be 24 = .ok (.aload_n 0, 1) := by decide +kernel
theorem dX8_be_25 : decode cX8_be 25 = .ok (.iconst 3, 1) := by decide +kernel
theorem dX8_be_26 : decode cX8_be 26 = .ok (.iload_n 1, 1) := by decide +kernel
theorem dX8_be_27 : decode cX8_be 27 = .ok (.imul, 1) := by decide +kernel
theorem dX8_be_28 : decode cX8_be 28 = .ok (.iconst 4, 1) := by decide +kernel
theorem dX8_be_29 : decode cX8_be 29 = .ok (.iload_n 2, 1) := by decide +kernel
theorem dX8_be_30 : decode cX8_be 30 = .ok (.invokevirtual 229, 3) := by decide +kernel
theorem dX8_be_33 : decode cX8_be 33 = .ok (.goto 5, 3) := by decide +kernel
theorem dX8_be_36 : decode cX8_be 36 = .ok (.bipush (-2), 2) := by decide +kernel
theorem dX8_be_38 : decode cX8_be 38 = .ok (.ireturn, 1) := by decide +kernel
theorem dX8_widenBy_0 : decode cX8_widenBy 0 = .ok (.aload_n 0, 1) := by decide +kernel
theorem dX8_widenBy_1 : decode cX8_widenBy 1 = .ok (.getfield 71, 3) := by decide +kernel
theorem dX8_widenBy_4 : decode cX8_widenBy 4 = .ok (.istore_n 2, 1) := by decide +kernel
theorem dX8_widenBy_5 : decode cX8_widenBy 5 = .ok (.iconst (-1), 1) := by decide +kernel
theorem dX8_widenBy_6 : decode cX8_widenBy 6 = .ok (.istore_n 3, 1) := by decide +kernel
theorem dX8_widenBy_7 : decode cX8_widenBy 7 = .ok (.ldc 225, 2) := by decide +kernel
theorem dX8_widenBy_9 : decode cX8_widenBy 9 = .ok (.istore 4, 2) := by decide +kernel
theorem dX8_widenBy_11 : decode cX8_widenBy 11 = .ok (.iconst 1, 1) := by decide +kernel
theorem dX8_widenBy_12 : decode cX8_widenBy 12 = .ok (.istore 5, 2) := by decide +kernel
theorem dX8_widenBy_14 : decode cX8_widenBy 14 = .ok (.iload 5, 2) := by decide +kernel
theorem dX8_widenBy_16 : decode cX8_widenBy 16 = .ok (.bipush 9, 2) := by decide +kernel
theorem dX8_widenBy_18 : decode cX8_widenBy 18 = .ok (.if_icmp .ge 44, 3) := by decide +kernel
theorem dX8_widenBy_21 : decode cX8_widenBy 21 = .ok (.aload_n 0, 1) := by decide +kernel
theorem dX8_widenBy_22 : decode cX8_widenBy 22 = .ok (.iload 5, 2) := by decide +kernel
theorem dX8_widenBy_24 : decode cX8_widenBy 24 = .ok (.putfield 71, 3) := by decide +kernel
theorem dX8_widenBy_27 : decode cX8_widenBy 27 = .ok (.aload_n 0, 1) := by decide +kernel
theorem dX8_widenBy_28 : decode cX8_widenBy 28 = .ok (.invokevirtual 226, 3) := by decide +kernel
theorem dX8_widenBy_31 : decode cX8_widenBy 31 = .ok (.istore 6, 2) := by decide +kernel
theorem dX8_widenBy_33 : decode cX8_widenBy 33 = .ok (.iload 6, 2) := by decide +kernel
theorem dX8_widenBy_35 : decode cX8_widenBy 35 = .ok (.iload 4, 2) := by decide +kernel
theorem dX8_widenBy_37 : decode cX8_widenBy 37 = .ok (.if_icmp .ge 8, 3) := by decide +kernel
theorem dX8_widenBy_40 : decode cX8_widenBy 40 = .ok (.iload 5, 2) := by decide +kernel
theorem dX8_widenBy_42 : decode cX8_widenBy 42 = .ok (.goto 4, 3) := by decide +kernel
theorem dX8_widenBy_45 : decode cX8_widenBy 45 = .ok (.iload_n 3, 1) := by decide +kernel
theorem dX8_widenBy_46 : decode cX8_widenBy 46 = .ok (.istore_n 3, 1) := by decide +kernel
theorem dX8_widenBy_47 : decode cX8_widenBy 47 = .ok (.iload 6, 2) := by decide +kernel
theorem dX8_widenBy_49 : decode cX8_widenBy 49 = .ok (.iload 4, 2) := by decide +kernel
theorem dX8_widenBy_51 : decode cX8_widenBy 51 = .ok (.invokestatic 152, 3) := by decide +kernel
theorem dX8_widenBy_54 : decode cX8_widenBy 54 = .ok (.istore 4, 2) := by decide +kernel
theorem dX8_widenBy_56 : decode cX8_widenBy 56 = .ok (.iinc 5 1, 3) := by decide +kernel
theorem dX8_widenBy_59 : decode cX8_widenBy 59 = .ok (.goto (-45), 3) := by decide +kernel
theorem dX8_widenBy_62 : decode cX8_widenBy 62 = .ok (.aload_n 0, 1) := by decide +kernel
theorem dX8_widenBy_63 : decode cX8_widenBy 63 = .ok (.iload_n 2, 1) := by decide +kernel
theorem dX8_widenBy_64 : decode cX8_widenBy 64 = .ok (.putfield 71, 3) := by decide +kernel
theorem dX8_widenBy_67 : decode cX8_widenBy 67 = .ok (.iload_n 1, 1) := by decide +kernel
theorem dX8_widenBy_68 : decode cX8_widenBy 68 = .ok (.ifCond .ne 7, 3) := by decide +kernel
theorem dX8_widenBy_71 : decode cX8_widenBy 71 = .ok (.iload_n 3, 1) := by decide +kernel
theorem dX8_widenBy_72 : decode cX8_widenBy 72 = .ok (.goto 23, 3) := by decide +kernel
theorem dX8_widenBy_75 : decode cX8_widenBy 75 = .ok (.iload_n 1, 1) := by decide +kernel
theorem dX8_widenBy_76 : decode cX8_widenBy 76 = .ok (.iconst 1, 1) := by decide +kernel
theorem dX8_widenBy_77 : decode cX8_widenBy 77 = .ok (.if_icmp .ne 12, 3) := by decide +kernel
theorem dX8_widenBy_80 : decode cX8_widenBy 80 = .ok (.iload 4, 2) := by decide +kernel
theorem dX8_widenBy_82 : decode cX8_widenBy 82 = .ok (.sipush 1000, 3) := by decide +kernel
theorem dX8_widenBy_85 : decode cX8_widenBy 85 = .ok (.idiv, 1) := by decide +kernel
theorem dX8_widenBy_86 : decode cX8_widenBy 86 = .ok (.goto 9, 3) := by decide +kernel
theorem dX8_widenBy_89 : decode cX8_widenBy 89 = .ok (.iload 4, 2) := by decide +kernel
theorem dX8_widenBy_91 : decode cX8_widenBy 91 = .ok (.sipush 1000, 3) := by decide +kernel
theorem dX8_widenBy_94 : decode cX8_widenBy 94 = .ok (.irem, 1) := by decide +kernel
theorem dX8_widenBy_95 : decode cX8_widenBy 95 = .ok (.ireturn, 1) := by decide +kernel
theorem dX8_widen_0 : decode cX8_widen 0 = .ok (.aload_n 0, 1) := by decide +kernel
theorem dX8_widen_1 : decode cX8_widen 1 = .ok (.invokevirtual 187, 3) := by decide +kernel
theorem dX8_widen_4 : decode cX8_widen 4 = .ok (.iload_n 1, 1) := by decide +kernel
theorem dX8_widen_5 : decode cX8_widen 5 = .ok (.i2l, 1) := by decide +kernel
theorem dX8_widen_6 : decode cX8_widen 6 = .ok (.lconst 0, 1) := by decide +kernel
theorem dX8_widen_7 : decode cX8_widen 7 = .ok (.ldc2_w 90, 3) := by decide +kernel
theorem dX8_widen_10 : decode cX8_widen 10 = .ok (.invokestatic 77, 3) := by decide +kernel
theorem dX8_widen_13 : decode cX8_widen 13 = .ok (.ifCond .eq 11, 3) := by decide +kernel
theorem dX8_widen_16 : decode cX8_widen 16 = .ok (.aload_n 0, 1) := by decide +kernel
theorem dX8_widen_17 : decode cX8_widen 17 = .ok (.iload_n 1, 1) := by decide +kernel
theorem dX8_widen_18 : decode cX8_widen 18 = .ok (.invokevirtual 232, 3) := by decide +kernel
theorem dX8_widen_21 : decode cX8_widen 21 = .ok (.goto 5, 3) := by decide +kernel
theorem dX8_widen_24 : decode cX8_widen 24 = .ok (.bipush (-2), 2) := by decide +kernel
theorem dX8_widen_26 : decode cX8_widen 26 = .ok (.ireturn, 1) := by decide +kernel
theorem dX8_isSpared_0 : decode cX8_isSpared 0 = .ok (.aload_n 0, 1) := by decide +kernel
theorem dX8_isSpared_1 : decode cX8_isSpared 1 = .ok (.iload_n 1, 1) := by decide +kernel
theorem dX8_isSpared_2 : decode cX8_isSpared 2 = .ok (.putfield 145, 3) := by decide +kernel
theorem dX8_isSpared_5 : decode cX8_isSpared 5 = .ok (.aload_n 0, 1) := by decide +kernel
theorem dX8_isSpared_6 : decode cX8_isSpared 6 = .ok (.invokevirtual 178, 3) := by decide +kernel
theorem dX8_isSpared_9 : decode cX8_isSpared 9 = .ok (.aload_n 0, 1) := by decide +kernel
theorem dX8_isSpared_10 : decode cX8_isSpared 10 = .ok (.iconst 0, 1) := by decide +kernel
theorem dX8_isSpared_11 : decode cX8_isSpared 11 = .ok (.putfield 145, 3) := by decide +kernel
theorem dX8_isSpared_14 : decode cX8_isSpared 14 = .ok (.aload_n 0, 1) := by decide +kernel
theorem dX8_isSpared_15 : decode cX8_isSpared 15 = .ok (.invokevirtual 204, 3) := by decide +kernel
theorem dX8_isSpared_18 : decode cX8_isSpared 18 = .ok (.ifCond .ne 7, 3) := by decide +kernel
theorem dX8_isSpared_21 : decode cX8_isSpared 21 = .ok (.iconst 1, 1) := by decide +kernel
theorem dX8_isSpared_22 : decode cX8_isSpared 22 = .ok (.goto 4, 3) := by decide +kernel
theorem dX8_isSpared_25 : decode cX8_isSpared 25 = .ok (.iconst 0, 1) := by decide +kernel
theorem dX8_isSpared_26 : decode cX8_isSpared 26 = .ok (.ireturn, 1) := by decide +kernel
theorem dX8_spareBy_0 : decode cX8_spareBy 0 = .ok (.aload_n 0, 1) := by decide +kernel
theorem dX8_spareBy_1 : decode cX8_spareBy 1 = .ok (.iconst 0, 1) := by decide +kernel
theorem dX8_spareBy_2 : decode cX8_spareBy 2 = .ok (.invokevirtual 235, 3) := by decide +kernel
theorem dX8_spareBy_5 : decode cX8_spareBy 5 = .ok (.ifCond .eq 14, 3) := by decide +kernel
theorem dX8_spareBy_8 : decode cX8_spareBy 8 = .ok (.iload_n 1, 1) := by decide +kernel
theorem dX8_spareBy_9 : decode cX8_spareBy 9 = .ok (.iconst (-1), 1) := by decide +kernel
theorem dX8_spareBy_10 : decode cX8_spareBy 10 = .ok (.if_icmp .ne 7, 3) := by decide +kernel
theorem dX8_spareBy_13 : decode cX8_spareBy 13 = .ok (.iconst 0, 1) := by decide +kernel
theorem dX8_spareBy_14 : decode cX8_spareBy 14 = .ok (.goto 4, 3) := by decide +kernel
theorem dX8_spareBy_17 : decode cX8_spareBy 17 = .ok (.iconst (-1), 1) := by decide +kernel
theorem dX8_spareBy_18 : decode cX8_spareBy 18 = .ok (.ireturn, 1) := by decide +kernel
theorem dX8_spareBy_19 : decode cX8_spareBy 19 = .ok (.iconst 0, 1) := by decide +kernel
theorem dX8_spareBy_20 : decode cX8_spareBy 20 = .ok (.istore_n 2, 1) := by decide +kernel
theorem dX8_spareBy_21 : decode cX8_spareBy 21 = .ok (.iload_n 2, 1) := by decide +kernel
theorem dX8_spareBy_22 : decode cX8_spareBy 22 = .ok (.aload_n 0, 1) := by decide +kernel
theorem dX8_spareBy_23 : decode cX8_spareBy 23 = .ok (.getfield 136, 3) := by decide +kernel
theorem dX8_spareBy_26 : decode cX8_spareBy 26 = .ok (.if_icmp .ge 38, 3) := by decide +kernel
theorem dX8_spareBy_29 : decode cX8_spareBy 29 = .ok (.aload_n 0, 1) := by decide +kernel
theorem dX8_spareBy_30 : decode cX8_spareBy 30 = .ok (.iconst 1, 1) := by decide +kernel
theorem dX8_spareBy_31 : decode cX8_spareBy 31 = .ok (.iload_n 2, 1) := by decide +kernel
theorem dX8_spareBy_32 : decode cX8_spareBy 32 = .ok (.ishl, 1) := by decide +kernel
theorem dX8_spareBy_33 : decode cX8_spareBy 33 = .ok (.invokevirtual 235, 3) := by decide +kernel
theorem dX8_spareBy_36 : decode cX8_spareBy 36 = .ok (.ifCond .eq 22, 3) := by decide +kernel
theorem dX8_spareBy_39 : decode cX8_spareBy 39 = .ok (.iload_n 1, 1) := by decide +kernel
theorem dX8_spareBy_40 : decode cX8_spareBy 40 = .ok (.iconst (-1), 1) := by decide +kernel
theorem dX8_spareBy_41 : decode cX8_spareBy 41 = .ok (.if_icmp .ne 7, 3) := by decide +kernel
theorem dX8_spareBy_44 : decode cX8_spareBy 44 = .ok (.iconst 1, 1) := by decide +kernel
theorem dX8_spareBy_45 : decode cX8_spareBy 45 = .ok (.goto 12, 3) := by decide +kernel
theorem dX8_spareBy_48 : decode cX8_spareBy 48 = .ok (.iload_n 1, 1) := by decide +kernel
theorem dX8_spareBy_49 : decode cX8_spareBy 49 = .ok (.ifCond .ne 7, 3) := by decide +kernel
theorem dX8_spareBy_52 : decode cX8_spareBy 52 = .ok (.iload_n 2, 1) := by decide +kernel
theorem dX8_spareBy_53 : decode cX8_spareBy 53 = .ok (.goto 4, 3) := by decide +kernel
theorem dX8_spareBy_56 : decode cX8_spareBy 56 = .ok (.iconst (-1), 1) := by decide +kernel
theorem dX8_spareBy_57 : decode cX8_spareBy 57 = .ok (.ireturn, 1) := by decide +kernel
theorem dX8_spareBy_58 : decode cX8_spareBy 58 = .ok (.iinc 2 1, 3) := by decide +kernel
theorem dX8_spareBy_61 : decode cX8_spareBy 61 = .ok (.goto (-40), 3) := by decide +kernel
theorem dX8_spareBy_64 : decode cX8_spareBy 64 = .ok (.iconst 0, 1) := by decide +kernel
theorem dX8_spareBy_65 : decode cX8_spareBy 65 = .ok (.istore_n 2, 1) := by decide +kernel
theorem dX8_spareBy_66 : decode cX8_spareBy 66 = .ok (.iload_n 2, 1) := by decide +kernel
theorem dX8_spareBy_67 : decode cX8_spareBy 67 = .ok (.aload_n 0, 1) := by decide +kernel
theorem dX8_spareBy_68 : decode cX8_spareBy 68 = .ok (.getfield 136, 3) := by decide +kernel
theorem dX8_spareBy_71 : decode cX8_spareBy 71 = .ok (.if_icmp .ge 60, 3) := by decide +kernel
theorem dX8_spareBy_74 : decode cX8_spareBy 74 = .ok (.iload_n 2, 1) := by decide +kernel
theorem dX8_spareBy_75 : decode cX8_spareBy 75 = .ok (.iconst 1, 1) := by decide +kernel
theorem dX8_spareBy_76 : decode cX8_spareBy 76 = .ok (.iadd, 1) := by decide +kernel
theorem dX8_spareBy_77 : decode cX8_spareBy 77 = .ok (.istore_n 3, 1) := by decide +kernel
theorem dX8_spareBy_78 : decode cX8_spareBy 78 = .ok (.iload_n 3, 1) := by decide +kernel
theorem dX8_spareBy_79 : decode cX8_spareBy 79 = .ok (.aload_n 0, 1) := by decide +kernel
theorem dX8_spareBy_80 : decode cX8_spareBy 80 = .ok (.getfield 136, 3) := by decide +kernel
theorem dX8_spareBy_83 : decode cX8_spareBy 83 = .ok (.if_icmp .ge 42, 3) := by decide +kernel
theorem dX8_spareBy_86 : decode cX8_spareBy 86 = .ok (.aload_n 0, 1) := by decide +kernel
theorem dX8_spareBy_87 : decode cX8_spareBy 87 = .ok (.iconst 1, 1) := by decide +kernel
theorem dX8_spareBy_88 : decode cX8_spareBy 88 = .ok (.iload_n 2, 1) := by decide +kernel
theorem dX8_spareBy_89 : decode cX8_spareBy 89 = .ok (.ishl, 1) := by decide +kernel
theorem dX8_spareBy_90 : decode cX8_spareBy 90 = .ok (.iconst 1, 1) := by decide +kernel
theorem dX8_spareBy_91 : decode cX8_spareBy 91 = .ok (.iload_n 3, 1) := by decide +kernel
theorem dX8_spareBy_92 : decode cX8_spareBy 92 = .ok (.ishl, 1) := by decide +kernel
theorem dX8_spareBy_93 : decode cX8_spareBy 93 = .ok (.ior, 1) := by decide +kernel
theorem dX8_spareBy_94 : decode cX8_spareBy 94 = .ok (.invokevirtual 235, 3) := by decide +kernel
theorem dX8_spareBy_97 : decode cX8_spareBy 97 = .ok (.ifCond .eq 22, 3) := by decide +kernel
theorem dX8_spareBy_100 : decode cX8_spareBy 100 = .ok (.iload_n 1, 1) := by decide +kernel
theorem dX8_spareBy_101 : decode cX8_spareBy 101 = .ok (.iconst (-1), 1) := by decide +kernel
theorem dX8_spareBy_102 : decode cX8_spareBy 102 = .ok (.if_icmp .ne 7, 3) := by decide +kernel
theorem dX8_spareBy_105 : decode cX8_spareBy 105 = .ok (.iconst 2, 1) := by decide +kernel
theorem dX8_spareBy_106 : decode cX8_spareBy 106 = .ok (.goto 12, 3) := by decide +kernel
theorem dX8_spareBy_109 : decode cX8_spareBy 109 = .ok (.iload_n 1, 1) := by decide +kernel
theorem dX8_spareBy_110 : decode cX8_spareBy 110 = .ok (.ifCond .ne 7, 3) := by decide +kernel
theorem dX8_spareBy_113 : decode cX8_spareBy 113 = .ok (.iload_n 2, 1) := by decide +kernel
theorem dX8_spareBy_114 : decode cX8_spareBy 114 = .ok (.goto 4, 3) := by decide +kernel
theorem dX8_spareBy_117 : decode cX8_spareBy 117 = .ok (.iload_n 3, 1) := by decide +kernel
theorem dX8_spareBy_118 : decode cX8_spareBy 118 = .ok (.ireturn, 1) := by decide +kernel
theorem dX8_spareBy_119 : decode cX8_spareBy 119 = .ok (.iinc 3 1, 3) := by decide +kernel
theorem dX8_spareBy_122 : decode cX8_spareBy 122 = .ok (.goto (-44), 3) := by decide +kernel
theorem dX8_spareBy_125 : decode cX8_spareBy 125 = .ok (.iinc 2 1, 3) := by decide +kernel
theorem dX8_spareBy_128 : decode cX8_spareBy 128 = .ok (.goto (-62), 3) := by decide +kernel
theorem dX8_spareBy_131 : decode cX8_spareBy 131 = .ok (.iconst (-1), 1) := by decide +kernel
theorem dX8_spareBy_132 : decode cX8_spareBy 132 = .ok (.ireturn, 1) := by decide +kernel
theorem dX8_spare_0 : decode cX8_spare 0 = .ok (.aload_n 0, 1) := by decide +kernel
theorem dX8_spare_1 : decode cX8_spare 1 = .ok (.invokevirtual 187, 3) := by decide +kernel
theorem dX8_spare_4 : decode cX8_spare 4 = .ok (.iload_n 1, 1) := by decide +kernel
theorem dX8_spare_5 : decode cX8_spare 5 = .ok (.i2l, 1) := by decide +kernel
theorem dX8_spare_6 : decode cX8_spare 6 = .ok (.ldc2_w 238, 3) := by decide +kernel
theorem dX8_spare_9 : decode cX8_spare 9 = .ok (.lconst 1, 1) := by decide +kernel
theorem dX8_spare_10 : decode cX8_spare 10 = .ok (.invokestatic 77, 3) := by decide +kernel
theorem dX8_spare_13 : decode cX8_spare 13 = .ok (.ifCond .eq 11, 3) := by decide +kernel
theorem dX8_spare_16 : decode cX8_spare 16 = .ok (.aload_n 0, 1) := by decide +kernel
theorem dX8_spare_17 : decode cX8_spare 17 = .ok (.iload_n 1, 1) := by decide +kernel
theorem dX8_spare_18 : decode cX8_spare 18 = .ok (.invokevirtual 240, 3) := by decide +kernel
theorem dX8_spare_21 : decode cX8_spare 21 = .ok (.goto 5, 3) := by decide +kernel
theorem dX8_spare_24 : decode cX8_spare 24 = .ok (.bipush (-2), 2) := by decide +kernel
theorem dX8_spare_26 : decode cX8_spare 26 = .ok (.ireturn, 1) := by decide +kernel
theorem dX8_seen_0 : decode cX8_seen 0 = .ok (.iload_n 1, 1) := by decide +kernel
theorem dX8_seen_1 : decode cX8_seen 1 = .ok (.invokestatic 131, 3) := by decide +kernel
theorem dX8_seen_4 : decode cX8_seen 4 = .ok (.ifCond .eq 29, 3) := by decide +kernel
theorem dX8_seen_7 : decode cX8_seen 7 = .ok (.iload_n 2, 1) := by decide +kernel
theorem dX8_seen_8 : decode cX8_seen 8 = .ok (.i2l, 1) := by decide +kernel
theorem dX8_seen_9 : decode cX8_seen 9 = .ok (.lconst 0, 1) := by decide +kernel
theorem dX8_seen_10 : decode cX8_seen 10 = .ok (.ldc2_w 134, 3) := by decide +kernel
theorem dX8_seen_13 : decode cX8_seen 13 = .ok (.invokestatic 77, 3) := by decide +kernel
theorem dX8_seen_16 : decode cX8_seen 16 = .ok (.ifCond .eq 17, 3) := by decide +kernel
theorem dX8_seen_19 : decode cX8_seen 19 = .ok (.iload_n 3, 1) := by decide +kernel
theorem dX8_seen_20 : decode cX8_seen 20 = .ok (.i2l, 1) := by decide +kernel
theorem dX8_seen_21 : decode cX8_seen 21 = .ok (.ldc2_w 238, 3) := by decide +kernel
theorem dX8_seen_24 : decode cX8_seen 24 = .ok (.ldc2_w 193, 3) := by decide +kernel
theorem dX8_seen_27 : decode cX8_seen 27 = .ok (.invokestatic 77, 3) := by decide +kernel
theorem dX8_seen_30 : decode cX8_seen 30 = .ok (.ifCond .ne 6, 3) := by decide +kernel
theorem dX8_seen_33 : decode cX8_seen 33 = .ok (.bipush (-2), 2) := by decide +kernel
theorem dX8_seen_35 : decode cX8_seen 35 = .ok (.ireturn, 1) := by decide +kernel
theorem dX8_seen_36 : decode cX8_seen 36 = .ok (.aload_n 0, 1) := by decide +kernel
theorem dX8_seen_37 : decode cX8_seen 37 = .ok (.getfield 243, 3) := by decide +kernel
theorem dX8_seen_40 : decode cX8_seen 40 = .ok (.bipush 8, 2) := by decide +kernel
theorem dX8_seen_42 : decode cX8_seen 42 = .ok (.if_icmp .ne 6, 3) := by decide +kernel
theorem dX8_seen_45 : decode cX8_seen 45 = .ok (.bipush (-4), 2) := by decide +kernel
theorem dX8_seen_47 : decode cX8_seen 47 = .ok (.ireturn, 1) := by decide +kernel
theorem dX8_seen_48 : decode cX8_seen 48 = .ok (.aload_n 0, 1) := by decide +kernel
theorem dX8_seen_49 : decode cX8_seen 49 = .ok (.getfield 64, 3) := by decide +kernel
theorem dX8_seen_52 : decode cX8_seen 52 = .ok (.iconst 3, 1) := by decide +kernel
theorem dX8_seen_53 : decode cX8_seen 53 = .ok (.aload_n 0, 1) := by decide +kernel
theorem dX8_seen_54 : decode cX8_seen 54 = .ok (.getfield 243, 3) := by decide +kernel
theorem dX8_seen_57 : decode cX8_seen 57 = .ok (.imul, 1) := by decide +kernel
theorem dX8_seen_58 : decode cX8_seen 58 = .ok (.iload_n 1, 1) := by decide +kernel
theorem dX8_seen_59 : decode cX8_seen 59 = .ok (.iastore, 1) := by decide +kernel
theorem dX8_seen_60 : decode cX8_seen 60 = .ok (.aload_n 0, 1) := by decide +kernel
theorem dX8_seen_61 : decode cX8_seen 61 = .ok (.getfield 64, 3) := by decide +kernel
theorem dX8_seen_64 : decode cX8_seen 64 = .ok (.iconst 3, 1) := by decide +kernel
theorem dX8_seen_65 : decode cX8_seen 65 = .ok (.aload_n 0, 1) := by decide +kernel
theorem dX8_seen_66 : decode cX8_seen 66 = .ok (.getfield 243, 3) := by decide +kernel
theorem dX8_seen_69 : decode cX8_seen 69 = .ok (.imul, 1) := by decide +kernel
theorem dX8_seen_70 : decode cX8_seen 70 = .ok (.iconst 1, 1) := by decide +kernel
theorem dX8_seen_71 : decode cX8_seen 71 = .ok (.iadd, 1) := by decide +kernel
theorem dX8_seen_72 : decode cX8_seen 72 = .ok (.iload_n 2, 1) := by decide +kernel
theorem dX8_seen_73 : decode cX8_seen 73 = .ok (.iastore, 1) := by decide +kernel
theorem dX8_seen_74 : decode cX8_seen 74 = .ok (.aload_n 0, 1) := by decide +kernel
theorem dX8_seen_75 : decode cX8_seen 75 = .ok (.getfield 64, 3) := by decide +kernel
theorem dX8_seen_78 : decode cX8_seen 78 = .ok (.iconst 3, 1) := by decide +kernel
theorem dX8_seen_79 : decode cX8_seen 79 = .ok (.aload_n 0, 1) := by decide +kernel
theorem dX8_seen_80 : decode cX8_seen 80 = .ok (.getfield 243, 3) := by decide +kernel
theorem dX8_seen_83 : decode cX8_seen 83 = .ok (.imul, 1) := by decide +kernel
theorem dX8_seen_84 : decode cX8_seen 84 = .ok (.iconst 2, 1) := by decide +kernel
theorem dX8_seen_85 : decode cX8_seen 85 = .ok (.iadd, 1) := by decide +kernel
theorem dX8_seen_86 : decode cX8_seen 86 = .ok (.iload_n 3, 1) := by decide +kernel
theorem dX8_seen_87 : decode cX8_seen 87 = .ok (.iastore, 1) := by decide +kernel
theorem dX8_seen_88 : decode cX8_seen 88 = .ok (.aload_n 0, 1) := by decide +kernel
theorem dX8_seen_89 : decode cX8_seen 89 = .ok (.dup, 1) := by decide +kernel
theorem dX8_seen_90 : decode cX8_seen 90 = .ok (.getfield 243, 3) := by decide +kernel
theorem dX8_seen_93 : decode cX8_seen 93 = .ok (.iconst 1, 1) := by decide +kernel
theorem dX8_seen_94 : decode cX8_seen 94 = .ok (.iadd, 1) := by decide +kernel
theorem dX8_seen_95 : decode cX8_seen 95 = .ok (.putfield 243, 3) := by decide +kernel
theorem dX8_seen_98 : decode cX8_seen 98 = .ok (.aload_n 0, 1) := by decide +kernel
theorem dX8_seen_99 : decode cX8_seen 99 = .ok (.getfield 243, 3) := by decide +kernel
theorem dX8_seen_102 : decode cX8_seen 102 = .ok (.ireturn, 1) := by decide +kernel
theorem dX8_forget_0 : decode cX8_forget 0 = .ok (.aload_n 0, 1) := by decide +kernel
theorem dX8_forget_1 : decode cX8_forget 1 = .ok (.getfield 243, 3) := by decide +kernel
theorem dX8_forget_4 : decode cX8_forget 4 = .ok (.istore_n 1, 1) := by decide +kernel
theorem dX8_forget_5 : decode cX8_forget 5 = .ok (.aload_n 0, 1) := by decide +kernel
theorem dX8_forget_6 : decode cX8_forget 6 = .ok (.iconst 0, 1) := by decide +kernel
theorem dX8_forget_7 : decode cX8_forget 7 = .ok (.putfield 243, 3) := by decide +kernel
theorem dX8_forget_10 : decode cX8_forget 10 = .ok (.iload_n 1, 1) := by decide +kernel
theorem dX8_forget_11 : decode cX8_forget 11 = .ok (.ireturn, 1) := by decide +kernel
theorem dX8_isSeen_0 : decode cX8_isSeen 0 = .ok (.aload_n 0, 1) := by decide +kernel
theorem dX8_isSeen_1 : decode cX8_isSeen 1 = .ok (.invokevirtual 178, 3) := by decide +kernel
theorem dX8_isSeen_4 : decode cX8_isSeen 4 = .ok (.iconst 1, 1) := by decide +kernel
theorem dX8_isSeen_5 : decode cX8_isSeen 5 = .ok (.istore_n 1, 1) := by decide +kernel
theorem dX8_isSeen_6 : decode cX8_isSeen 6 = .ok (.iconst 0, 1) := by decide +kernel
theorem dX8_isSeen_7 : decode cX8_isSeen 7 = .ok (.istore_n 2, 1) := by decide +kernel
theorem dX8_isSeen_8 : decode cX8_isSeen 8 = .ok (.iload_n 2, 1) := by decide +kernel
theorem dX8_isSeen_9 : decode cX8_isSeen 9 = .ok (.aload_n 0, 1) := by decide +kernel
theorem dX8_isSeen_10 : decode cX8_isSeen 10 = .ok (.getfield 243, 3) := by decide +kernel
theorem dX8_isSeen_13 : decode cX8_isSeen 13 = .ok (.if_icmp .ge 69, 3) := by decide +kernel
theorem dX8_isSeen_16 : decode cX8_isSeen 16 = .ok (.aload_n 0, 1) := by decide +kernel
theorem dX8_isSeen_17 : decode cX8_isSeen 17 = .ok (.getfield 64, 3) := by decide +kernel
theorem dX8_isSeen_20 : decode cX8_isSeen 20 = .ok (.iconst 3, 1) := by decide +kernel
theorem dX8_isSeen_21 : decode cX8_isSeen 21 = .ok (.iload_n 2, 1) := by decide +kernel
theorem dX8_isSeen_22 : decode cX8_isSeen 22 = .ok (.imul, 1) := by decide +kernel
theorem dX8_isSeen_23 : decode cX8_isSeen 23 = .ok (.iconst 1, 1) := by decide +kernel
theorem dX8_isSeen_24 : decode cX8_isSeen 24 = .ok (.iadd, 1) := by decide +kernel
theorem dX8_isSeen_25 : decode cX8_isSeen 25 = .ok (.iaload, 1) := by decide +kernel
theorem dX8_isSeen_26 : decode cX8_isSeen 26 = .ok (.istore_n 3, 1) := by decide +kernel
theorem dX8_isSeen_27 : decode cX8_isSeen 27 = .ok (.iload_n 1, 1) := by decide +kernel
theorem dX8_isSeen_28 : decode cX8_isSeen 28 = .ok (.ifCond .eq 46, 3) := by decide +kernel
theorem dX8_isSeen_31 : decode cX8_isSeen 31 = .ok (.aload_n 0, 1) := by decide +kernel
theorem dX8_isSeen_32 : decode cX8_isSeen 32 = .ok (.iload_n 3, 1) := by decide +kernel
theorem dX8_isSeen_33 : decode cX8_isSeen 33 = .ok (.invokevirtual 126, 3) := by decide +kernel
theorem dX8_isSeen_36 : decode cX8_isSeen 36 = .ok (.ifCond .eq 38, 3) := by decide +kernel
theorem dX8_isSeen_39 : decode cX8_isSeen 39 = .ok (.aload_n 0, 1) := by decide +kernel
theorem dX8_isSeen_40 : decode cX8_isSeen 40 = .ok (.getfield 55, 3) := by decide +kernel
theorem dX8_isSeen_43 : decode cX8_isSeen 43 = .ok (.bipush 8, 2) := by decide +kernel
theorem dX8_isSeen_45 : decode cX8_isSeen 45 = .ok (.aload_n 0, 1) := by decide +kernel
theorem dX8_isSeen_46 : decode cX8_isSeen 46 = .ok (.getfield 64, 3) := by decide +kernel
theorem dX8_isSeen_49 : decode cX8_isSeen 49 = .ok (.iconst 3, 1) := by decide +kernel
theorem dX8_isSeen_50 : decode cX8_isSeen 50 = .ok (.iload_n 2, 1) := by decide +kernel
theorem dX8_isSeen_51 : decode cX8_isSeen 51 = .ok (.imul, 1) := by decide +kernel
theorem dX8_isSeen_52 : decode cX8_isSeen 52 = .ok (.iaload, 1) := by decide +kernel
theorem dX8_isSeen_53 : decode cX8_isSeen 53 = .ok (.imul, 1) := by decide +kernel
theorem dX8_isSeen_54 : decode cX8_isSeen 54 = .ok (.iload_n 3, 1) := by decide +kernel
theorem dX8_isSeen_55 : decode cX8_isSeen 55 = .ok (.iadd, 1) := by decide +kernel
theorem dX8_isSeen_56 : decode cX8_isSeen 56 = .ok (.iaload, 1) := by decide +kernel
theorem dX8_isSeen_57 : decode cX8_isSeen 57 = .ok (.aload_n 0, 1) := by decide +kernel
theorem dX8_isSeen_58 : decode cX8_isSeen 58 = .ok (.getfield 64, 3) := by decide +kernel
theorem dX8_isSeen_61 : decode cX8_isSeen 61 = .ok (.iconst 3, 1) := by decide +kernel
theorem dX8_isSeen_62 : decode cX8_isSeen 62 = .ok (.iload_n 2, 1) := by decide +kernel
theorem dX8_isSeen_63 : decode cX8_isSeen 63 = .ok (.imul, 1) := by decide +kernel
theorem dX8_isSeen_64 : decode cX8_isSeen 64 = .ok (.iconst 2, 1) := by decide +kernel
theorem dX8_isSeen_65 : decode cX8_isSeen 65 = .ok (.iadd, 1) := by decide +kernel
theorem dX8_isSeen_66 : decode cX8_isSeen 66 = .ok (.iaload, 1) := by decide +kernel
theorem dX8_isSeen_67 : decode cX8_isSeen 67 = .ok (.if_icmp .ne 7, 3) := by decide +kernel
theorem dX8_isSeen_70 : decode cX8_isSeen 70 = .ok (.iconst 1, 1) := by decide +kernel
theorem dX8_isSeen_71 : decode cX8_isSeen 71 = .ok (.goto 4, 3) := by decide +kernel
theorem dX8_isSeen_74 : decode cX8_isSeen 74 = .ok (.iconst 0, 1) := by decide +kernel
theorem dX8_isSeen_75 : decode cX8_isSeen 75 = .ok (.istore_n 1, 1) := by decide +kernel
theorem dX8_isSeen_76 : decode cX8_isSeen 76 = .ok (.iinc 2 1, 3) := by decide +kernel
theorem dX8_isSeen_79 : decode cX8_isSeen 79 = .ok (.goto (-71), 3) := by decide +kernel
theorem dX8_isSeen_82 : decode cX8_isSeen 82 = .ok (.iload_n 1, 1) := by decide +kernel
theorem dX8_isSeen_83 : decode cX8_isSeen 83 = .ok (.ireturn, 1) := by decide +kernel
theorem dX8_neverNow_0 : decode cX8_neverNow 0 = .ok (.iconst 0, 1) := by decide +kernel
theorem dX8_neverNow_1 : decode cX8_neverNow 1 = .ok (.istore_n 1, 1) := by decide +kernel
theorem dX8_neverNow_2 : decode cX8_neverNow 2 = .ok (.iconst 0, 1) := by decide +kernel
theorem dX8_neverNow_3 : decode cX8_neverNow 3 = .ok (.istore_n 2, 1) := by decide +kernel
theorem dX8_neverNow_4 : decode cX8_neverNow 4 = .ok (.iload_n 2, 1) := by decide +kernel
theorem dX8_neverNow_5 : decode cX8_neverNow 5 = .ok (.aload_n 0, 1) := by decide +kernel
theorem dX8_neverNow_6 : decode cX8_neverNow 6 = .ok (.getfield 136, 3) := by decide +kernel
theorem dX8_neverNow_9 : decode cX8_neverNow 9 = .ok (.if_icmp .ge 33, 3) := by decide +kernel
theorem dX8_neverNow_12 : decode cX8_neverNow 12 = .ok (.aload_n 0, 1) := by decide +kernel
theorem dX8_neverNow_13 : decode cX8_neverNow 13 = .ok (.iconst 1, 1) := by decide +kernel
theorem dX8_neverNow_14 : decode cX8_neverNow 14 = .ok (.iload_n 2, 1) := by decide +kernel
theorem dX8_neverNow_15 : decode cX8_neverNow 15 = .ok (.ishl, 1) := by decide +kernel
theorem dX8_neverNow_16 : decode cX8_neverNow 16 = .ok (.putfield 145, 3) := by decide +kernel
theorem dX8_neverNow_19 : decode cX8_neverNow 19 = .ok (.iload_n 1, 1) := by decide +kernel
theorem dX8_neverNow_20 : decode cX8_neverNow 20 = .ok (.aload_n 0, 1) := by decide +kernel
theorem dX8_neverNow_21 : decode cX8_neverNow 21 = .ok (.invokevirtual 246, 3) := by decide +kernel
theorem dX8_neverNow_24 : decode cX8_neverNow 24 = .ok (.ifCond .eq 9, 3) := by decide +kernel
theorem dX8_neverNow_27 : decode cX8_neverNow 27 = .ok (.iconst 1, 1) := by decide +kernel
theorem dX8_neverNow_28 : decode cX8_neverNow 28 = .ok (.iload_n 2, 1) := by decide +kernel
theorem dX8_neverNow_29 : decode cX8_neverNow 29 = .ok (.ishl, 1) := by decide +kernel
theorem dX8_neverNow_30 : decode cX8_neverNow 30 = .ok (.goto 4, 3) := by decide +kernel
theorem dX8_neverNow_33 : decode cX8_neverNow 33 = .ok (.iconst 0, 1) := by decide +kernel
theorem dX8_neverNow_34 : decode cX8_neverNow 34 = .ok (.ior, 1) := by decide +kernel
theorem dX8_neverNow_35 : decode cX8_neverNow 35 = .ok (.istore_n 1, 1) := by decide +kernel
theorem dX8_neverNow_36 : decode cX8_neverNow 36 = .ok (.iinc 2 1, 3) := by decide +kernel
theorem dX8_neverNow_39 : decode cX8_neverNow 39 = .ok (.goto (-35), 3) := by decide +kernel
theorem dX8_neverNow_42 : decode cX8_neverNow 42 = .ok (.aload_n 0, 1) := by decide +kernel
theorem dX8_neverNow_43 : decode cX8_neverNow 43 = .ok (.iconst 0, 1) := by decide +kernel
theorem dX8_neverNow_44 : decode cX8_neverNow 44 = .ok (.putfield 145, 3) := by decide +kernel
theorem dX8_neverNow_47 : decode cX8_neverNow 47 = .ok (.iload_n 1, 1) := by decide +kernel
theorem dX8_neverNow_48 : decode cX8_neverNow 48 = .ok (.ireturn, 1) := by decide +kernel
theorem dX8_never_0 : decode cX8_never 0 = .ok (.aload_n 0, 1) := by decide +kernel
theorem dX8_never_1 : decode cX8_never 1 = .ok (.invokevirtual 187, 3) := by decide +kernel
theorem dX8_never_4 : decode cX8_never 4 = .ok (.aload_n 0, 1) := by decide +kernel
theorem dX8_never_5 : decode cX8_never 5 = .ok (.invokevirtual 250, 3) := by decide +kernel
theorem dX8_never_8 : decode cX8_never 8 = .ok (.ireturn, 1) := by decide +kernel
theorem dX8_rowOf_0 : decode cX8_rowOf 0 = .ok (.lconst 0, 1) := by decide +kernel
theorem dX8_rowOf_1 : decode cX8_rowOf 1 = .ok (.lstore_n 2, 1) := by decide +kernel
theorem dX8_rowOf_2 : decode cX8_rowOf 2 = .ok (.iconst 0, 1) := by decide +kernel
theorem dX8_rowOf_3 : decode cX8_rowOf 3 = .ok (.istore 4, 2) := by decide +kernel
theorem dX8_rowOf_5 : decode cX8_rowOf 5 = .ok (.iload 4, 2) := by decide +kernel
theorem dX8_rowOf_7 : decode cX8_rowOf 7 = .ok (.aload_n 0, 1) := by decide +kernel
theorem dX8_rowOf_8 : decode cX8_rowOf 8 = .ok (.getfield 114, 3) := by decide +kernel
theorem dX8_rowOf_11 : decode cX8_rowOf 11 = .ok (.if_icmp .ge 31, 3) := by decide +kernel
theorem dX8_rowOf_14 : decode cX8_rowOf 14 = .ok (.ldc2_w 253, 3) := by decide +kernel
theorem dX8_rowOf_17 : decode cX8_rowOf 17 = .ok (.lload_n 2, 1) := by decide +kernel
theorem dX8_rowOf_18 : decode cX8_rowOf 18 = .ok (.lmul, 1) := by decide +kernel
theorem dX8_rowOf_19 : decode cX8_rowOf 19 = .ok (.aload_n 0, 1) := by decide +kernel
theorem dX8_rowOf_20 : decode cX8_rowOf 20 = .ok (.getfield 55, 3) := by decide +kernel
theorem dX8_rowOf_23 : decode cX8_rowOf 23 = .ok (.bipush 8, 2) := by decide +kernel
theorem dX8_rowOf_25 : decode cX8_rowOf 25 = .ok (.iload_n 1, 1) := by decide +kernel
theorem dX8_rowOf_26 : decode cX8_rowOf 26 = .ok (.imul, 1) := by decide +kernel
