theorem dX3_rests_133 : decode cX3_rests 133 = .ok (.istore 9, 2) := by decide +kernel
theorem dX3_rests_135 : decode cX3_rests 135 = .ok (.iload 9, 2) := by decide +kernel
theorem dX3_rests_137 : decode cX3_rests 137 = .ok (.iconst 4, 1) := by decide +kernel
theorem dX3_rests_138 : decode cX3_rests 138 = .ok (.if_icmp .ge 68, 3) := by decide +kernel
theorem dX3_rests_141 : decode cX3_rests 141 = .ok (.iload 9, 2) := by decide +kernel
theorem dX3_rests_143 : decode cX3_rests 143 = .ok (.iconst 2, 1) := by decide +kernel
theorem dX3_rests_144 : decode cX3_rests 144 = .ok (.idiv, 1) := by decide +kernel
theorem dX3_rests_145 : decode cX3_rests 145 = .ok (.istore 10, 2) := by decide +kernel
theorem dX3_rests_147 : decode cX3_rests 147 = .ok (.iload 9, 2) := by decide +kernel
theorem dX3_rests_149 : decode cX3_rests 149 = .ok (.iconst 2, 1) := by decide +kernel
theorem dX3_rests_150 : decode cX3_rests 150 = .ok (.irem, 1) := by decide +kernel
theorem dX3_rests_151 : decode cX3_rests 151 = .ok (.istore 11, 2) := by decide +kernel
theorem dX3_rests_153 : decode cX3_rests 153 = .ok (.iload 5, 2) := by decide +kernel
theorem dX3_rests_155 : decode cX3_rests 155 = .ok (.iload 10, 2) := by decide +kernel
theorem dX3_rests_157 : decode cX3_rests 157 = .ok (.iload 11, 2) := by decide +kernel
theorem dX3_rests_159 : decode cX3_rests 159 = .ok (.invokestatic 204, 3) := by decide +kernel
theorem dX3_rests_162 : decode cX3_rests 162 = .ok (.ifCond .eq 38, 3) := by decide +kernel
theorem dX3_rests_165 : decode cX3_rests 165 = .ok (.iload 6, 2) := by decide +kernel
theorem dX3_rests_167 : decode cX3_rests 167 = .ok (.iload 11, 2) := by decide +kernel
theorem dX3_rests_169 : decode cX3_rests 169 = .ok (.iload 10, 2) := by decide +kernel
theorem dX3_rests_171 : decode cX3_rests 171 = .ok (.invokestatic 204, 3) := by decide +kernel
theorem dX3_rests_174 : decode cX3_rests 174 = .ok (.ifCond .eq 26, 3) := by decide +kernel
theorem dX3_rests_177 : decode cX3_rests 177 = .ok (.iload 7, 2) := by decide +kernel
theorem dX3_rests_179 : decode cX3_rests 179 = .ok (.ifCond .ne 14, 3) := by decide +kernel
theorem dX3_rests_182 : decode cX3_rests 182 = .ok (.bipush 10, 2) := by decide +kernel
theorem dX3_rests_184 : decode cX3_rests 184 = .ok (.iload 10, 2) := by decide +kernel
theorem dX3_rests_186 : decode cX3_rests 186 = .ok (.imul, 1) := by decide +kernel
theorem dX3_rests_187 : decode cX3_rests 187 = .ok (.iload 11, 2) := by decide +kernel
theorem dX3_rests_189 : decode cX3_rests 189 = .ok (.iadd, 1) := by decide +kernel
theorem dX3_rests_190 : decode cX3_rests 190 = .ok (.goto 5, 3) := by decide +kernel
theorem dX3_rests_193 : decode cX3_rests 193 = .ok (.iload 8, 2) := by decide +kernel
theorem dX3_rests_195 : decode cX3_rests 195 = .ok (.istore 8, 2) := by decide +kernel
theorem dX3_rests_197 : decode cX3_rests 197 = .ok (.iinc 7 1, 3) := by decide +kernel
theorem dX3_rests_200 : decode cX3_rests 200 = .ok (.iinc 9 1, 3) := by decide +kernel
theorem dX3_rests_203 : decode cX3_rests 203 = .ok (.goto (-68), 3) := by decide +kernel
theorem dX3_rests_206 : decode cX3_rests 206 = .ok (.iload 4, 2) := by decide +kernel
theorem dX3_rests_208 : decode cX3_rests 208 = .ok (.ifCond .ne 8, 3) := by decide +kernel
theorem dX3_rests_211 : decode cX3_rests 211 = .ok (.iload 7, 2) := by decide +kernel
theorem dX3_rests_213 : decode cX3_rests 213 = .ok (.goto 5, 3) := by decide +kernel
theorem dX3_rests_216 : decode cX3_rests 216 = .ok (.iload 8, 2) := by decide +kernel
theorem dX3_rests_218 : decode cX3_rests 218 = .ok (.ireturn, 1) := by decide +kernel
theorem dX3_born_0 : decode cX3_born 0 = .ok (.iload_n 1, 1) := by decide +kernel
theorem dX3_born_1 : decode cX3_born 1 = .ok (.ifCond .lt 19, 3) := by decide +kernel
theorem dX3_born_4 : decode cX3_born 4 = .ok (.iload_n 1, 1) := by decide +kernel
theorem dX3_born_5 : decode cX3_born 5 = .ok (.bipush 9, 2) := by decide +kernel
theorem dX3_born_7 : decode cX3_born 7 = .ok (.if_icmp .gt 13, 3) := by decide +kernel
theorem dX3_born_10 : decode cX3_born 10 = .ok (.iload_n 2, 1) := by decide +kernel
theorem dX3_born_11 : decode cX3_born 11 = .ok (.ifCond .lt 9, 3) := by decide +kernel
theorem dX3_born_14 : decode cX3_born 14 = .ok (.iload_n 2, 1) := by decide +kernel
theorem dX3_born_15 : decode cX3_born 15 = .ok (.bipush 10, 2) := by decide +kernel
theorem dX3_born_17 : decode cX3_born 17 = .ok (.if_icmp .le 6, 3) := by decide +kernel
theorem dX3_born_20 : decode cX3_born 20 = .ok (.bipush (-2), 2) := by decide +kernel
theorem dX3_born_22 : decode cX3_born 22 = .ok (.ireturn, 1) := by decide +kernel
theorem dX3_born_23 : decode cX3_born 23 = .ok (.aload_n 0, 1) := by decide +kernel
theorem dX3_born_24 : decode cX3_born 24 = .ok (.getfield 23, 3) := by decide +kernel
theorem dX3_born_27 : decode cX3_born 27 = .ok (.invokevirtual 208, 3) := by decide +kernel
theorem dX3_born_30 : decode cX3_born 30 = .ok (.istore 4, 2) := by decide +kernel
theorem dX3_born_32 : decode cX3_born 32 = .ok (.iload_n 1, 1) := by decide +kernel
theorem dX3_born_33 : decode cX3_born 33 = .ok (.iload 4, 2) := by decide +kernel
theorem dX3_born_35 : decode cX3_born 35 = .ok (.if_icmp .le 10, 3) := by decide +kernel
theorem dX3_born_38 : decode cX3_born 38 = .ok (.lconst 0, 1) := by decide +kernel
theorem dX3_born_39 : decode cX3_born 39 = .ok (.lconst 1, 1) := by decide +kernel
theorem dX3_born_40 : decode cX3_born 40 = .ok (.iload_n 3, 1) := by decide +kernel
theorem dX3_born_41 : decode cX3_born 41 = .ok (.invokestatic 200, 3) := by decide +kernel
theorem dX3_born_44 : decode cX3_born 44 = .ok (.ireturn, 1) := by decide +kernel
theorem dX3_born_45 : decode cX3_born 45 = .ok (.iload 4, 2) := by decide +kernel
theorem dX3_born_47 : decode cX3_born 47 = .ok (.iload_n 1, 1) := by decide +kernel
theorem dX3_born_48 : decode cX3_born 48 = .ok (.invokestatic 211, 3) := by decide +kernel
theorem dX3_born_51 : decode cX3_born 51 = .ok (.iload_n 2, 1) := by decide +kernel
theorem dX3_born_52 : decode cX3_born 52 = .ok (.iload_n 1, 1) := by decide +kernel
theorem dX3_born_53 : decode cX3_born 53 = .ok (.invokestatic 215, 3) := by decide +kernel
theorem dX3_born_56 : decode cX3_born 56 = .ok (.lmul, 1) := by decide +kernel
theorem dX3_born_57 : decode cX3_born 57 = .ok (.bipush 10, 2) := by decide +kernel
theorem dX3_born_59 : decode cX3_born 59 = .ok (.iload_n 2, 1) := by decide +kernel
theorem dX3_born_60 : decode cX3_born 60 = .ok (.isub, 1) := by decide +kernel
theorem dX3_born_61 : decode cX3_born 61 = .ok (.iload 4, 2) := by decide +kernel
theorem dX3_born_63 : decode cX3_born 63 = .ok (.iload_n 1, 1) := by decide +kernel
theorem dX3_born_64 : decode cX3_born 64 = .ok (.isub, 1) := by decide +kernel
theorem dX3_born_65 : decode cX3_born 65 = .ok (.invokestatic 215, 3) := by decide +kernel
theorem dX3_born_68 : decode cX3_born 68 = .ok (.lmul, 1) := by decide +kernel
theorem dX3_born_69 : decode cX3_born 69 = .ok (.lstore 5, 2) := by decide +kernel
theorem dX3_born_71 : decode cX3_born 71 = .ok (.lload 5, 2) := by decide +kernel
theorem dX3_born_73 : decode cX3_born 73 = .ok (.bipush 10, 2) := by decide +kernel
theorem dX3_born_75 : decode cX3_born 75 = .ok (.iload 4, 2) := by decide +kernel
theorem dX3_born_77 : decode cX3_born 77 = .ok (.invokestatic 215, 3) := by decide +kernel
theorem dX3_born_80 : decode cX3_born 80 = .ok (.iload_n 3, 1) := by decide +kernel
theorem dX3_born_81 : decode cX3_born 81 = .ok (.invokestatic 200, 3) := by decide +kernel
theorem dX3_born_84 : decode cX3_born 84 = .ok (.ireturn, 1) := by decide +kernel
theorem dX3_seed_0 : decode cX3_seed 0 = .ok (.aload_n 0, 1) := by decide +kernel
theorem dX3_seed_1 : decode cX3_seed 1 = .ok (.getfield 218, 3) := by decide +kernel
theorem dX3_seed_4 : decode cX3_seed 4 = .ok (.lstore_n 3, 1) := by decide +kernel
theorem dX3_seed_5 : decode cX3_seed 5 = .ok (.aload_n 0, 1) := by decide +kernel
theorem dX3_seed_6 : decode cX3_seed 6 = .ok (.lload_n 1, 1) := by decide +kernel
theorem dX3_seed_7 : decode cX3_seed 7 = .ok (.putfield 218, 3) := by decide +kernel
theorem dX3_seed_10 : decode cX3_seed 10 = .ok (.lload_n 3, 1) := by decide +kernel
theorem dX3_seed_11 : decode cX3_seed 11 = .ok (.lreturn, 1) := by decide +kernel
theorem dX3_years_0 : decode cX3_years 0 = .ok (.iload_n 1, 1) := by decide +kernel
theorem dX3_years_1 : decode cX3_years 1 = .ok (.iconst 1, 1) := by decide +kernel
theorem dX3_years_2 : decode cX3_years 2 = .ok (.if_icmp .lt 9, 3) := by decide +kernel
theorem dX3_years_5 : decode cX3_years 5 = .ok (.iload_n 1, 1) := by decide +kernel
theorem dX3_years_6 : decode cX3_years 6 = .ok (.bipush 30, 2) := by decide +kernel
theorem dX3_years_8 : decode cX3_years 8 = .ok (.if_icmp .le 6, 3) := by decide +kernel
theorem dX3_years_11 : decode cX3_years 11 = .ok (.bipush (-2), 2) := by decide +kernel
theorem dX3_years_13 : decode cX3_years 13 = .ok (.ireturn, 1) := by decide +kernel
theorem dX3_years_14 : decode cX3_years 14 = .ok (.aload_n 0, 1) := by decide +kernel
theorem dX3_years_15 : decode cX3_years 15 = .ok (.getfield 27, 3) := by decide +kernel
theorem dX3_years_18 : decode cX3_years 18 = .ok (.aload_n 0, 1) := by decide +kernel
theorem dX3_years_19 : decode cX3_years 19 = .ok (.getfield 23, 3) := by decide +kernel
theorem dX3_years_22 : decode cX3_years 22 = .ok (.invokevirtual 66, 3) := by decide +kernel
theorem dX3_years_25 : decode cX3_years 25 = .ok (.iconst 0, 1) := by decide +kernel
theorem dX3_years_26 : decode cX3_years 26 = .ok (.istore_n 2, 1) := by decide +kernel
theorem dX3_years_27 : decode cX3_years 27 = .ok (.iconst 0, 1) := by decide +kernel
theorem dX3_years_28 : decode cX3_years 28 = .ok (.istore_n 3, 1) := by decide +kernel
theorem dX3_years_29 : decode cX3_years 29 = .ok (.iload_n 3, 1) := by decide +kernel
theorem dX3_years_30 : decode cX3_years 30 = .ok (.iload_n 1, 1) := by decide +kernel
theorem dX3_years_31 : decode cX3_years 31 = .ok (.if_icmp .ge 54, 3) := by decide +kernel
theorem dX3_years_34 : decode cX3_years 34 = .ok (.aload_n 0, 1) := by decide +kernel
theorem dX3_years_35 : decode cX3_years 35 = .ok (.aload_n 0, 1) := by decide +kernel
theorem dX3_years_36 : decode cX3_years 36 = .ok (.getfield 218, 3) := by decide +kernel
theorem dX3_years_39 : decode cX3_years 39 = .ok (.ldc2_w 222, 3) := by decide +kernel
theorem dX3_years_42 : decode cX3_years 42 = .ok (.lmul, 1) := by decide +kernel
theorem dX3_years_43 : decode cX3_years 43 = .ok (.ldc2_w 224, 3) := by decide +kernel
theorem dX3_years_46 : decode cX3_years 46 = .ok (.ladd, 1) := by decide +kernel
theorem dX3_years_47 : decode cX3_years 47 = .ok (.putfield 218, 3) := by decide +kernel
theorem dX3_years_50 : decode cX3_years 50 = .ok (.aload_n 0, 1) := by decide +kernel
theorem dX3_years_51 : decode cX3_years 51 = .ok (.aload_n 0, 1) := by decide +kernel
theorem dX3_years_52 : decode cX3_years 52 = .ok (.getfield 218, 3) := by decide +kernel
theorem dX3_years_55 : decode cX3_years 55 = .ok (.bipush 33, 2) := by decide +kernel
theorem dX3_years_57 : decode cX3_years 57 = .ok (.lushr, 1) := by decide +kernel
theorem dX3_years_58 : decode cX3_years 58 = .ok (.ldc2_w 226, 3) := by decide +kernel
theorem dX3_years_61 : decode cX3_years 61 = .ok (.lrem, 1) := by decide +kernel
theorem dX3_years_62 : decode cX3_years 62 = .ok (.l2i, 1) := by decide +kernel
theorem dX3_years_63 : decode cX3_years 63 = .ok (.invokevirtual 228, 3) := by decide +kernel
theorem dX3_years_66 : decode cX3_years 66 = .ok (.iload_n 2, 1) := by decide +kernel
theorem dX3_years_67 : decode cX3_years 67 = .ok (.aload_n 0, 1) := by decide +kernel
theorem dX3_years_68 : decode cX3_years 68 = .ok (.getfield 27, 3) := by decide +kernel
theorem dX3_years_71 : decode cX3_years 71 = .ok (.invokevirtual 132, 3) := by decide +kernel
theorem dX3_years_74 : decode cX3_years 74 = .ok (.invokestatic 136, 3) := by decide +kernel
theorem dX3_years_77 : decode cX3_years 77 = .ok (.iadd, 1) := by decide +kernel
theorem dX3_years_78 : decode cX3_years 78 = .ok (.istore_n 2, 1) := by decide +kernel
theorem dX3_years_79 : decode cX3_years 79 = .ok (.iinc 3 1, 3) := by decide +kernel
theorem dX3_years_82 : decode cX3_years 82 = .ok (.goto (-53), 3) := by decide +kernel
theorem dX3_years_85 : decode cX3_years 85 = .ok (.iload_n 2, 1) := by decide +kernel
theorem dX3_years_86 : decode cX3_years 86 = .ok (.ireturn, 1) := by decide +kernel
theorem dX3_keep_0 : decode cX3_keep 0 = .ok (.iload_n 1, 1) := by decide +kernel
theorem dX3_keep_1 : decode cX3_keep 1 = .ok (.ifCond .lt 8, 3) := by decide +kernel
theorem dX3_keep_4 : decode cX3_keep 4 = .ok (.iload_n 1, 1) := by decide +kernel
theorem dX3_keep_5 : decode cX3_keep 5 = .ok (.iconst 2, 1) := by decide +kernel
theorem dX3_keep_6 : decode cX3_keep 6 = .ok (.if_icmp .lt 5, 3) := by decide +kernel
theorem dX3_keep_9 : decode cX3_keep 9 = .ok (.iconst (-1), 1) := by decide +kernel
theorem dX3_keep_10 : decode cX3_keep 10 = .ok (.ireturn, 1) := by decide +kernel
theorem dX3_keep_11 : decode cX3_keep 11 = .ok (.aload_n 0, 1) := by decide +kernel
theorem dX3_keep_12 : decode cX3_keep 12 = .ok (.getfield 39, 3) := by decide +kernel
theorem dX3_keep_15 : decode cX3_keep 15 = .ok (.iload_n 1, 1) := by decide +kernel
theorem dX3_keep_16 : decode cX3_keep 16 = .ok (.aload_n 0, 1) := by decide +kernel
theorem dX3_keep_17 : decode cX3_keep 17 = .ok (.getfield 23, 3) := by decide +kernel
theorem dX3_keep_20 : decode cX3_keep 20 = .ok (.invokevirtual 231, 3) := by decide +kernel
theorem dX3_keep_23 : decode cX3_keep 23 = .ok (.aload_n 0, 1) := by decide +kernel
theorem dX3_keep_24 : decode cX3_keep 24 = .ok (.getfield 42, 3) := by decide +kernel
theorem dX3_keep_27 : decode cX3_keep 27 = .ok (.iload_n 1, 1) := by decide +kernel
theorem dX3_keep_28 : decode cX3_keep 28 = .ok (.iconst 1, 1) := by decide +kernel
theorem dX3_keep_29 : decode cX3_keep 29 = .ok (.bastore, 1) := by decide +kernel
theorem dX3_keep_30 : decode cX3_keep 30 = .ok (.aload_n 0, 1) := by decide +kernel
theorem dX3_keep_31 : decode cX3_keep 31 = .ok (.getfield 23, 3) := by decide +kernel
theorem dX3_keep_34 : decode cX3_keep 34 = .ok (.getfield 234, 3) := by decide +kernel
theorem dX3_keep_37 : decode cX3_keep 37 = .ok (.ireturn, 1) := by decide +kernel
theorem dX3_again_0 : decode cX3_again 0 = .ok (.iload_n 1, 1) := by decide +kernel
theorem dX3_again_1 : decode cX3_again 1 = .ok (.ifCond .lt 8, 3) := by decide +kernel
theorem dX3_again_4 : decode cX3_again 4 = .ok (.iload_n 1, 1) := by decide +kernel
theorem dX3_again_5 : decode cX3_again 5 = .ok (.iconst 2, 1) := by decide +kernel
theorem dX3_again_6 : decode cX3_again 6 = .ok (.if_icmp .lt 5, 3) := by decide +kernel
theorem dX3_again_9 : decode cX3_again 9 = .ok (.iconst (-1), 1) := by decide +kernel
theorem dX3_again_10 : decode cX3_again 10 = .ok (.ireturn, 1) := by decide +kernel
theorem dX3_again_11 : decode cX3_again 11 = .ok (.aload_n 0, 1) := by decide +kernel
theorem dX3_again_12 : decode cX3_again 12 = .ok (.getfield 42, 3) := by decide +kernel
theorem dX3_again_15 : decode cX3_again 15 = .ok (.iload_n 1, 1) := by decide +kernel
theorem dX3_again_16 : decode cX3_again 16 = .ok (.baload, 1) := by decide +kernel
theorem dX3_again_17 : decode cX3_again 17 = .ok (.ifCond .ne 6, 3) := by decide +kernel
theorem dX3_again_20 : decode cX3_again 20 = .ok (.bipush (-3), 2) := by decide +kernel
theorem dX3_again_22 : decode cX3_again 22 = .ok (.ireturn, 1) := by decide +kernel
theorem dX3_again_23 : decode cX3_again 23 = .ok (.aload_n 0, 1) := by decide +kernel
theorem dX3_again_24 : decode cX3_again 24 = .ok (.getfield 39, 3) := by decide +kernel
theorem dX3_again_27 : decode cX3_again 27 = .ok (.iload_n 1, 1) := by decide +kernel
theorem dX3_again_28 : decode cX3_again 28 = .ok (.aload_n 0, 1) := by decide +kernel
theorem dX3_again_29 : decode cX3_again 29 = .ok (.getfield 23, 3) := by decide +kernel
theorem dX3_again_32 : decode cX3_again 32 = .ok (.invokevirtual 165, 3) := by decide +kernel
theorem dX3_again_35 : decode cX3_again 35 = .ok (.aload_n 0, 1) := by decide +kernel
theorem dX3_again_36 : decode cX3_again 36 = .ok (.iconst 0, 1) := by decide +kernel
theorem dX3_again_37 : decode cX3_again 37 = .ok (.putfield 70, 3) := by decide +kernel
theorem dX3_again_40 : decode cX3_again 40 = .ok (.aload_n 0, 1) := by decide +kernel
theorem dX3_again_41 : decode cX3_again 41 = .ok (.getfield 23, 3) := by decide +kernel
theorem dX3_again_44 : decode cX3_again 44 = .ok (.getfield 234, 3) := by decide +kernel
theorem dX3_again_47 : decode cX3_again 47 = .ok (.ireturn, 1) := by decide +kernel
theorem dX3_count_0 : decode cX3_count 0 = .ok (.iload_n 1, 1) := by decide +kernel
theorem dX3_count_1 : decode cX3_count 1 = .ok (.tableswitch 148 0 10 #[59, 64, 72, 80, 88, 104, 112, 120, 129, 138, 143], 59) := by decide +kernel
theorem dX3_count_60 : decode cX3_count 60 = .ok (.aload_n 0, 1) := by decide +kernel
theorem dX3_count_61 : decode cX3_count 61 = .ok (.getfield 58, 3) := by decide +kernel
theorem dX3_count_64 : decode cX3_count 64 = .ok (.ireturn, 1) := by decide +kernel
theorem dX3_count_65 : decode cX3_count 65 = .ok (.aload_n 0, 1) := by decide +kernel
theorem dX3_count_66 : decode cX3_count 66 = .ok (.getfield 23, 3) := by decide +kernel
theorem dX3_count_69 : decode cX3_count 69 = .ok (.getfield 73, 3) := by decide +kernel
theorem dX3_count_72 : decode cX3_count 72 = .ok (.ireturn, 1) := by decide +kernel
theorem dX3_count_73 : decode cX3_count 73 = .ok (.aload_n 0, 1) := by decide +kernel
theorem dX3_count_74 : decode cX3_count 74 = .ok (.getfield 23, 3) := by decide +kernel
theorem dX3_count_77 : decode cX3_count 77 = .ok (.getfield 76, 3) := by decide +kernel
theorem dX3_count_80 : decode cX3_count 80 = .ok (.ireturn, 1) := by decide +kernel
theorem dX3_count_81 : decode cX3_count 81 = .ok (.aload_n 0, 1) := by decide +kernel
theorem dX3_count_82 : decode cX3_count 82 = .ok (.getfield 23, 3) := by decide +kernel
theorem dX3_count_85 : decode cX3_count 85 = .ok (.getfield 234, 3) := by decide +kernel
theorem dX3_count_88 : decode cX3_count 88 = .ok (.ireturn, 1) := by decide +kernel
theorem dX3_count_89 : decode cX3_count 89 = .ok (.aload_n 0, 1) := by decide +kernel
theorem dX3_count_90 : decode cX3_count 90 = .ok (.getfield 23, 3) := by decide +kernel
theorem dX3_count_93 : decode cX3_count 93 = .ok (.getfield 161, 3) := by decide +kernel
theorem dX3_count_96 : decode cX3_count 96 = .ok (.ifCond .eq 7, 3) := by decide +kernel
theorem dX3_count_99 : decode cX3_count 99 = .ok (.iconst 1, 1) := by decide +kernel
theorem dX3_count_100 : decode cX3_count 100 = .ok (.goto 4, 3) := by decide +kernel
theorem dX3_count_103 : decode cX3_count 103 = .ok (.iconst 0, 1) := by decide +kernel
theorem dX3_count_104 : decode cX3_count 104 = .ok (.ireturn, 1) := by decide +kernel
theorem dX3_count_105 : decode cX3_count 105 = .ok (.aload_n 0, 1) := by decide +kernel
theorem dX3_count_106 : decode cX3_count 106 = .ok (.getfield 23, 3) := by decide +kernel
theorem dX3_count_109 : decode cX3_count 109 = .ok (.invokevirtual 132, 3) := by decide +kernel
theorem dX3_count_112 : decode cX3_count 112 = .ok (.ireturn, 1) := by decide +kernel
theorem dX3_count_113 : decode cX3_count 113 = .ok (.aload_n 0, 1) := by decide +kernel
theorem dX3_count_114 : decode cX3_count 114 = .ok (.getfield 23, 3) := by decide +kernel
theorem dX3_count_117 : decode cX3_count 117 = .ok (.invokevirtual 237, 3) := by decide +kernel
theorem dX3_count_120 : decode cX3_count 120 = .ok (.ireturn, 1) := by decide +kernel
theorem dX3_count_121 : decode cX3_count 121 = .ok (.aload_n 0, 1) := by decide +kernel
theorem dX3_count_122 : decode cX3_count 122 = .ok (.getfield 23, 3) := by decide +kernel
theorem dX3_count_125 : decode cX3_count 125 = .ok (.iconst 2, 1) := by decide +kernel
theorem dX3_count_126 : decode cX3_count 126 = .ok (.invokevirtual 240, 3) := by decide +kernel
theorem dX3_count_129 : decode cX3_count 129 = .ok (.ireturn, 1) := by decide +kernel
theorem dX3_count_130 : decode cX3_count 130 = .ok (.aload_n 0, 1) := by decide +kernel
theorem dX3_count_131 : decode cX3_count 131 = .ok (.getfield 23, 3) := by decide +kernel
theorem dX3_count_134 : decode cX3_count 134 = .ok (.iconst 3, 1) := by decide +kernel
theorem dX3_count_135 : decode cX3_count 135 = .ok (.invokevirtual 240, 3) := by decide +kernel
theorem dX3_count_138 : decode cX3_count 138 = .ok (.ireturn, 1) := by decide +kernel
theorem dX3_count_139 : decode cX3_count 139 = .ok (.aload_n 0, 1) := by decide +kernel
theorem dX3_count_140 : decode cX3_count 140 = .ok (.getfield 70, 3) := by decide +kernel
theorem dX3_count_143 : decode cX3_count 143 = .ok (.ireturn, 1) := by decide +kernel
theorem dX3_count_144 : decode cX3_count 144 = .ok (.aload_n 0, 1) := by decide +kernel
theorem dX3_count_145 : decode cX3_count 145 = .ok (.getfield 187, 3) := by decide +kernel
theorem dX3_count_148 : decode cX3_count 148 = .ok (.ireturn, 1) := by decide +kernel
theorem dX3_count_149 : decode cX3_count 149 = .ok (.bipush (-2), 2) := by decide +kernel
theorem dX3_count_151 : decode cX3_count 151 = .ok (.ireturn, 1) := by decide +kernel
theorem dX3_readInto_0 : decode cX3_readInto 0 = .ok (.aload_n 1, 1) := by decide +kernel
theorem dX3_readInto_1 : decode cX3_readInto 1 = .ok (.invokevirtual 243, 3) := by decide +kernel
theorem dX3_readInto_4 : decode cX3_readInto 4 = .ok (.aload_n 0, 1) := by decide +kernel
theorem dX3_readInto_5 : decode cX3_readInto 5 = .ok (.getfield 16, 3) := by decide +kernel
theorem dX3_readInto_8 : decode cX3_readInto 8 = .ok (.invokevirtual 246, 3) := by decide +kernel
theorem dX3_readInto_11 : decode cX3_readInto 11 = .ok (.iconst 0, 1) := by decide +kernel
theorem dX3_readInto_12 : decode cX3_readInto 12 = .ok (.istore_n 2, 1) := by decide +kernel
theorem dX3_readInto_13 : decode cX3_readInto 13 = .ok (.iload_n 2, 1) := by decide +kernel
theorem dX3_readInto_14 : decode cX3_readInto 14 = .ok (.aload_n 0, 1) := by decide +kernel
theorem dX3_readInto_15 : decode cX3_readInto 15 = .ok (.getfield 58, 3) := by decide +kernel
theorem dX3_readInto_18 : decode cX3_readInto 18 = .ok (.if_icmp .ge 28, 3) := by decide +kernel
theorem dX3_readInto_21 : decode cX3_readInto 21 = .ok (.aload_n 0, 1) := by decide +kernel
theorem dX3_readInto_22 : decode cX3_readInto 22 = .ok (.getfield 16, 3) := by decide +kernel
theorem dX3_readInto_25 : decode cX3_readInto 25 = .ok (.aload_n 0, 1) := by decide +kernel
theorem dX3_readInto_26 : decode cX3_readInto 26 = .ok (.getfield 9, 3) := by decide +kernel
theorem dX3_readInto_29 : decode cX3_readInto 29 = .ok (.iload_n 2, 1) := by decide +kernel
theorem dX3_readInto_30 : decode cX3_readInto 30 = .ok (.iaload, 1) := by decide +kernel
theorem dX3_readInto_31 : decode cX3_readInto 31 = .ok (.aload_n 1, 1) := by decide +kernel
theorem dX3_readInto_32 : decode cX3_readInto 32 = .ok (.invokevirtual 249, 3) := by decide +kernel
theorem dX3_readInto_35 : decode cX3_readInto 35 = .ok (.ifCond .ne 5, 3) := by decide +kernel
theorem dX3_readInto_38 : decode cX3_readInto 38 = .ok (.iload_n 2, 1) := by decide +kernel
theorem dX3_readInto_39 : decode cX3_readInto 39 = .ok (.ireturn, 1) := by decide +kernel
theorem dX3_readInto_40 : decode cX3_readInto 40 = .ok (.iinc 2 1, 3) := by decide +kernel
theorem dX3_readInto_43 : decode cX3_readInto 43 = .ok (.goto (-30), 3) := by decide +kernel
theorem dX3_readInto_46 : decode cX3_readInto 46 = .ok (.aload_n 0, 1) := by decide +kernel
theorem dX3_readInto_47 : decode cX3_readInto 47 = .ok (.getfield 16, 3) := by decide +kernel
theorem dX3_readInto_50 : decode cX3_readInto 50 = .ok (.invokevirtual 253, 3) := by decide +kernel
theorem dX3_readInto_53 : decode cX3_readInto 53 = .ok (.ifCond .eq 8, 3) := by decide +kernel
theorem dX3_readInto_56 : decode cX3_readInto 56 = .ok (.bipush (-9), 2) := by decide +kernel
theorem dX3_readInto_58 : decode cX3_readInto 58 = .ok (.goto 7, 3) := by decide +kernel
theorem dX3_readInto_61 : decode cX3_readInto 61 = .ok (.aload_n 0, 1) := by decide +kernel
theorem dX3_readInto_62 : decode cX3_readInto 62 = .ok (.getfield 58, 3) := by decide +kernel
theorem dX3_readInto_65 : decode cX3_readInto 65 = .ok (.ireturn, 1) := by decide +kernel
theorem dX3_remember_0 : decode cX3_remember 0 = .ok (.aload_n 0, 1) := by decide +kernel
theorem dX3_remember_1 : decode cX3_remember 1 = .ok (.getfield 70, 3) := by decide +kernel
theorem dX3_remember_4 : decode cX3_remember 4 = .ok (.bipush 14, 2) := by decide +kernel
theorem dX3_remember_6 : decode cX3_remember 6 = .ok (.if_icmp .lt 16, 3) := by decide +kernel
theorem dX3_remember_9 : decode cX3_remember 9 = .ok (.aload_n 0, 1) := by decide +kernel
theorem dX3_remember_10 : decode cX3_remember 10 = .ok (.getfield 35, 3) := by decide +kernel
theorem dX3_remember_13 : decode cX3_remember 13 = .ok (.invokevirtual 257, 3) := by decide +kernel
theorem dX3_remember_16 : decode cX3_remember 16 = .ok (.aload_n 0, 1) := by decide +kernel
theorem dX3_remember_17 : decode cX3_remember 17 = .ok (.bipush 13, 2) := by decide +kernel
theorem dX3_remember_19 : decode cX3_remember 19 = .ok (.putfield 70, 3) := by decide +kernel
theorem dX3_remember_22 : decode cX3_remember 22 = .ok (.aload_n 0, 1) := by decide +kernel
theorem dX3_remember_23 : decode cX3_remember 23 = .ok (.getfield 35, 3) := by decide +kernel
theorem dX3_remember_26 : decode cX3_remember 26 = .ok (.aload_n 0, 1) := by decide +kernel
theorem dX3_remember_27 : decode cX3_remember 27 = .ok (.getfield 70, 3) := by decide +kernel
theorem dX3_remember_30 : decode cX3_remember 30 = .ok (.aload_n 0, 1) := by decide +kernel
theorem dX3_remember_31 : decode cX3_remember 31 = .ok (.getfield 23, 3) := by decide +kernel
theorem dX3_remember_34 : decode cX3_remember 34 = .ok (.invokevirtual 231, 3) := by decide +kernel
theorem dX3_remember_37 : decode cX3_remember 37 = .ok (.aload_n 0, 1) := by decide +kernel
theorem dX3_remember_38 : decode cX3_remember 38 = .ok (.dup, 1) := by decide +kernel
theorem dX3_remember_39 : decode cX3_remember 39 = .ok (.getfield 70, 3) := by decide +kernel
theorem dX3_remember_42 : decode cX3_remember 42 = .ok (.iconst 1, 1) := by decide +kernel
theorem dX3_remember_43 : decode cX3_remember 43 = .ok (.iadd, 1) := by decide +kernel
theorem dX3_remember_44 : decode cX3_remember 44 = .ok (.putfield 70, 3) := by decide +kernel
theorem dX3_remember_47 : decode cX3_remember 47 = .ok (.return_, 1) := by decide +kernel
theorem dX3_tryToSend_0 : decode cX3_tryToSend 0 = .ok (.aload_n 0, 1) := by decide +kernel
theorem dX3_tryToSend_1 : decode cX3_tryToSend 1 = .ok (.getfield 27, 3) := by decide +kernel
theorem dX3_tryToSend_4 : decode cX3_tryToSend 4 = .ok (.aload_n 0, 1) := by decide +kernel
theorem dX3_tryToSend_5 : decode cX3_tryToSend 5 = .ok (.getfield 23, 3) := by decide +kernel
theorem dX3_tryToSend_8 : decode cX3_tryToSend 8 = .ok (.invokevirtual 66, 3) := by decide +kernel
theorem dX3_tryToSend_11 : decode cX3_tryToSend 11 = .ok (.iconst 0, 1) := by decide +kernel
theorem dX3_tryToSend_12 : decode cX3_tryToSend 12 = .ok (.istore_n 3, 1) := by decide +kernel
theorem dX3_tryToSend_13 : decode cX3_tryToSend 13 = .ok (.iload_n 3, 1) := by decide +kernel
theorem dX3_tryToSend_14 : decode cX3_tryToSend 14 = .ok (.aload_n 0, 1) := by decide +kernel
theorem dX3_tryToSend_15 : decode cX3_tryToSend 15 = .ok (.getfield 27, 3) := by decide +kernel
theorem dX3_tryToSend_18 : decode cX3_tryToSend 18 = .ok (.getfield 73, 3) := by decide +kernel
theorem dX3_tryToSend_21 : decode cX3_tryToSend 21 = .ok (.if_icmp .ge 27, 3) := by decide +kernel
theorem dX3_tryToSend_24 : decode cX3_tryToSend 24 = .ok (.iload_n 2, 1) := by decide +kernel
theorem dX3_tryToSend_25 : decode cX3_tryToSend 25 = .ok (.iload_n 3, 1) := by decide +kernel
theorem dX3_tryToSend_26 : decode cX3_tryToSend 26 = .ok (.ishr, 1) := by decide +kernel
theorem dX3_tryToSend_27 : decode cX3_tryToSend 27 = .ok (.iconst 1, 1) := by decide +kernel
theorem dX3_tryToSend_28 : decode cX3_tryToSend 28 = .ok (.iand, 1) := by decide +kernel
theorem dX3_tryToSend_29 : decode cX3_tryToSend 29 = .ok (.iconst 1, 1) := by decide +kernel
theorem dX3_tryToSend_30 : decode cX3_tryToSend 30 = .ok (.if_icmp .ne 12, 3) := by decide +kernel
theorem dX3_tryToSend_33 : decode cX3_tryToSend 33 = .ok (.aload_n 0, 1) := by decide +kernel
theorem dX3_tryToSend_34 : decode cX3_tryToSend 34 = .ok (.getfield 27, 3) := by decide +kernel
theorem dX3_tryToSend_37 : decode cX3_tryToSend 37 = .ok (.iload_n 3, 1) := by decide +kernel
theorem dX3_tryToSend_38 : decode cX3_tryToSend 38 = .ok (.iload_n 1, 1) := by decide +kernel
theorem dX3_tryToSend_39 : decode cX3_tryToSend 39 = .ok (.invokevirtual 145, 3) := by decide +kernel
theorem dX3_tryToSend_42 : decode cX3_tryToSend 42 = .ok (.iinc 3 1, 3) := by decide +kernel
theorem dX3_tryToSend_45 : decode cX3_tryToSend 45 = .ok (.goto (-32), 3) := by decide +kernel
theorem dX3_tryToSend_48 : decode cX3_tryToSend 48 = .ok (.aload_n 0, 1) := by decide +kernel
theorem dX3_tryToSend_49 : decode cX3_tryToSend 49 = .ok (.getfield 27, 3) := by decide +kernel
theorem dX3_tryToSend_52 : decode cX3_tryToSend 52 = .ok (.iload_n 1, 1) := by decide +kernel
theorem dX3_tryToSend_53 : decode cX3_tryToSend 53 = .ok (.invokevirtual 149, 3) := by decide +kernel
theorem dX3_tryToSend_56 : decode cX3_tryToSend 56 = .ok (.ifCond .ne 6, 3) := by decide +kernel
theorem dX3_tryToSend_59 : decode cX3_tryToSend 59 = .ok (.bipush (-9), 2) := by decide +kernel
theorem dX3_tryToSend_61 : decode cX3_tryToSend 61 = .ok (.ireturn, 1) := by decide +kernel
theorem dX3_tryToSend_62 : decode cX3_tryToSend 62 = .ok (.aload_n 0, 1) := by decide +kernel
theorem dX3_tryToSend_63 : decode cX3_tryToSend 63 = .ok (.getfield 27, 3) := by decide +kernel
theorem dX3_tryToSend_66 : decode cX3_tryToSend 66 = .ok (.iload_n 1, 1) := by decide +kernel
theorem dX3_tryToSend_67 : decode cX3_tryToSend 67 = .ok (.invokevirtual 152, 3) := by decide +kernel
theorem dX3_tryToSend_70 : decode cX3_tryToSend 70 = .ok (.aload_n 0, 1) := by decide +kernel
theorem dX3_tryToSend_71 : decode cX3_tryToSend 71 = .ok (.getfield 27, 3) := by decide +kernel
theorem dX3_tryToSend_74 : decode cX3_tryToSend 74 = .ok (.getfield 111, 3) := by decide +kernel
theorem dX3_tryToSend_77 : decode cX3_tryToSend 77 = .ok (.iload_n 1, 1) := by decide +kernel
theorem dX3_tryToSend_78 : decode cX3_tryToSend 78 = .ok (.iaload, 1) := by decide +kernel
theorem dX3_tryToSend_79 : decode cX3_tryToSend 79 = .ok (.istore_n 3, 1) := by decide +kernel
theorem dX3_tryToSend_80 : decode cX3_tryToSend 80 = .ok (.iconst 0, 1) := by decide +kernel
theorem dX3_tryToSend_81 : decode cX3_tryToSend 81 = .ok (.istore 4, 2) := by decide +kernel
theorem dX3_tryToSend_83 : decode cX3_tryToSend 83 = .ok (.iload 4, 2) := by decide +kernel
theorem dX3_tryToSend_85 : decode cX3_tryToSend 85 = .ok (.iload_n 3, 1) := by decide +kernel
theorem dX3_tryToSend_86 : decode cX3_tryToSend 86 = .ok (.if_icmp .ge 16, 3) := by decide +kernel
theorem dX3_tryToSend_89 : decode cX3_tryToSend 89 = .ok (.aload_n 0, 1) := by decide +kernel
theorem dX3_tryToSend_90 : decode cX3_tryToSend 90 = .ok (.getfield 27, 3) := by decide +kernel
theorem dX3_tryToSend_93 : decode cX3_tryToSend 93 = .ok (.invokevirtual 129, 3) := by decide +kernel
theorem dX3_tryToSend_96 : decode cX3_tryToSend 96 = .ok (.iinc 4 1, 3) := by decide +kernel
theorem dX3_tryToSend_99 : decode cX3_tryToSend 99 = .ok (.goto (-16), 3) := by decide +kernel
theorem dX3_tryToSend_102 : decode cX3_tryToSend 102 = .ok (.aload_n 0, 1) := by decide +kernel
theorem dX3_tryToSend_103 : decode cX3_tryToSend 103 = .ok (.getfield 27, 3) := by decide +kernel
theorem dX3_tryToSend_106 : decode cX3_tryToSend 106 = .ok (.getfield 123, 3) := by decide +kernel
theorem dX3_tryToSend_109 : decode cX3_tryToSend 109 = .ok (.iload_n 1, 1) := by decide +kernel
theorem dX3_tryToSend_110 : decode cX3_tryToSend 110 = .ok (.iaload, 1) := by decide +kernel
theorem dX3_tryToSend_111 : decode cX3_tryToSend 111 = .ok (.iconst 2, 1) := by decide +kernel
theorem dX3_tryToSend_112 : decode cX3_tryToSend 112 = .ok (.if_icmp .ne 7, 3) := by decide +kernel
theorem dX3_tryToSend_115 : decode cX3_tryToSend 115 = .ok (.iconst 1, 1) := by decide +kernel
theorem dX3_tryToSend_116 : decode cX3_tryToSend 116 = .ok (.goto 4, 3) := by decide +kernel
theorem dX3_tryToSend_119 : decode cX3_tryToSend 119 = .ok (.iconst 0, 1) := by decide +kernel
theorem dX3_tryToSend_120 : decode cX3_tryToSend 120 = .ok (.ireturn, 1) := by decide +kernel
theorem dX3_agreesWithSeen_0 : decode cX3_agreesWithSeen 0 = .ok (.iconst 0, 1) := by decide +kernel
theorem dX3_agreesWithSeen_1 : decode cX3_agreesWithSeen 1 = .ok (.istore_n 3, 1) := by decide +kernel
theorem dX3_agreesWithSeen_2 : decode cX3_agreesWithSeen 2 = .ok (.iload_n 3, 1) := by decide +kernel
theorem dX3_agreesWithSeen_3 : decode cX3_agreesWithSeen 3 = .ok (.aload_n 0, 1) := by decide +kernel
theorem dX3_agreesWithSeen_4 : decode cX3_agreesWithSeen 4 = .ok (.getfield 187, 3) := by decide +kernel
theorem dX3_agreesWithSeen_7 : decode cX3_agreesWithSeen 7 = .ok (.if_icmp .ge 75, 3) := by decide +kernel
theorem dX3_agreesWithSeen_10 : decode cX3_agreesWithSeen 10 = .ok (.aload_n 0, 1) := by decide +kernel
theorem dX3_agreesWithSeen_11 : decode cX3_agreesWithSeen 11 = .ok (.getfield 46, 3) := by decide +kernel
theorem dX3_agreesWithSeen_14 : decode cX3_agreesWithSeen 14 = .ok (.iload_n 3, 1) := by decide +kernel
theorem dX3_agreesWithSeen_15 : decode cX3_agreesWithSeen 15 = .ok (.iaload, 1) := by decide +kernel
theorem dX3_agreesWithSeen_16 : decode cX3_agreesWithSeen 16 = .ok (.iload_n 1, 1) := by decide +kernel
theorem dX3_agreesWithSeen_17 : decode cX3_agreesWithSeen 17 = .ok (.if_icmp .ne 59, 3) := by decide +kernel
theorem dX3_agreesWithSeen_20 : decode cX3_agreesWithSeen 20 = .ok (.aload_n 0, 1) := by decide +kernel
theorem dX3_agreesWithSeen_21 : decode cX3_agreesWithSeen 21 = .ok (.getfield 23, 3) := by decide +kernel
theorem dX3_agreesWithSeen_24 : decode cX3_agreesWithSeen 24 = .ok (.getfield 89, 3) := by decide +kernel
theorem dX3_agreesWithSeen_27 : decode cX3_agreesWithSeen 27 = .ok (.iload_n 1, 1) := by decide +kernel
theorem dX3_agreesWithSeen_28 : decode cX3_agreesWithSeen 28 = .ok (.iaload, 1) := by decide +kernel
theorem dX3_agreesWithSeen_29 : decode cX3_agreesWithSeen 29 = .ok (.iconst 3, 1) := by decide +kernel
theorem dX3_agreesWithSeen_30 : decode cX3_agreesWithSeen 30 = .ok (.if_icmp .ne 7, 3) := by decide +kernel
theorem dX3_agreesWithSeen_33 : decode cX3_agreesWithSeen 33 = .ok (.iload_n 2, 1) := by decide +kernel
theorem dX3_agreesWithSeen_34 : decode cX3_agreesWithSeen 34 = .ok (.goto 11, 3) := by decide +kernel
theorem dX3_agreesWithSeen_37 : decode cX3_agreesWithSeen 37 = .ok (.iload_n 2, 1) := by decide +kernel
theorem dX3_agreesWithSeen_38 : decode cX3_agreesWithSeen 38 = .ok (.aload_n 0, 1) := by decide +kernel
theorem dX3_agreesWithSeen_39 : decode cX3_agreesWithSeen 39 = .ok (.getfield 49, 3) := by decide +kernel
theorem dX3_agreesWithSeen_42 : decode cX3_agreesWithSeen 42 = .ok (.iload_n 3, 1) := by decide +kernel
theorem dX3_agreesWithSeen_43 : decode cX3_agreesWithSeen 43 = .ok (.iaload, 1) := by decide +kernel
theorem dX3_agreesWithSeen_44 : decode cX3_agreesWithSeen 44 = .ok (.iadd, 1) := by decide +kernel
theorem dX3_agreesWithSeen_45 : decode cX3_agreesWithSeen 45 = .ok (.istore 4, 2) := by decide +kernel
theorem dX3_agreesWithSeen_47 : decode cX3_agreesWithSeen 47 = .ok (.iload 4, 2) := by decide +kernel
theorem dX3_agreesWithSeen_49 : decode cX3_agreesWithSeen 49 = .ok (.aload_n 0, 1) := by decide +kernel
theorem dX3_agreesWithSeen_50 : decode cX3_agreesWithSeen 50 = .ok (.getfield 23, 3) := by decide +kernel
theorem dX3_agreesWithSeen_53 : decode cX3_agreesWithSeen 53 = .ok (.iload_n 1, 1) := by decide +kernel
theorem dX3_agreesWithSeen_54 : decode cX3_agreesWithSeen 54 = .ok (.invokevirtual 92, 3) := by decide +kernel
theorem dX3_agreesWithSeen_57 : decode cX3_agreesWithSeen 57 = .ok (.if_icmp .ge 7, 3) := by decide +kernel
theorem dX3_agreesWithSeen_60 : decode cX3_agreesWithSeen 60 = .ok (.iconst 1, 1) := by decide +kernel
theorem dX3_agreesWithSeen_61 : decode cX3_agreesWithSeen 61 = .ok (.goto 4, 3) := by decide +kernel
theorem dX3_agreesWithSeen_64 : decode cX3_agreesWithSeen 64 = .ok (.iconst 0, 1) := by decide +kernel
theorem dX3_agreesWithSeen_65 : decode cX3_agreesWithSeen 65 = .ok (.aload_n 0, 1) := by decide +kernel
theorem dX3_agreesWithSeen_66 : decode cX3_agreesWithSeen 66 = .ok (.getfield 52, 3) := by decide +kernel
theorem dX3_agreesWithSeen_69 : decode cX3_agreesWithSeen 69 = .ok (.iload_n 3, 1) := by decide +kernel
theorem dX3_agreesWithSeen_70 : decode cX3_agreesWithSeen 70 = .ok (.baload, 1) := by decide +kernel
theorem dX3_agreesWithSeen_71 : decode cX3_agreesWithSeen 71 = .ok (.if_icmp .eq 5, 3) := by decide +kernel
theorem dX3_agreesWithSeen_74 : decode cX3_agreesWithSeen 74 = .ok (.iconst 0, 1) := by decide +kernel
theorem dX3_agreesWithSeen_75 : decode cX3_agreesWithSeen 75 = .ok (.ireturn, 1) := by decide +kernel
theorem dX3_agreesWithSeen_76 : decode cX3_agreesWithSeen 76 = .ok (.iinc 3 1, 3) := by decide +kernel
theorem dX3_agreesWithSeen_79 : decode cX3_agreesWithSeen 79 = .ok (.goto (-77), 3) := by decide +kernel
theorem dX3_agreesWithSeen_82 : decode cX3_agreesWithSeen 82 = .ok (.iconst 1, 1) := by decide +kernel
theorem dX3_agreesWithSeen_83 : decode cX3_agreesWithSeen 83 = .ok (.ireturn, 1) := by decide +kernel
theorem dX3_tryWeeks_0 : decode cX3_tryWeeks 0 = .ok (.iconst 1, 1) := by decide +kernel
theorem dX3_tryWeeks_1 : decode cX3_tryWeeks 1 = .ok (.istore_n 2, 1) := by decide +kernel
theorem dX3_tryWeeks_2 : decode cX3_tryWeeks 2 = .ok (.iload_n 2, 1) := by decide +kernel
theorem dX3_tryWeeks_3 : decode cX3_tryWeeks 3 = .ok (.iload_n 1, 1) := by decide +kernel
theorem dX3_tryWeeks_4 : decode cX3_tryWeeks 4 = .ok (.if_icmp .gt 60, 3) := by decide +kernel
theorem dX3_tryWeeks_7 : decode cX3_tryWeeks 7 = .ok (.iload_n 2, 1) := by decide +kernel
theorem dX3_tryWeeks_8 : decode cX3_tryWeeks 8 = .ok (.iload_n 1, 1) := by decide +kernel
theorem dX3_tryWeeks_9 : decode cX3_tryWeeks 9 = .ok (.if_icmp .ne 14, 3) := by decide +kernel
theorem dX3_tryWeeks_12 : decode cX3_tryWeeks 12 = .ok (.iload_n 1, 1) := by decide +kernel
theorem dX3_tryWeeks_13 : decode cX3_tryWeeks 13 = .ok (.iconst 2, 1) := by decide +kernel
theorem dX3_tryWeeks_14 : decode cX3_tryWeeks 14 = .ok (.irem, 1) := by decide +kernel
theorem dX3_tryWeeks_15 : decode cX3_tryWeeks 15 = .ok (.iconst 1, 1) := by decide +kernel
theorem dX3_tryWeeks_16 : decode cX3_tryWeeks 16 = .ok (.if_icmp .ne 7, 3) := by decide +kernel
theorem dX3_tryWeeks_19 : decode cX3_tryWeeks 19 = .ok (.iconst 1, 1) := by decide +kernel
theorem dX3_tryWeeks_20 : decode cX3_tryWeeks 20 = .ok (.goto 4, 3) := by decide +kernel
theorem dX3_tryWeeks_23 : decode cX3_tryWeeks 23 = .ok (.iconst 0, 1) := by decide +kernel
theorem dX3_tryWeeks_24 : decode cX3_tryWeeks 24 = .ok (.istore_n 3, 1) := by decide +kernel
theorem dX3_tryWeeks_25 : decode cX3_tryWeeks 25 = .ok (.aload_n 0, 1) := by decide +kernel
theorem dX3_tryWeeks_26 : decode cX3_tryWeeks 26 = .ok (.getfield 27, 3) := by decide +kernel
theorem dX3_tryWeeks_29 : decode cX3_tryWeeks 29 = .ok (.aload_n 0, 1) := by decide +kernel
theorem dX3_tryWeeks_30 : decode cX3_tryWeeks 30 = .ok (.getfield 23, 3) := by decide +kernel
theorem dX3_tryWeeks_33 : decode cX3_tryWeeks 33 = .ok (.getfield 161, 3) := by decide +kernel
theorem dX3_tryWeeks_36 : decode cX3_tryWeeks 36 = .ok (.ifCond .ne 7, 3) := by decide +kernel
theorem dX3_tryWeeks_39 : decode cX3_tryWeeks 39 = .ok (.iload_n 3, 1) := by decide +kernel
theorem dX3_tryWeeks_40 : decode cX3_tryWeeks 40 = .ok (.ifCond .eq 7, 3) := by decide +kernel
theorem dX3_tryWeeks_43 : decode cX3_tryWeeks 43 = .ok (.iconst 1, 1) := by decide +kernel
theorem dX3_tryWeeks_44 : decode cX3_tryWeeks 44 = .ok (.goto 4, 3) := by decide +kernel
theorem dX3_tryWeeks_47 : decode cX3_tryWeeks 47 = .ok (.iconst 0, 1) := by decide +kernel
theorem dX3_tryWeeks_48 : decode cX3_tryWeeks 48 = .ok (.putfield 161, 3) := by decide +kernel
theorem dX3_tryWeeks_51 : decode cX3_tryWeeks 51 = .ok (.aload_n 0, 1) := by decide +kernel
theorem dX3_tryWeeks_52 : decode cX3_tryWeeks 52 = .ok (.getfield 27, 3) := by decide +kernel
theorem dX3_tryWeeks_55 : decode cX3_tryWeeks 55 = .ok (.invokevirtual 129, 3) := by decide +kernel
theorem dX3_tryWeeks_58 : decode cX3_tryWeeks 58 = .ok (.iinc 2 1, 3) := by decide +kernel
theorem dX3_tryWeeks_61 : decode cX3_tryWeeks 61 = .ok (.goto (-59), 3) := by decide +kernel
theorem dX3_tryWeeks_64 : decode cX3_tryWeeks 64 = .ok (.return_, 1) := by decide +kernel
theorem dX3_isContent_0 : decode cX3_isContent 0 = .ok (.iload_n 2, 1) := by decide +kernel
theorem dX3_isContent_1 : decode cX3_isContent 1 = .ok (.iconst 1, 1) := by decide +kernel
theorem dX3_isContent_2 : decode cX3_isContent 2 = .ok (.if_icmp .ne 9, 3) := by decide +kernel
theorem dX3_isContent_5 : decode cX3_isContent 5 = .ok (.iload_n 0, 1) := by decide +kernel
theorem dX3_isContent_6 : decode cX3_isContent 6 = .ok (.iconst 3, 1) := by decide +kernel
theorem dX3_isContent_7 : decode cX3_isContent 7 = .ok (.isub, 1) := by decide +kernel
theorem dX3_isContent_8 : decode cX3_isContent 8 = .ok (.goto 4, 3) := by decide +kernel
theorem dX3_isContent_11 : decode cX3_isContent 11 = .ok (.iload_n 0, 1) := by decide +kernel
theorem dX3_isContent_12 : decode cX3_isContent 12 = .ok (.istore_n 3, 1) := by decide +kernel
theorem dX3_isContent_13 : decode cX3_isContent 13 = .ok (.iload_n 1, 1) := by decide +kernel
theorem dX3_isContent_14 : decode cX3_isContent 14 = .ok (.iconst 1, 1) := by decide +kernel
theorem dX3_isContent_15 : decode cX3_isContent 15 = .ok (.if_icmp .ne 15, 3) := by decide +kernel
theorem dX3_isContent_18 : decode cX3_isContent 18 = .ok (.iload_n 3, 1) := by decide +kernel
theorem dX3_isContent_19 : decode cX3_isContent 19 = .ok (.ifCond .lt 7, 3) := by decide +kernel
theorem dX3_isContent_22 : decode cX3_isContent 22 = .ok (.iconst 1, 1) := by decide +kernel
theorem dX3_isContent_23 : decode cX3_isContent 23 = .ok (.goto 16, 3) := by decide +kernel
theorem dX3_isContent_26 : decode cX3_isContent 26 = .ok (.iconst 0, 1) := by decide +kernel
theorem dX3_isContent_27 : decode cX3_isContent 27 = .ok (.goto 12, 3) := by decide +kernel
theorem dX3_isContent_30 : decode cX3_isContent 30 = .ok (.iload_n 3, 1) := by decide +kernel
theorem dX3_isContent_31 : decode cX3_isContent 31 = .ok (.ifCond .gt 7, 3) := by decide +kernel
theorem dX3_isContent_34 : decode cX3_isContent 34 = .ok (.iconst 1, 1) := by decide +kernel
theorem dX3_isContent_35 : decode cX3_isContent 35 = .ok (.goto 4, 3) := by decide +kernel
theorem dX3_isContent_38 : decode cX3_isContent 38 = .ok (.iconst 0, 1) := by decide +kernel
theorem dX3_isContent_39 : decode cX3_isContent 39 = .ok (.ireturn, 1) := by decide +kernel
theorem dX3_toldPart_0 : decode cX3_toldPart 0 = .ok (.lload_n 0, 1) := by decide +kernel
theorem dX3_toldPart_1 : decode cX3_toldPart 1 = .ok (.lload_n 2, 1) := by decide +kernel
theorem dX3_toldPart_2 : decode cX3_toldPart 2 = .ok (.invokestatic 260, 3) := by decide +kernel
theorem dX3_toldPart_5 : decode cX3_toldPart 5 = .ok (.lstore 5, 2) := by decide +kernel
theorem dX3_toldPart_7 : decode cX3_toldPart 7 = .ok (.iload 4, 2) := by decide +kernel
theorem dX3_toldPart_9 : decode cX3_toldPart 9 = .ok (.ifCond .eq 7, 3) := by decide +kernel
theorem dX3_toldPart_12 : decode cX3_toldPart 12 = .ok (.lload_n 0, 1) := by decide +kernel
theorem dX3_toldPart_13 : decode cX3_toldPart 13 = .ok (.goto 4, 3) := by decide +kernel
theorem dX3_toldPart_16 : decode cX3_toldPart 16 = .ok (.lload_n 2, 1) := by decide +kernel
theorem dX3_toldPart_17 : decode cX3_toldPart 17 = .ok (.lstore 7, 2) := by decide +kernel
theorem dX3_toldPart_19 : decode cX3_toldPart 19 = .ok (.lload 5, 2) := by decide +kernel
theorem dX3_toldPart_21 : decode cX3_toldPart 21 = .ok (.lconst 1, 1) := by decide +kernel
theorem dX3_toldPart_22 : decode cX3_toldPart 22 = .ok (.lcmp, 1) := by decide +kernel
theorem dX3_toldPart_23 : decode cX3_toldPart 23 = .ok (.ifCond .le 12, 3) := by decide +kernel
theorem dX3_toldPart_26 : decode cX3_toldPart 26 = .ok (.lload 7, 2) := by decide +kernel
theorem dX3_toldPart_28 : decode cX3_toldPart 28 = .ok (.lload 5, 2) := by decide +kernel
theorem dX3_toldPart_30 : decode cX3_toldPart 30 = .ok (.ldiv, 1) := by decide +kernel
theorem dX3_toldPart_31 : decode cX3_toldPart 31 = .ok (.l2i, 1) := by decide +kernel
theorem dX3_toldPart_32 : decode cX3_toldPart 32 = .ok (.goto 6, 3) := by decide +kernel
theorem dX3_toldPart_35 : decode cX3_toldPart 35 = .ok (.lload 7, 2) := by decide +kernel
theorem dX3_toldPart_37 : decode cX3_toldPart 37 = .ok (.l2i, 1) := by decide +kernel
theorem dX3_toldPart_38 : decode cX3_toldPart 38 = .ok (.ireturn, 1) := by decide +kernel
theorem dX3_commonDivisor_0 : decode cX3_commonDivisor 0 = .ok (.lload_n 0, 1) := by decide +kernel
theorem dX3_commonDivisor_1 : decode cX3_commonDivisor 1 = .ok (.lstore 4, 2) := by decide +kernel
theorem dX3_commonDivisor_3 : decode cX3_commonDivisor 3 = .ok (.lload_n 2, 1) := by decide +kernel
theorem dX3_commonDivisor_4 : decode cX3_commonDivisor 4 = .ok (.lstore 6, 2) := by decide +kernel
theorem dX3_commonDivisor_6 : decode cX3_commonDivisor 6 = .ok (.iconst 0, 1) := by decide +kernel
theorem dX3_commonDivisor_7 : decode cX3_commonDivisor 7 = .ok (.istore 8, 2) := by decide +kernel
theorem dX3_commonDivisor_9 : decode cX3_commonDivisor 9 = .ok (.iload 8, 2) := by decide +kernel
theorem dX3_commonDivisor_11 : decode cX3_commonDivisor 11 = .ok (.bipush 100, 2) := by decide +kernel
theorem dX3_commonDivisor_13 : decode cX3_commonDivisor 13 = .ok (.if_icmp .ge 31, 3) := by decide +kernel
theorem dX3_commonDivisor_16 : decode cX3_commonDivisor 16 = .ok (.lload 6, 2) := by decide +kernel
theorem dX3_commonDivisor_18 : decode cX3_commonDivisor 18 = .ok (.lconst 0, 1) := by decide +kernel
theorem dX3_commonDivisor_19 : decode cX3_commonDivisor 19 = .ok (.lcmp, 1) := by decide +kernel
theorem dX3_commonDivisor_20 : decode cX3_commonDivisor 20 = .ok (.ifCond .eq 24, 3) := by decide +kernel
theorem dX3_commonDivisor_23 : decode cX3_commonDivisor 23 = .ok (.lload 4, 2) := by decide +kernel
theorem dX3_commonDivisor_25 : decode cX3_commonDivisor 25 = .ok (.lload 6, 2) := by decide +kernel
theorem dX3_commonDivisor_27 : decode cX3_commonDivisor 27 = .ok (.lrem, 1) := by decide +kernel
theorem dX3_commonDivisor_28 : decode cX3_commonDivisor 28 = .ok (.lstore 9, 2) := by decide +kernel
theorem dX3_commonDivisor_30 : decode cX3_commonDivisor 30 = .ok (.lload 6, 2) := by decide +kernel
theorem dX3_commonDivisor_32 : decode cX3_commonDivisor 32 = .ok (.lstore 4, 2) := by decide +kernel
theorem dX3_commonDivisor_34 : decode cX3_commonDivisor 34 = .ok (.lload 9, 2) := by decide +kernel
theorem dX3_commonDivisor_36 : decode cX3_commonDivisor 36 = .ok (.lstore 6, 2) := by decide +kernel
theorem dX3_commonDivisor_38 : decode cX3_commonDivisor 38 = .ok (.iinc 8 1, 3) := by decide +kernel
theorem dX3_commonDivisor_41 : decode cX3_commonDivisor 41 = .ok (.goto (-32), 3) := by decide +kernel
theorem dX3_commonDivisor_44 : decode cX3_commonDivisor 44 = .ok (.lload 4, 2) := by decide +kernel
theorem dX3_commonDivisor_46 : decode cX3_commonDivisor 46 = .ok (.lreturn, 1) := by decide +kernel
theorem dX3_factorial_0 : decode cX3_factorial 0 = .ok (.lconst 1, 1) := by decide +kernel
theorem dX3_factorial_1 : decode cX3_factorial 1 = .ok (.lstore_n 1, 1) := by decide +kernel
theorem dX3_factorial_2 : decode cX3_factorial 2 = .ok (.iconst 2, 1) := by decide +kernel
theorem dX3_factorial_3 : decode cX3_factorial 3 = .ok (.istore_n 3, 1) := by decide +kernel
theorem dX3_factorial_4 : decode cX3_factorial 4 = .ok (.iload_n 3, 1) := by decide +kernel
theorem dX3_factorial_5 : decode cX3_factorial 5 = .ok (.iload_n 0, 1) := by decide +kernel
theorem dX3_factorial_6 : decode cX3_factorial 6 = .ok (.if_icmp .gt 14, 3) := by decide +kernel
theorem dX3_factorial_9 : decode cX3_factorial 9 = .ok (.lload_n 1, 1) := by decide +kernel
theorem dX3_factorial_10 : decode cX3_factorial 10 = .ok (.iload_n 3, 1) := by decide +kernel
theorem dX3_factorial_11 : decode cX3_factorial 11 = .ok (.i2l, 1) := by decide +kernel
theorem dX3_factorial_12 : decode cX3_factorial 12 = .ok (.lmul, 1) := by decide +kernel
theorem dX3_factorial_13 : decode cX3_factorial 13 = .ok (.lstore_n 1, 1) := by decide +kernel
theorem dX3_factorial_14 : decode cX3_factorial 14 = .ok (.iinc 3 1, 3) := by decide +kernel
theorem dX3_factorial_17 : decode cX3_factorial 17 = .ok (.goto (-13), 3) := by decide +kernel
theorem dX3_factorial_20 : decode cX3_factorial 20 = .ok (.lload_n 1, 1) := by decide +kernel
theorem dX3_factorial_21 : decode cX3_factorial 21 = .ok (.lreturn, 1) := by decide +kernel
theorem dX3_power_0 : decode cX3_power 0 = .ok (.lconst 1, 1) := by decide +kernel
theorem dX3_power_1 : decode cX3_power 1 = .ok (.lstore_n 2, 1) := by decide +kernel
theorem dX3_power_2 : decode cX3_power 2 = .ok (.iconst 0, 1) := by decide +kernel
theorem dX3_power_3 : decode cX3_power 3 = .ok (.istore 4, 2) := by decide +kernel
theorem dX3_power_5 : decode cX3_power 5 = .ok (.iload 4, 2) := by decide +kernel
theorem dX3_power_7 : decode cX3_power 7 = .ok (.iload_n 1, 1) := by decide +kernel
theorem dX3_power_8 : decode cX3_power 8 = .ok (.if_icmp .ge 14, 3) := by decide +kernel
theorem dX3_power_11 : decode cX3_power 11 = .ok (.lload_n 2, 1) := by decide +kernel
theorem dX3_power_12 : decode cX3_power 12 = .ok (.iload_n 0, 1) := by decide +kernel
theorem dX3_power_13 : decode cX3_power 13 = .ok (.i2l, 1) := by decide +kernel
theorem dX3_power_14 : decode cX3_power 14 = .ok (.lmul, 1) := by decide +kernel
theorem dX3_power_15 : decode cX3_power 15 = .ok (.lstore_n 2, 1) := by decide +kernel
theorem dX3_power_16 : decode cX3_power 16 = .ok (.iinc 4 1, 3) := by decide +kernel
theorem dX3_power_19 : decode cX3_power 19 = .ok (.goto (-14), 3) := by decide +kernel
theorem dX3_power_22 : decode cX3_power 22 = .ok (.lload_n 2, 1) := by decide +kernel
theorem dX3_power_23 : decode cX3_power 23 = .ok (.lreturn, 1) := by decide +kernel
theorem dX3_choose_0 : decode cX3_choose 0 = .ok (.lconst 1, 1) := by decide +kernel
theorem dX3_choose_1 : decode cX3_choose 1 = .ok (.lstore_n 2, 1) := by decide +kernel
theorem dX3_choose_2 : decode cX3_choose 2 = .ok (.iconst 1, 1) := by decide +kernel
theorem dX3_choose_3 : decode cX3_choose 3 = .ok (.istore 4, 2) := by decide +kernel
theorem dX3_choose_5 : decode cX3_choose 5 = .ok (.iload 4, 2) := by decide +kernel
theorem dX3_choose_7 : decode cX3_choose 7 = .ok (.iload_n 1, 1) := by decide +kernel
theorem dX3_choose_8 : decode cX3_choose 8 = .ok (.if_icmp .gt 23, 3) := by decide +kernel
theorem dX3_choose_11 : decode cX3_choose 11 = .ok (.lload_n 2, 1) := by decide +kernel
theorem dX3_choose_12 : decode cX3_choose 12 = .ok (.iload_n 0, 1) := by decide +kernel
theorem dX3_choose_13 : decode cX3_choose 13 = .ok (.iload_n 1, 1) := by decide +kernel
theorem dX3_choose_14 : decode cX3_choose 14 = .ok (.isub, 1) := by decide +kernel
theorem dX3_choose_15 : decode cX3_choose 15 = .ok (.iload 4, 2) := by decide +kernel
theorem dX3_choose_17 : decode cX3_choose 17 = .ok (.iadd, 1) := by decide +kernel
theorem dX3_choose_18 : decode cX3_choose 18 = .ok (.i2l, 1) := by decide +kernel
theorem dX3_choose_19 : decode cX3_choose 19 = .ok (.lmul, 1) := by decide +kernel
theorem dX3_choose_20 : decode cX3_choose 20 = .ok (.iload 4, 2) := by decide +kernel
theorem dX3_choose_22 : decode cX3_choose 22 = .ok (.i2l, 1) := by decide +kernel
theorem dX3_choose_23 : decode cX3_choose 23 = .ok (.ldiv, 1) := by decide +kernel
theorem dX3_choose_24 : decode cX3_choose 24 = .ok (.lstore_n 2, 1) := by decide +kernel
theorem dX3_choose_25 : decode cX3_choose 25 = .ok (.iinc 4 1, 3) := by decide +kernel
theorem dX3_choose_28 : decode cX3_choose 28 = .ok (.goto (-23), 3) := by decide +kernel
theorem dX3_choose_31 : decode cX3_choose 31 = .ok (.lload_n 2, 1) := by decide +kernel
theorem dX3_choose_32 : decode cX3_choose 32 = .ok (.lreturn, 1) := by decide +kernel
theorem dX4_init_0 : decode cX4_init 0 = .ok (.aload_n 0, 1) := by decide +kernel
theorem dX4_init_1 : decode cX4_init 1 = .ok (.invokespecial 1, 3) := by decide +kernel
theorem dX4_init_4 : decode cX4_init 4 = .ok (.aload_n 0, 1) := by decide +kernel
theorem dX4_init_5 : decode cX4_init 5 = .ok (.iconst 5, 1) := by decide +kernel
theorem dX4_init_6 : decode cX4_init 6 = .ok (.newarray .int, 2) := by decide +kernel
theorem dX4_init_8 : decode cX4_init 8 = .ok (.putfield 7, 3) := by decide +kernel
theorem dX4_init_11 : decode cX4_init 11 = .ok (.aload_n 0, 1) := by decide +kernel
theorem dX4_init_12 : decode cX4_init 12 = .ok (.iconst 4, 1) := by decide +kernel
theorem dX4_init_13 : decode cX4_init 13 = .ok (.newarray .int, 2) := by decide +kernel
theorem dX4_init_15 : decode cX4_init 15 = .ok (.putfield 13, 3) := by decide +kernel
theorem dX4_init_18 : decode cX4_init 18 = .ok (.aload_n 0, 1) := by decide +kernel
theorem dX4_init_19 : decode cX4_init 19 = .ok (.bipush 60, 2) := by decide +kernel
theorem dX4_init_21 : decode cX4_init 21 = .ok (.newarray .int, 2) := by decide +kernel
theorem dX4_init_23 : decode cX4_init 23 = .ok (.putfield 16, 3) := by decide +kernel
theorem dX4_init_26 : decode cX4_init 26 = .ok (.aload_n 0, 1) := by decide +kernel
theorem dX4_init_27 : decode cX4_init 27 = .ok (.bipush 15, 2) := by decide +kernel
theorem dX4_init_29 : decode cX4_init 29 = .ok (.newarray .int, 2) := by decide +kernel
theorem dX4_init_31 : decode cX4_init 31 = .ok (.putfield 19, 3) := by decide +kernel
theorem dX4_init_34 : decode cX4_init 34 = .ok (.aload_n 0, 1) := by decide +kernel
theorem dX4_init_35 : decode cX4_init 35 = .ok (.iconst 5, 1) := by decide +kernel
theorem dX4_init_36 : decode cX4_init 36 = .ok (.newarray .int, 2) := by decide +kernel
theorem dX4_init_38 : decode cX4_init 38 = .ok (.putfield 22, 3) := by decide +kernel
theorem dX4_init_41 : decode cX4_init 41 = .ok (.aload_n 0, 1) := by decide +kernel
theorem dX4_init_42 : decode cX4_init 42 = .ok (.bipush 8, 2) := by decide +kernel
theorem dX4_init_44 : decode cX4_init 44 = .ok (.newarray .int, 2) := by decide +kernel
theorem dX4_init_46 : decode cX4_init 46 = .ok (.putfield 25, 3) := by decide +kernel
theorem dX4_init_49 : decode cX4_init 49 = .ok (.aload_n 0, 1) := by decide +kernel
theorem dX4_init_50 : decode cX4_init 50 = .ok (.bipush 48, 2) := by decide +kernel
theorem dX4_init_52 : decode cX4_init 52 = .ok (.newarray .int, 2) := by decide +kernel
theorem dX4_init_54 : decode cX4_init 54 = .ok (.putfield 28, 3) := by decide +kernel
theorem dX4_init_57 : decode cX4_init 57 = .ok (.aload_n 0, 1) := by decide +kernel
theorem dX4_init_58 : decode cX4_init 58 = .ok (.sipush 420, 3) := by decide +kernel
theorem dX4_init_61 : decode cX4_init 61 = .ok (.newarray .int, 2) := by decide +kernel
theorem dX4_init_63 : decode cX4_init 63 = .ok (.putfield 31, 3) := by decide +kernel
theorem dX4_init_66 : decode cX4_init 66 = .ok (.aload_n 0, 1) := by decide +kernel
theorem dX4_init_67 : decode cX4_init 67 = .ok (.bipush 6, 2) := by decide +kernel
theorem dX4_init_69 : decode cX4_init 69 = .ok (.newarray .int, 2) := by decide +kernel
theorem dX4_init_71 : decode cX4_init 71 = .ok (.putfield 34, 3) := by decide +kernel
theorem dX4_init_74 : decode cX4_init 74 = .ok (.aload_n 0, 1) := by decide +kernel
theorem dX4_init_75 : decode cX4_init 75 = .ok (.bipush 6, 2) := by decide +kernel
theorem dX4_init_77 : decode cX4_init 77 = .ok (.newarray .int, 2) := by decide +kernel
theorem dX4_init_79 : decode cX4_init 79 = .ok (.putfield 37, 3) := by decide +kernel
theorem dX4_init_82 : decode cX4_init 82 = .ok (.aload_n 0, 1) := by decide +kernel
theorem dX4_init_83 : decode cX4_init 83 = .ok (.bipush 6, 2) := by decide +kernel
theorem dX4_init_85 : decode cX4_init 85 = .ok (.newarray .int, 2) := by decide +kernel
theorem dX4_init_87 : decode cX4_init 87 = .ok (.putfield 40, 3) := by decide +kernel
theorem dX4_init_90 : decode cX4_init 90 = .ok (.aload_n 0, 1) := by decide +kernel
theorem dX4_init_91 : decode cX4_init 91 = .ok (.iconst 2, 1) := by decide +kernel
theorem dX4_init_92 : decode cX4_init 92 = .ok (.newarray .boolean, 2) := by decide +kernel
theorem dX4_init_94 : decode cX4_init 94 = .ok (.putfield 43, 3) := by decide +kernel
theorem dX4_init_97 : decode cX4_init 97 = .ok (.aload_n 0, 1) := by decide +kernel
theorem dX4_init_98 : decode cX4_init 98 = .ok (.bipush 60, 2) := by decide +kernel
theorem dX4_init_100 : decode cX4_init 100 = .ok (.newarray .int, 2) := by decide +kernel
theorem dX4_init_102 : decode cX4_init 102 = .ok (.putfield 47, 3) := by decide +kernel
theorem dX4_init_105 : decode cX4_init 105 = .ok (.aload_n 0, 1) := by decide +kernel
theorem dX4_init_106 : decode cX4_init 106 = .ok (.iconst 0, 1) := by decide +kernel
theorem dX4_init_107 : decode cX4_init 107 = .ok (.putfield 50, 3) := by decide +kernel
theorem dX4_init_110 : decode cX4_init 110 = .ok (.return_, 1) := by decide +kernel
theorem dX4_in_0 : decode cX4_in 0 = .ok (.lload_n 0, 1) := by decide +kernel
theorem dX4_in_1 : decode cX4_in 1 = .ok (.lload_n 2, 1) := by decide +kernel
theorem dX4_in_2 : decode cX4_in 2 = .ok (.lcmp, 1) := by decide +kernel
theorem dX4_in_3 : decode cX4_in 3 = .ok (.ifCond .lt 14, 3) := by decide +kernel
theorem dX4_in_6 : decode cX4_in 6 = .ok (.lload_n 0, 1) := by decide +kernel
theorem dX4_in_7 : decode cX4_in 7 = .ok (.lload 4, 2) := by decide +kernel
theorem dX4_in_9 : decode cX4_in 9 = .ok (.lcmp, 1) := by decide +kernel
theorem dX4_in_10 : decode cX4_in 10 = .ok (.ifCond .gt 7, 3) := by decide +kernel
theorem dX4_in_13 : decode cX4_in 13 = .ok (.iconst 1, 1) := by decide +kernel
theorem dX4_in_14 : decode cX4_in 14 = .ok (.goto 4, 3) := by decide +kernel
theorem dX4_in_17 : decode cX4_in 17 = .ok (.iconst 0, 1) := by decide +kernel
theorem dX4_in_18 : decode cX4_in 18 = .ok (.ireturn, 1) := by decide +kernel
theorem dX4_has_0 : decode cX4_has 0 = .ok (.iload_n 0, 1) := by decide +kernel
theorem dX4_has_1 : decode cX4_has 1 = .ok (.iload_n 1, 1) := by decide +kernel
theorem dX4_has_2 : decode cX4_has 2 = .ok (.ishr, 1) := by decide +kernel
theorem dX4_has_3 : decode cX4_has 3 = .ok (.iconst 1, 1) := by decide +kernel
theorem dX4_has_4 : decode cX4_has 4 = .ok (.iand, 1) := by decide +kernel
theorem dX4_has_5 : decode cX4_has 5 = .ok (.iconst 1, 1) := by decide +kernel
theorem dX4_has_6 : decode cX4_has 6 = .ok (.if_icmp .ne 7, 3) := by decide +kernel
theorem dX4_has_9 : decode cX4_has 9 = .ok (.iconst 1, 1) := by decide +kernel
theorem dX4_has_10 : decode cX4_has 10 = .ok (.goto 4, 3) := by decide +kernel
theorem dX4_has_13 : decode cX4_has 13 = .ok (.iconst 0, 1) := by decide +kernel
theorem dX4_has_14 : decode cX4_has 14 = .ok (.ireturn, 1) := by decide +kernel
theorem dX4_ones_0 : decode cX4_ones 0 = .ok (.iconst 0, 1) := by decide +kernel
theorem dX4_ones_1 : decode cX4_ones 1 = .ok (.istore_n 1, 1) := by decide +kernel
theorem dX4_ones_2 : decode cX4_ones 2 = .ok (.iconst 0, 1) := by decide +kernel
theorem dX4_ones_3 : decode cX4_ones 3 = .ok (.istore_n 2, 1) := by decide +kernel
theorem dX4_ones_4 : decode cX4_ones 4 = .ok (.iload_n 2, 1) := by decide +kernel
theorem dX4_ones_5 : decode cX4_ones 5 = .ok (.iconst 5, 1) := by decide +kernel
theorem dX4_ones_6 : decode cX4_ones 6 = .ok (.if_icmp .ge 17, 3) := by decide +kernel
theorem dX4_ones_9 : decode cX4_ones 9 = .ok (.iload_n 1, 1) := by decide +kernel
theorem dX4_ones_10 : decode cX4_ones 10 = .ok (.iload_n 0, 1) := by decide +kernel
theorem dX4_ones_11 : decode cX4_ones 11 = .ok (.iload_n 2, 1) := by decide +kernel
theorem dX4_ones_12 : decode cX4_ones 12 = .ok (.ishr, 1) := by decide +kernel
theorem dX4_ones_13 : decode cX4_ones 13 = .ok (.iconst 1, 1) := by decide +kernel
theorem dX4_ones_14 : decode cX4_ones 14 = .ok (.iand, 1) := by decide +kernel
theorem dX4_ones_15 : decode cX4_ones 15 = .ok (.iadd, 1) := by decide +kernel
theorem dX4_ones_16 : decode cX4_ones 16 = .ok (.istore_n 1, 1) := by decide +kernel
theorem dX4_ones_17 : decode cX4_ones 17 = .ok (.iinc 2 1, 3) := by decide +kernel
theorem dX4_ones_20 : decode cX4_ones 20 = .ok (.goto (-16), 3) := by decide +kernel
theorem dX4_ones_23 : decode cX4_ones 23 = .ok (.iload_n 1, 1) := by decide +kernel
theorem dX4_ones_24 : decode cX4_ones 24 = .ok (.ireturn, 1) := by decide +kernel
theorem dX4_write_0 : decode cX4_write 0 = .ok (.iload_n 1, 1) := by decide +kernel
theorem dX4_write_1 : decode cX4_write 1 = .ok (.i2l, 1) := by decide +kernel
theorem dX4_write_2 : decode cX4_write 2 = .ok (.lconst 0, 1) := by decide +kernel
theorem dX4_write_3 : decode cX4_write 3 = .ok (.ldc2_w 54, 3) := by decide +kernel
theorem dX4_write_6 : decode cX4_write 6 = .ok (.invokestatic 56, 3) := by decide +kernel
theorem dX4_write_9 : decode cX4_write 9 = .ok (.ifCond .ne 6, 3) := by decide +kernel
theorem dX4_write_12 : decode cX4_write 12 = .ok (.bipush (-2), 2) := by decide +kernel
theorem dX4_write_14 : decode cX4_write 14 = .ok (.ireturn, 1) := by decide +kernel
theorem dX4_write_15 : decode cX4_write 15 = .ok (.aload_n 0, 1) := by decide +kernel
theorem dX4_write_16 : decode cX4_write 16 = .ok (.getfield 60, 3) := by decide +kernel
theorem dX4_write_19 : decode cX4_write 19 = .ok (.bipush 48, 2) := by decide +kernel
theorem dX4_write_21 : decode cX4_write 21 = .ok (.if_icmp .ne 6, 3) := by decide +kernel
theorem dX4_write_24 : decode cX4_write 24 = .ok (.bipush (-4), 2) := by decide +kernel
theorem dX4_write_26 : decode cX4_write 26 = .ok (.ireturn, 1) := by decide +kernel
theorem dX4_write_27 : decode cX4_write 27 = .ok (.aload_n 0, 1) := by decide +kernel
theorem dX4_write_28 : decode cX4_write 28 = .ok (.getfield 28, 3) := by decide +kernel
theorem dX4_write_31 : decode cX4_write 31 = .ok (.aload_n 0, 1) := by decide +kernel
theorem dX4_write_32 : decode cX4_write 32 = .ok (.getfield 60, 3) := by decide +kernel
theorem dX4_write_35 : decode cX4_write 35 = .ok (.iload_n 1, 1) := by decide +kernel
theorem dX4_write_36 : decode cX4_write 36 = .ok (.iastore, 1) := by decide +kernel
theorem dX4_write_37 : decode cX4_write 37 = .ok (.aload_n 0, 1) := by decide +kernel
theorem dX4_write_38 : decode cX4_write 38 = .ok (.dup, 1) := by decide +kernel
theorem dX4_write_39 : decode cX4_write 39 = .ok (.getfield 60, 3) := by decide +kernel
theorem dX4_write_42 : decode cX4_write 42 = .ok (.iconst 1, 1) := by decide +kernel
theorem dX4_write_43 : decode cX4_write 43 = .ok (.iadd, 1) := by decide +kernel
theorem dX4_write_44 : decode cX4_write 44 = .ok (.putfield 60, 3) := by decide +kernel
theorem dX4_write_47 : decode cX4_write 47 = .ok (.aload_n 0, 1) := by decide +kernel
theorem dX4_write_48 : decode cX4_write 48 = .ok (.getfield 60, 3) := by decide +kernel
theorem dX4_write_51 : decode cX4_write 51 = .ok (.ireturn, 1) := by decide +kernel
theorem dX4_wipe_0 : decode cX4_wipe 0 = .ok (.aload_n 0, 1) := by decide +kernel
theorem dX4_wipe_1 : decode cX4_wipe 1 = .ok (.getfield 60, 3) := by decide +kernel
theorem dX4_wipe_4 : decode cX4_wipe 4 = .ok (.istore_n 1, 1) := by decide +kernel
theorem dX4_wipe_5 : decode cX4_wipe 5 = .ok (.aload_n 0, 1) := by decide +kernel
theorem dX4_wipe_6 : decode cX4_wipe 6 = .ok (.iconst 0, 1) := by decide +kernel
theorem dX4_wipe_7 : decode cX4_wipe 7 = .ok (.putfield 60, 3) := by decide +kernel
theorem dX4_wipe_10 : decode cX4_wipe 10 = .ok (.iload_n 1, 1) := by decide +kernel
theorem dX4_wipe_11 : decode cX4_wipe 11 = .ok (.ireturn, 1) := by decide +kernel
theorem dX4_figureOf_0 : decode cX4_figureOf 0 = .ok (.aload_n 0, 1) := by decide +kernel
theorem dX4_figureOf_1 : decode cX4_figureOf 1 = .ok (.getfield 63, 3) := by decide +kernel
theorem dX4_figureOf_4 : decode cX4_figureOf 4 = .ok (.bipush (-9), 2) := by decide +kernel
theorem dX4_figureOf_6 : decode cX4_figureOf 6 = .ok (.if_icmp .ne 29, 3) := by decide +kernel
theorem dX4_figureOf_9 : decode cX4_figureOf 9 = .ok (.aload_n 0, 1) := by decide +kernel
theorem dX4_figureOf_10 : decode cX4_figureOf 10 = .ok (.getfield 66, 3) := by decide +kernel
theorem dX4_figureOf_13 : decode cX4_figureOf 13 = .ok (.aload_n 0, 1) := by decide +kernel
theorem dX4_figureOf_14 : decode cX4_figureOf 14 = .ok (.getfield 60, 3) := by decide +kernel
theorem dX4_figureOf_17 : decode cX4_figureOf 17 = .ok (.if_icmp .ge 18, 3) := by decide +kernel
theorem dX4_figureOf_20 : decode cX4_figureOf 20 = .ok (.aload_n 0, 1) := by decide +kernel
theorem dX4_figureOf_21 : decode cX4_figureOf 21 = .ok (.getfield 28, 3) := by decide +kernel
theorem dX4_figureOf_24 : decode cX4_figureOf 24 = .ok (.aload_n 0, 1) := by decide +kernel
theorem dX4_figureOf_25 : decode cX4_figureOf 25 = .ok (.getfield 66, 3) := by decide +kernel
theorem dX4_figureOf_28 : decode cX4_figureOf 28 = .ok (.iaload, 1) := by decide +kernel
theorem dX4_figureOf_29 : decode cX4_figureOf 29 = .ok (.bipush 48, 2) := by decide +kernel
theorem dX4_figureOf_31 : decode cX4_figureOf 31 = .ok (.isub, 1) := by decide +kernel
theorem dX4_figureOf_32 : decode cX4_figureOf 32 = .ok (.goto 5, 3) := by decide +kernel
theorem dX4_figureOf_35 : decode cX4_figureOf 35 = .ok (.bipush (-9), 2) := by decide +kernel
theorem dX4_figureOf_37 : decode cX4_figureOf 37 = .ok (.istore_n 2, 1) := by decide +kernel
theorem dX4_figureOf_38 : decode cX4_figureOf 38 = .ok (.iload_n 2, 1) := by decide +kernel
theorem dX4_figureOf_39 : decode cX4_figureOf 39 = .ok (.i2l, 1) := by decide +kernel
theorem dX4_figureOf_40 : decode cX4_figureOf 40 = .ok (.lconst 0, 1) := by decide +kernel
theorem dX4_figureOf_41 : decode cX4_figureOf 41 = .ok (.ldc2_w 69, 3) := by decide +kernel
theorem dX4_figureOf_44 : decode cX4_figureOf 44 = .ok (.invokestatic 56, 3) := by decide +kernel
theorem dX4_figureOf_47 : decode cX4_figureOf 47 = .ok (.ifCond .eq 11, 3) := by decide +kernel
theorem dX4_figureOf_50 : decode cX4_figureOf 50 = .ok (.iload_n 1, 1) := by decide +kernel
theorem dX4_figureOf_51 : decode cX4_figureOf 51 = .ok (.iload_n 2, 1) := by decide +kernel
theorem dX4_figureOf_52 : decode cX4_figureOf 52 = .ok (.invokestatic 71, 3) := by decide +kernel
theorem dX4_figureOf_55 : decode cX4_figureOf 55 = .ok (.ifCond .ne 29, 3) := by decide +kernel
theorem dX4_figureOf_58 : decode cX4_figureOf 58 = .ok (.aload_n 0, 1) := by decide +kernel
theorem dX4_figureOf_59 : decode cX4_figureOf 59 = .ok (.aload_n 0, 1) := by decide +kernel
theorem dX4_figureOf_60 : decode cX4_figureOf 60 = .ok (.getfield 63, 3) := by decide +kernel
theorem dX4_figureOf_63 : decode cX4_figureOf 63 = .ok (.bipush (-9), 2) := by decide +kernel
theorem dX4_figureOf_65 : decode cX4_figureOf 65 = .ok (.if_icmp .ne 10, 3) := by decide +kernel
theorem dX4_figureOf_68 : decode cX4_figureOf 68 = .ok (.aload_n 0, 1) := by decide +kernel
theorem dX4_figureOf_69 : decode cX4_figureOf 69 = .ok (.getfield 66, 3) := by decide +kernel
theorem dX4_figureOf_72 : decode cX4_figureOf 72 = .ok (.goto 7, 3) := by decide +kernel
theorem dX4_figureOf_75 : decode cX4_figureOf 75 = .ok (.aload_n 0, 1) := by decide +kernel
theorem dX4_figureOf_76 : decode cX4_figureOf 76 = .ok (.getfield 63, 3) := by decide +kernel
theorem dX4_figureOf_79 : decode cX4_figureOf 79 = .ok (.putfield 63, 3) := by decide +kernel
theorem dX4_figureOf_82 : decode cX4_figureOf 82 = .ok (.iconst 0, 1) := by decide +kernel
theorem dX4_figureOf_83 : decode cX4_figureOf 83 = .ok (.ireturn, 1) := by decide +kernel
theorem dX4_figureOf_84 : decode cX4_figureOf 84 = .ok (.aload_n 0, 1) := by decide +kernel
theorem dX4_figureOf_85 : decode cX4_figureOf 85 = .ok (.dup, 1) := by decide +kernel
theorem dX4_figureOf_86 : decode cX4_figureOf 86 = .ok (.getfield 66, 3) := by decide +kernel
theorem dX4_figureOf_89 : decode cX4_figureOf 89 = .ok (.iconst 1, 1) := by decide +kernel
theorem dX4_figureOf_90 : decode cX4_figureOf 90 = .ok (.iadd, 1) := by decide +kernel
theorem dX4_figureOf_91 : decode cX4_figureOf 91 = .ok (.putfield 66, 3) := by decide +kernel
theorem dX4_figureOf_94 : decode cX4_figureOf 94 = .ok (.iload_n 2, 1) := by decide +kernel
theorem dX4_figureOf_95 : decode cX4_figureOf 95 = .ok (.ireturn, 1) := by decide +kernel
theorem dX4_left_0 : decode cX4_left 0 = .ok (.iconst 1, 1) := by decide +kernel
theorem dX4_left_1 : decode cX4_left 1 = .ok (.aload_n 0, 1) := by decide +kernel
theorem dX4_left_2 : decode cX4_left 2 = .ok (.getfield 75, 3) := by decide +kernel
theorem dX4_left_5 : decode cX4_left 5 = .ok (.ishl, 1) := by decide +kernel
theorem dX4_left_6 : decode cX4_left 6 = .ok (.iconst 1, 1) := by decide +kernel
theorem dX4_left_7 : decode cX4_left 7 = .ok (.isub, 1) := by decide +kernel
theorem dX4_left_8 : decode cX4_left 8 = .ok (.aload_n 0, 1) := by decide +kernel
theorem dX4_left_9 : decode cX4_left 9 = .ok (.getfield 22, 3) := by decide +kernel
theorem dX4_left_12 : decode cX4_left 12 = .ok (.iload_n 1, 1) := by decide +kernel
theorem dX4_left_13 : decode cX4_left 13 = .ok (.iaload, 1) := by decide +kernel
theorem dX4_left_14 : decode cX4_left 14 = .ok (.iconst (-1), 1) := by decide +kernel
theorem dX4_left_15 : decode cX4_left 15 = .ok (.ixor, 1) := by decide +kernel
theorem dX4_left_16 : decode cX4_left 16 = .ok (.iand, 1) := by decide +kernel
theorem dX4_left_17 : decode cX4_left 17 = .ok (.iconst 1, 1) := by decide +kernel
theorem dX4_left_18 : decode cX4_left 18 = .ok (.iload_n 1, 1) := by decide +kernel
theorem dX4_left_19 : decode cX4_left 19 = .ok (.ishl, 1) := by decide +kernel
theorem dX4_left_20 : decode cX4_left 20 = .ok (.iconst (-1), 1) := by decide +kernel
theorem dX4_left_21 : decode cX4_left 21 = .ok (.ixor, 1) := by decide +kernel
theorem dX4_left_22 : decode cX4_left 22 = .ok (.iand, 1) := by decide +kernel
theorem dX4_left_23 : decode cX4_left 23 = .ok (.ireturn, 1) := by decide +kernel
theorem dX4_firstsLeft_0 : decode cX4_firstsLeft 0 = .ok (.iconst 0, 1) := by decide +kernel
theorem dX4_firstsLeft_1 : decode cX4_firstsLeft 1 = .ok (.istore_n 1, 1) := by decide +kernel
theorem dX4_firstsLeft_2 : decode cX4_firstsLeft 2 = .ok (.iconst 0, 1) := by decide +kernel
theorem dX4_firstsLeft_3 : decode cX4_firstsLeft 3 = .ok (.istore_n 2, 1) := by decide +kernel
theorem dX4_firstsLeft_4 : decode cX4_firstsLeft 4 = .ok (.iload_n 2, 1) := by decide +kernel
theorem dX4_firstsLeft_5 : decode cX4_firstsLeft 5 = .ok (.aload_n 0, 1) := by decide +kernel
theorem dX4_firstsLeft_6 : decode cX4_firstsLeft 6 = .ok (.getfield 75, 3) := by decide +kernel
theorem dX4_firstsLeft_9 : decode cX4_firstsLeft 9 = .ok (.if_icmp .ge 27, 3) := by decide +kernel
theorem dX4_firstsLeft_12 : decode cX4_firstsLeft 12 = .ok (.iload_n 1, 1) := by decide +kernel
theorem dX4_firstsLeft_13 : decode cX4_firstsLeft 13 = .ok (.aload_n 0, 1) := by decide +kernel
theorem dX4_firstsLeft_14 : decode cX4_firstsLeft 14 = .ok (.iload_n 2, 1) := by decide +kernel
theorem dX4_firstsLeft_15 : decode cX4_firstsLeft 15 = .ok (.invokevirtual 78, 3) := by decide +kernel
theorem dX4_firstsLeft_18 : decode cX4_firstsLeft 18 = .ok (.ifCond .eq 9, 3) := by decide +kernel
theorem dX4_firstsLeft_21 : decode cX4_firstsLeft 21 = .ok (.iconst 1, 1) := by decide +kernel
theorem dX4_firstsLeft_22 : decode cX4_firstsLeft 22 = .ok (.iload_n 2, 1) := by decide +kernel
theorem dX4_firstsLeft_23 : decode cX4_firstsLeft 23 = .ok (.ishl, 1) := by decide +kernel
theorem dX4_firstsLeft_24 : decode cX4_firstsLeft 24 = .ok (.goto 4, 3) := by decide +kernel
theorem dX4_firstsLeft_27 : decode cX4_firstsLeft 27 = .ok (.iconst 0, 1) := by decide +kernel
theorem dX4_firstsLeft_28 : decode cX4_firstsLeft 28 = .ok (.ior, 1) := by decide +kernel
theorem dX4_firstsLeft_29 : decode cX4_firstsLeft 29 = .ok (.istore_n 1, 1) := by decide +kernel
theorem dX4_firstsLeft_30 : decode cX4_firstsLeft 30 = .ok (.iinc 2 1, 3) := by decide +kernel
theorem dX4_firstsLeft_33 : decode cX4_firstsLeft 33 = .ok (.goto (-29), 3) := by decide +kernel
theorem dX4_firstsLeft_36 : decode cX4_firstsLeft 36 = .ok (.iload_n 1, 1) := by decide +kernel
theorem dX4_firstsLeft_37 : decode cX4_firstsLeft 37 = .ok (.ireturn, 1) := by decide +kernel
theorem dX4_readText_0 : decode cX4_readText 0 = .ok (.aload_n 0, 1) := by decide +kernel
theorem dX4_readText_1 : decode cX4_readText 1 = .ok (.iconst 0, 1) := by decide +kernel
theorem dX4_readText_2 : decode cX4_readText 2 = .ok (.putfield 66, 3) := by decide +kernel
theorem dX4_readText_5 : decode cX4_readText 5 = .ok (.aload_n 0, 1) := by decide +kernel
theorem dX4_readText_6 : decode cX4_readText 6 = .ok (.bipush (-9), 2) := by decide +kernel
theorem dX4_readText_8 : decode cX4_readText 8 = .ok (.putfield 63, 3) := by decide +kernel
theorem dX4_readText_11 : decode cX4_readText 11 = .ok (.aload_n 0, 1) := by decide +kernel
theorem dX4_readText_12 : decode cX4_readText 12 = .ok (.iconst 0, 1) := by decide +kernel
theorem dX4_readText_13 : decode cX4_readText 13 = .ok (.putfield 75, 3) := by decide +kernel
theorem dX4_readText_16 : decode cX4_readText 16 = .ok (.aload_n 0, 1) := by decide +kernel
theorem dX4_readText_17 : decode cX4_readText 17 = .ok (.iconst 0, 1) := by decide +kernel
theorem dX4_readText_18 : decode cX4_readText 18 = .ok (.putfield 82, 3) := by decide +kernel
theorem dX4_readText_21 : decode cX4_readText 21 = .ok (.iconst 0, 1) := by decide +kernel
theorem dX4_readText_22 : decode cX4_readText 22 = .ok (.istore_n 1, 1) := by decide +kernel
theorem dX4_readText_23 : decode cX4_readText 23 = .ok (.iload_n 1, 1) := by decide +kernel
theorem dX4_readText_24 : decode cX4_readText 24 = .ok (.iconst 5, 1) := by decide +kernel
theorem dX4_readText_25 : decode cX4_readText 25 = .ok (.if_icmp .ge 16, 3) := by decide +kernel
theorem dX4_readText_28 : decode cX4_readText 28 = .ok (.aload_n 0, 1) := by decide +kernel
theorem dX4_readText_29 : decode cX4_readText 29 = .ok (.getfield 22, 3) := by decide +kernel
theorem dX4_readText_32 : decode cX4_readText 32 = .ok (.iload_n 1, 1) := by decide +kernel
theorem dX4_readText_33 : decode cX4_readText 33 = .ok (.iconst 0, 1) := by decide +kernel
theorem dX4_readText_34 : decode cX4_readText 34 = .ok (.iastore, 1) := by decide +kernel
theorem dX4_readText_35 : decode cX4_readText 35 = .ok (.iinc 1 1, 3) := by decide +kernel
theorem dX4_readText_38 : decode cX4_readText 38 = .ok (.goto (-15), 3) := by decide +kernel
theorem dX4_readText_41 : decode cX4_readText 41 = .ok (.aload_n 0, 1) := by decide +kernel
theorem dX4_readText_42 : decode cX4_readText 42 = .ok (.getfield 60, 3) := by decide +kernel
theorem dX4_readText_45 : decode cX4_readText 45 = .ok (.ifCond .eq 14, 3) := by decide +kernel
theorem dX4_readText_48 : decode cX4_readText 48 = .ok (.aload_n 0, 1) := by decide +kernel
theorem dX4_readText_49 : decode cX4_readText 49 = .ok (.getfield 28, 3) := by decide +kernel
theorem dX4_readText_52 : decode cX4_readText 52 = .ok (.iconst 0, 1) := by decide +kernel
theorem dX4_readText_53 : decode cX4_readText 53 = .ok (.iaload, 1) := by decide +kernel
theorem dX4_readText_54 : decode cX4_readText 54 = .ok (.bipush 65, 2) := by decide +kernel
theorem dX4_readText_56 : decode cX4_readText 56 = .ok (.if_icmp .eq 5, 3) := by decide +kernel
theorem dX4_readText_59 : decode cX4_readText 59 = .ok (.iconst 0, 1) := by decide +kernel
theorem dX4_readText_60 : decode cX4_readText 60 = .ok (.ireturn, 1) := by decide +kernel
theorem dX4_readText_61 : decode cX4_readText 61 = .ok (.aload_n 0, 1) := by decide +kernel
theorem dX4_readText_62 : decode cX4_readText 62 = .ok (.iconst 1, 1) := by decide +kernel
theorem dX4_readText_63 : decode cX4_readText 63 = .ok (.putfield 66, 3) := by decide +kernel
theorem dX4_readText_66 : decode cX4_readText 66 = .ok (.aload_n 0, 1) := by decide +kernel
theorem dX4_readText_67 : decode cX4_readText 67 = .ok (.getfield 63, 3) := by decide +kernel
theorem dX4_readText_70 : decode cX4_readText 70 = .ok (.bipush (-9), 2) := by decide +kernel
theorem dX4_readText_72 : decode cX4_readText 72 = .ok (.if_icmp .ne 30, 3) := by decide +kernel
theorem dX4_readText_75 : decode cX4_readText 75 = .ok (.aload_n 0, 1) := by decide +kernel
theorem dX4_readText_76 : decode cX4_readText 76 = .ok (.getfield 66, 3) := by decide +kernel
theorem dX4_readText_79 : decode cX4_readText 79 = .ok (.aload_n 0, 1) := by decide +kernel
theorem dX4_readText_80 : decode cX4_readText 80 = .ok (.getfield 60, 3) := by decide +kernel
theorem dX4_readText_83 : decode cX4_readText 83 = .ok (.if_icmp .ge 19, 3) := by decide +kernel
theorem dX4_readText_86 : decode cX4_readText 86 = .ok (.aload_n 0, 1) := by decide +kernel
theorem dX4_readText_87 : decode cX4_readText 87 = .ok (.aload_n 0, 1) := by decide +kernel
theorem dX4_readText_88 : decode cX4_readText 88 = .ok (.getfield 28, 3) := by decide +kernel
theorem dX4_readText_91 : decode cX4_readText 91 = .ok (.aload_n 0, 1) := by decide +kernel
theorem dX4_readText_92 : decode cX4_readText 92 = .ok (.getfield 66, 3) := by decide +kernel
theorem dX4_readText_95 : decode cX4_readText 95 = .ok (.iaload, 1) := by decide +kernel
theorem dX4_readText_96 : decode cX4_readText 96 = .ok (.invokevirtual 85, 3) := by decide +kernel
theorem dX4_readText_99 : decode cX4_readText 99 = .ok (.goto (-33), 3) := by decide +kernel
theorem dX4_readText_102 : decode cX4_readText 102 = .ok (.aload_n 0, 1) := by decide +kernel
theorem dX4_readText_103 : decode cX4_readText 103 = .ok (.getfield 63, 3) := by decide +kernel
theorem dX4_readText_106 : decode cX4_readText 106 = .ok (.ireturn, 1) := by decide +kernel
theorem dX4_readPart_0 : decode cX4_readPart 0 = .ok (.iload_n 1, 1) := by decide +kernel
theorem dX4_readPart_1 : decode cX4_readPart 1 = .ok (.bipush 83, 2) := by decide +kernel
theorem dX4_readPart_3 : decode cX4_readPart 3 = .ok (.if_icmp .ne 91, 3) := by decide +kernel
theorem dX4_readPart_6 : decode cX4_readPart 6 = .ok (.aload_n 0, 1) := by decide +kernel
theorem dX4_readPart_7 : decode cX4_readPart 7 = .ok (.getfield 75, 3) := by decide +kernel
theorem dX4_readPart_10 : decode cX4_readPart 10 = .ok (.iconst 5, 1) := by decide +kernel
theorem dX4_readPart_11 : decode cX4_readPart 11 = .ok (.if_icmp .ge 83, 3) := by decide +kernel
theorem dX4_readPart_14 : decode cX4_readPart 14 = .ok (.aload_n 0, 1) := by decide +kernel
theorem dX4_readPart_15 : decode cX4_readPart 15 = .ok (.dup, 1) := by decide +kernel
theorem dX4_readPart_16 : decode cX4_readPart 16 = .ok (.getfield 66, 3) := by decide +kernel
theorem dX4_readPart_19 : decode cX4_readPart 19 = .ok (.iconst 1, 1) := by decide +kernel
theorem dX4_readPart_20 : decode cX4_readPart 20 = .ok (.iadd, 1) := by decide +kernel
theorem dX4_readPart_21 : decode cX4_readPart 21 = .ok (.putfield 66, 3) := by decide +kernel
theorem dX4_readPart_24 : decode cX4_readPart 24 = .ok (.aload_n 0, 1) := by decide +kernel
theorem dX4_readPart_25 : decode cX4_readPart 25 = .ok (.getfield 19, 3) := by decide +kernel
theorem dX4_readPart_28 : decode cX4_readPart 28 = .ok (.iconst 3, 1) := by decide +kernel
theorem dX4_readPart_29 : decode cX4_readPart 29 = .ok (.aload_n 0, 1) := by decide +kernel
theorem dX4_readPart_30 : decode cX4_readPart 30 = .ok (.getfield 75, 3) := by decide +kernel
theorem dX4_readPart_33 : decode cX4_readPart 33 = .ok (.imul, 1) := by decide +kernel
theorem dX4_readPart_34 : decode cX4_readPart 34 = .ok (.aload_n 0, 1) := by decide +kernel
theorem dX4_readPart_35 : decode cX4_readPart 35 = .ok (.sipush 1023, 3) := by decide +kernel
theorem dX4_readPart_38 : decode cX4_readPart 38 = .ok (.invokevirtual 89, 3) := by decide +kernel
theorem dX4_readPart_41 : decode cX4_readPart 41 = .ok (.iastore, 1) := by decide +kernel
theorem dX4_readPart_42 : decode cX4_readPart 42 = .ok (.aload_n 0, 1) := by decide +kernel
theorem dX4_readPart_43 : decode cX4_readPart 43 = .ok (.getfield 19, 3) := by decide +kernel
theorem dX4_readPart_46 : decode cX4_readPart 46 = .ok (.iconst 3, 1) := by decide +kernel
theorem dX4_readPart_47 : decode cX4_readPart 47 = .ok (.aload_n 0, 1) := by decide +kernel
theorem dX4_readPart_48 : decode cX4_readPart 48 = .ok (.getfield 75, 3) := by decide +kernel
theorem dX4_readPart_51 : decode cX4_readPart 51 = .ok (.imul, 1) := by decide +kernel
theorem dX4_readPart_52 : decode cX4_readPart 52 = .ok (.iconst 1, 1) := by decide +kernel
theorem dX4_readPart_53 : decode cX4_readPart 53 = .ok (.iadd, 1) := by decide +kernel
theorem dX4_readPart_54 : decode cX4_readPart 54 = .ok (.aload_n 0, 1) := by decide +kernel
theorem dX4_readPart_55 : decode cX4_readPart 55 = .ok (.sipush 1023, 3) := by decide +kernel
theorem dX4_readPart_58 : decode cX4_readPart 58 = .ok (.invokevirtual 89, 3) := by decide +kernel
theorem dX4_readPart_61 : decode cX4_readPart 61 = .ok (.iastore, 1) := by decide +kernel
theorem dX4_readPart_62 : decode cX4_readPart 62 = .ok (.aload_n 0, 1) := by decide +kernel
theorem dX4_readPart_63 : decode cX4_readPart 63 = .ok (.getfield 19, 3) := by decide +kernel
theorem dX4_readPart_66 : decode cX4_readPart 66 = .ok (.iconst 3, 1) := by decide +kernel
theorem dX4_readPart_67 : decode cX4_readPart 67 = .ok (.aload_n 0, 1) := by decide +kernel
theorem dX4_readPart_68 : decode cX4_readPart 68 = .ok (.getfield 75, 3) := by decide +kernel
theorem dX4_readPart_71 : decode cX4_readPart 71 = .ok (.imul, 1) := by decide +kernel
theorem dX4_readPart_72 : decode cX4_readPart 72 = .ok (.iconst 2, 1) := by decide +kernel
theorem dX4_readPart_73 : decode cX4_readPart 73 = .ok (.iadd, 1) := by decide +kernel
theorem dX4_readPart_74 : decode cX4_readPart 74 = .ok (.aload_n 0, 1) := by decide +kernel
theorem dX4_readPart_75 : decode cX4_readPart 75 = .ok (.bipush 15, 2) := by decide +kernel
theorem dX4_readPart_77 : decode cX4_readPart 77 = .ok (.invokevirtual 89, 3) := by decide +kernel
theorem dX4_readPart_80 : decode cX4_readPart 80 = .ok (.iastore, 1) := by decide +kernel
theorem dX4_readPart_81 : decode cX4_readPart 81 = .ok (.aload_n 0, 1) := by decide +kernel
theorem dX4_readPart_82 : decode cX4_readPart 82 = .ok (.dup, 1) := by decide +kernel
theorem dX4_readPart_83 : decode cX4_readPart 83 = .ok (.getfield 75, 3) := by decide +kernel
theorem dX4_readPart_86 : decode cX4_readPart 86 = .ok (.iconst 1, 1) := by decide +kernel
theorem dX4_readPart_87 : decode cX4_readPart 87 = .ok (.iadd, 1) := by decide +kernel
theorem dX4_readPart_88 : decode cX4_readPart 88 = .ok (.putfield 75, 3) := by decide +kernel
theorem dX4_readPart_91 : decode cX4_readPart 91 = .ok (.goto 181, 3) := by decide +kernel
theorem dX4_readPart_94 : decode cX4_readPart 94 = .ok (.iload_n 1, 1) := by decide +kernel
theorem dX4_readPart_95 : decode cX4_readPart 95 = .ok (.bipush 74, 2) := by decide +kernel
theorem dX4_readPart_97 : decode cX4_readPart 97 = .ok (.if_icmp .ne 92, 3) := by decide +kernel
theorem dX4_readPart_100 : decode cX4_readPart 100 = .ok (.aload_n 0, 1) := by decide +kernel
theorem dX4_readPart_101 : decode cX4_readPart 101 = .ok (.invokevirtual 92, 3) := by decide +kernel
theorem dX4_readPart_104 : decode cX4_readPart 104 = .ok (.ifCond .eq 85, 3) := by decide +kernel
theorem dX4_readPart_107 : decode cX4_readPart 107 = .ok (.aload_n 0, 1) := by decide +kernel
theorem dX4_readPart_108 : decode cX4_readPart 108 = .ok (.dup, 1) := by decide +kernel
theorem dX4_readPart_109 : decode cX4_readPart 109 = .ok (.getfield 66, 3) := by decide +kernel
theorem dX4_readPart_112 : decode cX4_readPart 112 = .ok (.iconst 1, 1) := by decide +kernel
theorem dX4_readPart_113 : decode cX4_readPart 113 = .ok (.iadd, 1) := by decide +kernel
theorem dX4_readPart_114 : decode cX4_readPart 114 = .ok (.putfield 66, 3) := by decide +kernel
theorem dX4_readPart_117 : decode cX4_readPart 117 = .ok (.aload_n 0, 1) := by decide +kernel
theorem dX4_readPart_118 : decode cX4_readPart 118 = .ok (.aload_n 0, 1) := by decide +kernel
theorem dX4_readPart_119 : decode cX4_readPart 119 = .ok (.invokevirtual 92, 3) := by decide +kernel
theorem dX4_readPart_122 : decode cX4_readPart 122 = .ok (.invokevirtual 89, 3) := by decide +kernel
theorem dX4_readPart_125 : decode cX4_readPart 125 = .ok (.istore_n 2, 1) := by decide +kernel
theorem dX4_readPart_126 : decode cX4_readPart 126 = .ok (.aload_n 0, 1) := by decide +kernel
theorem dX4_readPart_127 : decode cX4_readPart 127 = .ok (.aload_n 0, 1) := by decide +kernel
theorem dX4_readPart_128 : decode cX4_readPart 128 = .ok (.iload_n 2, 1) := by decide +kernel
theorem dX4_readPart_129 : decode cX4_readPart 129 = .ok (.invokevirtual 78, 3) := by decide +kernel
theorem dX4_readPart_132 : decode cX4_readPart 132 = .ok (.invokevirtual 89, 3) := by decide +kernel
theorem dX4_readPart_135 : decode cX4_readPart 135 = .ok (.istore_n 3, 1) := by decide +kernel
theorem dX4_readPart_136 : decode cX4_readPart 136 = .ok (.aload_n 0, 1) := by decide +kernel
theorem dX4_readPart_137 : decode cX4_readPart 137 = .ok (.getfield 22, 3) := by decide +kernel
theorem dX4_readPart_140 : decode cX4_readPart 140 = .ok (.iload_n 2, 1) := by decide +kernel
theorem dX4_readPart_141 : decode cX4_readPart 141 = .ok (.dup2, 1) := by decide +kernel
theorem dX4_readPart_142 : decode cX4_readPart 142 = .ok (.iaload, 1) := by decide +kernel
theorem dX4_readPart_143 : decode cX4_readPart 143 = .ok (.aload_n 0, 1) := by decide +kernel
theorem dX4_readPart_144 : decode cX4_readPart 144 = .ok (.getfield 63, 3) := by decide +kernel
theorem dX4_readPart_147 : decode cX4_readPart 147 = .ok (.bipush (-9), 2) := by decide +kernel
theorem dX4_readPart_149 : decode cX4_readPart 149 = .ok (.if_icmp .ne 9, 3) := by decide +kernel
theorem dX4_readPart_152 : decode cX4_readPart 152 = .ok (.iconst 1, 1) := by decide +kernel
theorem dX4_readPart_153 : decode cX4_readPart 153 = .ok (.iload_n 3, 1) := by decide +kernel
theorem dX4_readPart_154 : decode cX4_readPart 154 = .ok (.ishl, 1) := by decide +kernel
theorem dX4_readPart_155 : decode cX4_readPart 155 = .ok (.goto 4, 3) := by decide +kernel
theorem dX4_readPart_158 : decode cX4_readPart 158 = .ok (.iconst 0, 1) := by decide +kernel
theorem dX4_readPart_159 : decode cX4_readPart 159 = .ok (.ior, 1) := by decide +kernel
theorem dX4_readPart_160 : decode cX4_readPart 160 = .ok (.iastore, 1) := by decide +kernel
theorem dX4_readPart_161 : decode cX4_readPart 161 = .ok (.aload_n 0, 1) := by decide +kernel
theorem dX4_readPart_162 : decode cX4_readPart 162 = .ok (.getfield 22, 3) := by decide +kernel
theorem dX4_readPart_165 : decode cX4_readPart 165 = .ok (.iload_n 3, 1) := by decide +kernel
theorem dX4_readPart_166 : decode cX4_readPart 166 = .ok (.dup2, 1) := by decide +kernel
theorem dX4_readPart_167 : decode cX4_readPart 167 = .ok (.iaload, 1) := by decide +kernel
theorem dX4_readPart_168 : decode cX4_readPart 168 = .ok (.aload_n 0, 1) := by decide +kernel
theorem dX4_readPart_169 : decode cX4_readPart 169 = .ok (.getfield 63, 3) := by decide +kernel
theorem dX4_readPart_172 : decode cX4_readPart 172 = .ok (.bipush (-9), 2) := by decide +kernel
theorem dX4_readPart_174 : decode cX4_readPart 174 = .ok (.if_icmp .ne 9, 3) := by decide +kernel
theorem dX4_readPart_177 : decode cX4_readPart 177 = .ok (.iconst 1, 1) := by decide +kernel
theorem dX4_readPart_178 : decode cX4_readPart 178 = .ok (.iload_n 2, 1) := by decide +kernel
theorem dX4_readPart_179 : decode cX4_readPart 179 = .ok (.ishl, 1) := by decide +kernel
theorem dX4_readPart_180 : decode cX4_readPart 180 = .ok (.goto 4, 3) := by decide +kernel
theorem dX4_readPart_183 : decode cX4_readPart 183 = .ok (.iconst 0, 1) := by decide +kernel
theorem dX4_readPart_184 : decode cX4_readPart 184 = .ok (.ior, 1) := by decide +kernel
theorem dX4_readPart_185 : decode cX4_readPart 185 = .ok (.iastore, 1) := by decide +kernel
theorem dX4_readPart_186 : decode cX4_readPart 186 = .ok (.goto 86, 3) := by decide +kernel
theorem dX4_readPart_189 : decode cX4_readPart 189 = .ok (.iload_n 1, 1) := by decide +kernel
theorem dX4_readPart_190 : decode cX4_readPart 190 = .ok (.bipush 76, 2) := by decide +kernel
theorem dX4_readPart_192 : decode cX4_readPart 192 = .ok (.if_icmp .ne 72, 3) := by decide +kernel
theorem dX4_readPart_195 : decode cX4_readPart 195 = .ok (.aload_n 0, 1) := by decide +kernel
theorem dX4_readPart_196 : decode cX4_readPart 196 = .ok (.getfield 82, 3) := by decide +kernel
theorem dX4_readPart_199 : decode cX4_readPart 199 = .ok (.iconst 4, 1) := by decide +kernel
theorem dX4_readPart_200 : decode cX4_readPart 200 = .ok (.if_icmp .ge 64, 3) := by decide +kernel
theorem dX4_readPart_203 : decode cX4_readPart 203 = .ok (.aload_n 0, 1) := by decide +kernel
theorem dX4_readPart_204 : decode cX4_readPart 204 = .ok (.dup, 1) := by decide +kernel
theorem dX4_readPart_205 : decode cX4_readPart 205 = .ok (.getfield 66, 3) := by decide +kernel
theorem dX4_readPart_208 : decode cX4_readPart 208 = .ok (.iconst 1, 1) := by decide +kernel
theorem dX4_readPart_209 : decode cX4_readPart 209 = .ok (.iadd, 1) := by decide +kernel
theorem dX4_readPart_210 : decode cX4_readPart 210 = .ok (.putfield 66, 3) := by decide +kernel
theorem dX4_readPart_213 : decode cX4_readPart 213 = .ok (.aload_n 0, 1) := by decide +kernel
theorem dX4_readPart_214 : decode cX4_readPart 214 = .ok (.getfield 25, 3) := by decide +kernel
theorem dX4_readPart_217 : decode cX4_readPart 217 = .ok (.iconst 2, 1) := by decide +kernel
theorem dX4_readPart_218 : decode cX4_readPart 218 = .ok (.aload_n 0, 1) := by decide +kernel
theorem dX4_readPart_219 : decode cX4_readPart 219 = .ok (.getfield 82, 3) := by decide +kernel
theorem dX4_readPart_222 : decode cX4_readPart 222 = .ok (.imul, 1) := by decide +kernel
theorem dX4_readPart_223 : decode cX4_readPart 223 = .ok (.aload_n 0, 1) := by decide +kernel
theorem dX4_readPart_224 : decode cX4_readPart 224 = .ok (.sipush 1022, 3) := by decide +kernel
theorem dX4_readPart_227 : decode cX4_readPart 227 = .ok (.invokevirtual 89, 3) := by decide +kernel
theorem dX4_readPart_230 : decode cX4_readPart 230 = .ok (.iastore, 1) := by decide +kernel
theorem dX4_readPart_231 : decode cX4_readPart 231 = .ok (.aload_n 0, 1) := by decide +kernel
theorem dX4_readPart_232 : decode cX4_readPart 232 = .ok (.getfield 25, 3) := by decide +kernel
theorem dX4_readPart_235 : decode cX4_readPart 235 = .ok (.iconst 2, 1) := by decide +kernel
theorem dX4_readPart_236 : decode cX4_readPart 236 = .ok (.aload_n 0, 1) := by decide +kernel
theorem dX4_readPart_237 : decode cX4_readPart 237 = .ok (.getfield 82, 3) := by decide +kernel
theorem dX4_readPart_240 : decode cX4_readPart 240 = .ok (.imul, 1) := by decide +kernel
theorem dX4_readPart_241 : decode cX4_readPart 241 = .ok (.iconst 1, 1) := by decide +kernel
theorem dX4_readPart_242 : decode cX4_readPart 242 = .ok (.iadd, 1) := by decide +kernel
theorem dX4_readPart_243 : decode cX4_readPart 243 = .ok (.aload_n 0, 1) := by decide +kernel
theorem dX4_readPart_244 : decode cX4_readPart 244 = .ok (.sipush 1022, 3) := by decide +kernel
theorem dX4_readPart_247 : decode cX4_readPart 247 = .ok (.invokevirtual 89, 3) := by decide +kernel
theorem dX4_readPart_250 : decode cX4_readPart 250 = .ok (.iastore, 1) := by decide +kernel
theorem dX4_readPart_251 : decode cX4_readPart 251 = .ok (.aload_n 0, 1) := by decide +kernel
theorem dX4_readPart_252 : decode cX4_readPart 252 = .ok (.dup, 1) := by decide +kernel
theorem dX4_readPart_253 : decode cX4_readPart 253 = .ok (.getfield 82, 3) := by decide +kernel
theorem dX4_readPart_256 : decode cX4_readPart 256 = .ok (.iconst 1, 1) := by decide +kernel
theorem dX4_readPart_257 : decode cX4_readPart 257 = .ok (.iadd, 1) := by decide +kernel
theorem dX4_readPart_258 : decode cX4_readPart 258 = .ok (.putfield 82, 3) := by decide +kernel
theorem dX4_readPart_261 : decode cX4_readPart 261 = .ok (.goto 11, 3) := by decide +kernel
theorem dX4_readPart_264 : decode cX4_readPart 264 = .ok (.aload_n 0, 1) := by decide +kernel
theorem dX4_readPart_265 : decode cX4_readPart 265 = .ok (.aload_n 0, 1) := by decide +kernel
theorem dX4_readPart_266 : decode cX4_readPart 266 = .ok (.getfield 66, 3) := by decide +kernel
theorem dX4_readPart_269 : decode cX4_readPart 269 = .ok (.putfield 63, 3) := by decide +kernel
theorem dX4_readPart_272 : decode cX4_readPart 272 = .ok (.return_, 1) := by decide +kernel
theorem dX4_fault_0 : decode cX4_fault 0 = .ok (.aload_n 0, 1) := by decide +kernel
theorem dX4_fault_1 : decode cX4_fault 1 = .ok (.invokevirtual 96, 3) := by decide +kernel
theorem dX4_fault_4 : decode cX4_fault 4 = .ok (.ireturn, 1) := by decide +kernel
theorem dX4_album_0 : decode cX4_album 0 = .ok (.aload_n 0, 1) := by decide +kernel
theorem dX4_album_1 : decode cX4_album 1 = .ok (.invokevirtual 96, 3) := by decide +kernel
theorem dX4_album_4 : decode cX4_album 4 = .ok (.bipush (-9), 2) := by decide +kernel
theorem dX4_album_6 : decode cX4_album 6 = .ok (.if_icmp .eq 6, 3) := by decide +kernel
theorem dX4_album_9 : decode cX4_album 9 = .ok (.bipush (-3), 2) := by decide +kernel
theorem dX4_album_11 : decode cX4_album 11 = .ok (.ireturn, 1) := by decide +kernel
theorem dX4_album_12 : decode cX4_album 12 = .ok (.aload_n 0, 1) := by decide +kernel
theorem dX4_album_13 : decode cX4_album 13 = .ok (.aload_n 0, 1) := by decide +kernel
theorem dX4_album_14 : decode cX4_album 14 = .ok (.getfield 75, 3) := by decide +kernel
theorem dX4_album_17 : decode cX4_album 17 = .ok (.putfield 50, 3) := by decide +kernel
theorem dX4_album_20 : decode cX4_album 20 = .ok (.aload_n 0, 1) := by decide +kernel
theorem dX4_album_21 : decode cX4_album 21 = .ok (.aload_n 0, 1) := by decide +kernel
theorem dX4_album_22 : decode cX4_album 22 = .ok (.getfield 82, 3) := by decide +kernel
theorem dX4_album_25 : decode cX4_album 25 = .ok (.putfield 99, 3) := by decide +kernel
theorem dX4_album_28 : decode cX4_album 28 = .ok (.iconst 0, 1) := by decide +kernel
theorem dX4_album_29 : decode cX4_album 29 = .ok (.istore_n 1, 1) := by decide +kernel
theorem dX4_album_30 : decode cX4_album 30 = .ok (.iload_n 1, 1) := by decide +kernel
theorem dX4_album_31 : decode cX4_album 31 = .ok (.bipush 30, 2) := by decide +kernel
theorem dX4_album_33 : decode cX4_album 33 = .ok (.if_icmp .ge 16, 3) := by decide +kernel
theorem dX4_album_36 : decode cX4_album 36 = .ok (.aload_n 0, 1) := by decide +kernel
theorem dX4_album_37 : decode cX4_album 37 = .ok (.getfield 16, 3) := by decide +kernel
theorem dX4_album_40 : decode cX4_album 40 = .ok (.iload_n 1, 1) := by decide +kernel
theorem dX4_album_41 : decode cX4_album 41 = .ok (.iconst 0, 1) := by decide +kernel
theorem dX4_album_42 : decode cX4_album 42 = .ok (.iastore, 1) := by decide +kernel
theorem dX4_album_43 : decode cX4_album 43 = .ok (.iinc 1 1, 3) := by decide +kernel
theorem dX4_album_46 : decode cX4_album 46 = .ok (.goto (-16), 3) := by decide +kernel
theorem dX4_album_49 : decode cX4_album 49 = .ok (.iconst 0, 1) := by decide +kernel
theorem dX4_album_50 : decode cX4_album 50 = .ok (.istore_n 1, 1) := by decide +kernel
theorem dX4_album_51 : decode cX4_album 51 = .ok (.iload_n 1, 1) := by decide +kernel
theorem dX4_album_52 : decode cX4_album 52 = .ok (.aload_n 0, 1) := by decide +kernel
theorem dX4_album_53 : decode cX4_album 53 = .ok (.getfield 50, 3) := by decide +kernel
theorem dX4_album_56 : decode cX4_album 56 = .ok (.if_icmp .ge 86, 3) := by decide +kernel
theorem dX4_album_59 : decode cX4_album 59 = .ok (.aload_n 0, 1) := by decide +kernel
theorem dX4_album_60 : decode cX4_album 60 = .ok (.getfield 16, 3) := by decide +kernel
theorem dX4_album_63 : decode cX4_album 63 = .ok (.iload_n 1, 1) := by decide +kernel
theorem dX4_album_64 : decode cX4_album 64 = .ok (.bipush 10, 2) := by decide +kernel
theorem dX4_album_66 : decode cX4_album 66 = .ok (.aload_n 0, 1) := by decide +kernel
theorem dX4_album_67 : decode cX4_album 67 = .ok (.getfield 19, 3) := by decide +kernel
theorem dX4_album_70 : decode cX4_album 70 = .ok (.iconst 3, 1) := by decide +kernel
theorem dX4_album_71 : decode cX4_album 71 = .ok (.iload_n 1, 1) := by decide +kernel
theorem dX4_album_72 : decode cX4_album 72 = .ok (.imul, 1) := by decide +kernel
theorem dX4_album_73 : decode cX4_album 73 = .ok (.iaload, 1) := by decide +kernel
theorem dX4_album_74 : decode cX4_album 74 = .ok (.imul, 1) := by decide +kernel
theorem dX4_album_75 : decode cX4_album 75 = .ok (.iastore, 1) := by decide +kernel
theorem dX4_album_76 : decode cX4_album 76 = .ok (.aload_n 0, 1) := by decide +kernel
theorem dX4_album_77 : decode cX4_album 77 = .ok (.getfield 16, 3) := by decide +kernel
theorem dX4_album_80 : decode cX4_album 80 = .ok (.iconst 5, 1) := by decide +kernel
theorem dX4_album_81 : decode cX4_album 81 = .ok (.iload_n 1, 1) := by decide +kernel
theorem dX4_album_82 : decode cX4_album 82 = .ok (.iadd, 1) := by decide +kernel
theorem dX4_album_83 : decode cX4_album 83 = .ok (.aload_n 0, 1) := by decide +kernel
theorem dX4_album_84 : decode cX4_album 84 = .ok (.getfield 19, 3) := by decide +kernel
theorem dX4_album_87 : decode cX4_album 87 = .ok (.iconst 3, 1) := by decide +kernel
theorem dX4_album_88 : decode cX4_album 88 = .ok (.iload_n 1, 1) := by decide +kernel
theorem dX4_album_89 : decode cX4_album 89 = .ok (.imul, 1) := by decide +kernel
theorem dX4_album_90 : decode cX4_album 90 = .ok (.iconst 1, 1) := by decide +kernel
theorem dX4_album_91 : decode cX4_album 91 = .ok (.iadd, 1) := by decide +kernel
theorem dX4_album_92 : decode cX4_album 92 = .ok (.iaload, 1) := by decide +kernel
theorem dX4_album_93 : decode cX4_album 93 = .ok (.iastore, 1) := by decide +kernel
theorem dX4_album_94 : decode cX4_album 94 = .ok (.aload_n 0, 1) := by decide +kernel
theorem dX4_album_95 : decode cX4_album 95 = .ok (.getfield 7, 3) := by decide +kernel
theorem dX4_album_98 : decode cX4_album 98 = .ok (.iload_n 1, 1) := by decide +kernel
theorem dX4_album_99 : decode cX4_album 99 = .ok (.aload_n 0, 1) := by decide +kernel
theorem dX4_album_100 : decode cX4_album 100 = .ok (.getfield 19, 3) := by decide +kernel
theorem dX4_album_103 : decode cX4_album 103 = .ok (.iconst 3, 1) := by decide +kernel
theorem dX4_album_104 : decode cX4_album 104 = .ok (.iload_n 1, 1) := by decide +kernel
theorem dX4_album_105 : decode cX4_album 105 = .ok (.imul, 1) := by decide +kernel
theorem dX4_album_106 : decode cX4_album 106 = .ok (.iconst 2, 1) := by decide +kernel
theorem dX4_album_107 : decode cX4_album 107 = .ok (.iadd, 1) := by decide +kernel
theorem dX4_album_108 : decode cX4_album 108 = .ok (.iaload, 1) := by decide +kernel
theorem dX4_album_109 : decode cX4_album 109 = .ok (.iastore, 1) := by decide +kernel
theorem dX4_album_110 : decode cX4_album 110 = .ok (.aload_n 0, 1) := by decide +kernel
theorem dX4_album_111 : decode cX4_album 111 = .ok (.getfield 16, 3) := by decide +kernel
theorem dX4_album_114 : decode cX4_album 114 = .ok (.bipush 10, 2) := by decide +kernel
theorem dX4_album_116 : decode cX4_album 116 = .ok (.iload_n 1, 1) := by decide +kernel
theorem dX4_album_117 : decode cX4_album 117 = .ok (.iadd, 1) := by decide +kernel
theorem dX4_album_118 : decode cX4_album 118 = .ok (.aload_n 0, 1) := by decide +kernel
theorem dX4_album_119 : decode cX4_album 119 = .ok (.getfield 22, 3) := by decide +kernel
