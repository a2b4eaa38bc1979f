theorem dX4_comes_40 : decode cX4_comes 40 = .ok (.ifCond .ne 14, 3) := by decide +kernel
theorem dX4_comes_43 : decode cX4_comes 43 = .ok (.iload_n 2, 1) := by decide +kernel
theorem dX4_comes_44 : decode cX4_comes 44 = .ok (.aload_n 0, 1) := by decide +kernel
theorem dX4_comes_45 : decode cX4_comes 45 = .ok (.invokevirtual 172, 3) := by decide +kernel
theorem dX4_comes_48 : decode cX4_comes 48 = .ok (.iconst (-1), 1) := by decide +kernel
theorem dX4_comes_49 : decode cX4_comes 49 = .ok (.ixor, 1) := by decide +kernel
theorem dX4_comes_50 : decode cX4_comes 50 = .ok (.iand, 1) := by decide +kernel
theorem dX4_comes_51 : decode cX4_comes 51 = .ok (.ifCond .eq 6, 3) := by decide +kernel
theorem dX4_comes_54 : decode cX4_comes 54 = .ok (.bipush (-3), 2) := by decide +kernel
theorem dX4_comes_56 : decode cX4_comes 56 = .ok (.ireturn, 1) := by decide +kernel
theorem dX4_comes_57 : decode cX4_comes 57 = .ok (.aload_n 0, 1) := by decide +kernel
theorem dX4_comes_58 : decode cX4_comes 58 = .ok (.iload_n 1, 1) := by decide +kernel
theorem dX4_comes_59 : decode cX4_comes 59 = .ok (.iload_n 2, 1) := by decide +kernel
theorem dX4_comes_60 : decode cX4_comes 60 = .ok (.invokevirtual 175, 3) := by decide +kernel
theorem dX4_comes_63 : decode cX4_comes 63 = .ok (.ireturn, 1) := by decide +kernel
theorem dX4_fewest_0 : decode cX4_fewest 0 = .ok (.aload_n 0, 1) := by decide +kernel
theorem dX4_fewest_1 : decode cX4_fewest 1 = .ok (.iload_n 1, 1) := by decide +kernel
theorem dX4_fewest_2 : decode cX4_fewest 2 = .ok (.invokevirtual 132, 3) := by decide +kernel
theorem dX4_fewest_5 : decode cX4_fewest 5 = .ok (.ifCond .ne 5, 3) := by decide +kernel
theorem dX4_fewest_8 : decode cX4_fewest 8 = .ok (.iconst (-1), 1) := by decide +kernel
theorem dX4_fewest_9 : decode cX4_fewest 9 = .ok (.ireturn, 1) := by decide +kernel
theorem dX4_fewest_10 : decode cX4_fewest 10 = .ok (.aload_n 0, 1) := by decide +kernel
theorem dX4_fewest_11 : decode cX4_fewest 11 = .ok (.getfield 16, 3) := by decide +kernel
theorem dX4_fewest_14 : decode cX4_fewest 14 = .ok (.bipush 24, 2) := by decide +kernel
theorem dX4_fewest_16 : decode cX4_fewest 16 = .ok (.iload_n 1, 1) := by decide +kernel
theorem dX4_fewest_17 : decode cX4_fewest 17 = .ok (.iadd, 1) := by decide +kernel
theorem dX4_fewest_18 : decode cX4_fewest 18 = .ok (.iaload, 1) := by decide +kernel
theorem dX4_fewest_19 : decode cX4_fewest 19 = .ok (.ifCond .eq 6, 3) := by decide +kernel
theorem dX4_fewest_22 : decode cX4_fewest 22 = .ok (.bipush (-3), 2) := by decide +kernel
theorem dX4_fewest_24 : decode cX4_fewest 24 = .ok (.ireturn, 1) := by decide +kernel
theorem dX4_fewest_25 : decode cX4_fewest 25 = .ok (.bipush (-9), 2) := by decide +kernel
theorem dX4_fewest_27 : decode cX4_fewest 27 = .ok (.istore_n 2, 1) := by decide +kernel
theorem dX4_fewest_28 : decode cX4_fewest 28 = .ok (.iconst 0, 1) := by decide +kernel
theorem dX4_fewest_29 : decode cX4_fewest 29 = .ok (.istore_n 3, 1) := by decide +kernel
theorem dX4_fewest_30 : decode cX4_fewest 30 = .ok (.iload_n 3, 1) := by decide +kernel
theorem dX4_fewest_31 : decode cX4_fewest 31 = .ok (.bipush 32, 2) := by decide +kernel
theorem dX4_fewest_33 : decode cX4_fewest 33 = .ok (.if_icmp .ge 61, 3) := by decide +kernel
theorem dX4_fewest_36 : decode cX4_fewest 36 = .ok (.iload_n 2, 1) := by decide +kernel
theorem dX4_fewest_37 : decode cX4_fewest 37 = .ok (.bipush (-9), 2) := by decide +kernel
theorem dX4_fewest_39 : decode cX4_fewest 39 = .ok (.if_icmp .eq 14, 3) := by decide +kernel
theorem dX4_fewest_42 : decode cX4_fewest 42 = .ok (.iload_n 3, 1) := by decide +kernel
theorem dX4_fewest_43 : decode cX4_fewest 43 = .ok (.invokestatic 147, 3) := by decide +kernel
theorem dX4_fewest_46 : decode cX4_fewest 46 = .ok (.iload_n 2, 1) := by decide +kernel
theorem dX4_fewest_47 : decode cX4_fewest 47 = .ok (.invokestatic 147, 3) := by decide +kernel
theorem dX4_fewest_50 : decode cX4_fewest 50 = .ok (.if_icmp .ge 7, 3) := by decide +kernel
theorem dX4_fewest_53 : decode cX4_fewest 53 = .ok (.iconst 1, 1) := by decide +kernel
theorem dX4_fewest_54 : decode cX4_fewest 54 = .ok (.goto 4, 3) := by decide +kernel
theorem dX4_fewest_57 : decode cX4_fewest 57 = .ok (.iconst 0, 1) := by decide +kernel
theorem dX4_fewest_58 : decode cX4_fewest 58 = .ok (.istore 4, 2) := by decide +kernel
theorem dX4_fewest_60 : decode cX4_fewest 60 = .ok (.iload 4, 2) := by decide +kernel
theorem dX4_fewest_62 : decode cX4_fewest 62 = .ok (.ifCond .eq 26, 3) := by decide +kernel
theorem dX4_fewest_65 : decode cX4_fewest 65 = .ok (.iload_n 3, 1) := by decide +kernel
theorem dX4_fewest_66 : decode cX4_fewest 66 = .ok (.aload_n 0, 1) := by decide +kernel
theorem dX4_fewest_67 : decode cX4_fewest 67 = .ok (.invokevirtual 172, 3) := by decide +kernel
theorem dX4_fewest_70 : decode cX4_fewest 70 = .ok (.iconst (-1), 1) := by decide +kernel
theorem dX4_fewest_71 : decode cX4_fewest 71 = .ok (.ixor, 1) := by decide +kernel
theorem dX4_fewest_72 : decode cX4_fewest 72 = .ok (.iand, 1) := by decide +kernel
theorem dX4_fewest_73 : decode cX4_fewest 73 = .ok (.ifCond .ne 15, 3) := by decide +kernel
theorem dX4_fewest_76 : decode cX4_fewest 76 = .ok (.aload_n 0, 1) := by decide +kernel
theorem dX4_fewest_77 : decode cX4_fewest 77 = .ok (.iload_n 1, 1) := by decide +kernel
theorem dX4_fewest_78 : decode cX4_fewest 78 = .ok (.iload_n 3, 1) := by decide +kernel
theorem dX4_fewest_79 : decode cX4_fewest 79 = .ok (.invokevirtual 175, 3) := by decide +kernel
theorem dX4_fewest_82 : decode cX4_fewest 82 = .ok (.iconst 1, 1) := by decide +kernel
theorem dX4_fewest_83 : decode cX4_fewest 83 = .ok (.if_icmp .ne 5, 3) := by decide +kernel
theorem dX4_fewest_86 : decode cX4_fewest 86 = .ok (.iload_n 3, 1) := by decide +kernel
theorem dX4_fewest_87 : decode cX4_fewest 87 = .ok (.istore_n 2, 1) := by decide +kernel
theorem dX4_fewest_88 : decode cX4_fewest 88 = .ok (.iinc 3 1, 3) := by decide +kernel
theorem dX4_fewest_91 : decode cX4_fewest 91 = .ok (.goto (-61), 3) := by decide +kernel
theorem dX4_fewest_94 : decode cX4_fewest 94 = .ok (.iload_n 2, 1) := by decide +kernel
theorem dX4_fewest_95 : decode cX4_fewest 95 = .ok (.ireturn, 1) := by decide +kernel
theorem dX4_block_0 : decode cX4_block 0 = .ok (.aload_n 0, 1) := by decide +kernel
theorem dX4_block_1 : decode cX4_block 1 = .ok (.iload_n 1, 1) := by decide +kernel
theorem dX4_block_2 : decode cX4_block 2 = .ok (.invokevirtual 128, 3) := by decide +kernel
theorem dX4_block_5 : decode cX4_block 5 = .ok (.ifCond .ne 5, 3) := by decide +kernel
theorem dX4_block_8 : decode cX4_block 8 = .ok (.iconst (-1), 1) := by decide +kernel
theorem dX4_block_9 : decode cX4_block 9 = .ok (.ireturn, 1) := by decide +kernel
theorem dX4_block_10 : decode cX4_block 10 = .ok (.iconst 1, 1) := by decide +kernel
theorem dX4_block_11 : decode cX4_block 11 = .ok (.iload_n 1, 1) := by decide +kernel
theorem dX4_block_12 : decode cX4_block 12 = .ok (.ishl, 1) := by decide +kernel
theorem dX4_block_13 : decode cX4_block 13 = .ok (.istore_n 2, 1) := by decide +kernel
theorem dX4_block_14 : decode cX4_block 14 = .ok (.iconst 0, 1) := by decide +kernel
theorem dX4_block_15 : decode cX4_block 15 = .ok (.istore_n 3, 1) := by decide +kernel
theorem dX4_block_16 : decode cX4_block 16 = .ok (.iload_n 3, 1) := by decide +kernel
theorem dX4_block_17 : decode cX4_block 17 = .ok (.iconst 5, 1) := by decide +kernel
theorem dX4_block_18 : decode cX4_block 18 = .ok (.if_icmp .ge 53, 3) := by decide +kernel
theorem dX4_block_21 : decode cX4_block 21 = .ok (.iconst 0, 1) := by decide +kernel
theorem dX4_block_22 : decode cX4_block 22 = .ok (.istore 4, 2) := by decide +kernel
theorem dX4_block_24 : decode cX4_block 24 = .ok (.iload 4, 2) := by decide +kernel
theorem dX4_block_26 : decode cX4_block 26 = .ok (.aload_n 0, 1) := by decide +kernel
theorem dX4_block_27 : decode cX4_block 27 = .ok (.getfield 50, 3) := by decide +kernel
theorem dX4_block_30 : decode cX4_block 30 = .ok (.if_icmp .ge 35, 3) := by decide +kernel
theorem dX4_block_33 : decode cX4_block 33 = .ok (.iload_n 2, 1) := by decide +kernel
theorem dX4_block_34 : decode cX4_block 34 = .ok (.iload_n 2, 1) := by decide +kernel
theorem dX4_block_35 : decode cX4_block 35 = .ok (.iload 4, 2) := by decide +kernel
theorem dX4_block_37 : decode cX4_block 37 = .ok (.invokestatic 71, 3) := by decide +kernel
theorem dX4_block_40 : decode cX4_block 40 = .ok (.ifCond .eq 16, 3) := by decide +kernel
theorem dX4_block_43 : decode cX4_block 43 = .ok (.aload_n 0, 1) := by decide +kernel
theorem dX4_block_44 : decode cX4_block 44 = .ok (.getfield 16, 3) := by decide +kernel
theorem dX4_block_47 : decode cX4_block 47 = .ok (.bipush 10, 2) := by decide +kernel
theorem dX4_block_49 : decode cX4_block 49 = .ok (.iload 4, 2) := by decide +kernel
theorem dX4_block_51 : decode cX4_block 51 = .ok (.iadd, 1) := by decide +kernel
theorem dX4_block_52 : decode cX4_block 52 = .ok (.iaload, 1) := by decide +kernel
theorem dX4_block_53 : decode cX4_block 53 = .ok (.goto 4, 3) := by decide +kernel
theorem dX4_block_56 : decode cX4_block 56 = .ok (.iconst 0, 1) := by decide +kernel
theorem dX4_block_57 : decode cX4_block 57 = .ok (.ior, 1) := by decide +kernel
theorem dX4_block_58 : decode cX4_block 58 = .ok (.istore_n 2, 1) := by decide +kernel
theorem dX4_block_59 : decode cX4_block 59 = .ok (.iinc 4 1, 3) := by decide +kernel
theorem dX4_block_62 : decode cX4_block 62 = .ok (.goto (-38), 3) := by decide +kernel
theorem dX4_block_65 : decode cX4_block 65 = .ok (.iinc 3 1, 3) := by decide +kernel
theorem dX4_block_68 : decode cX4_block 68 = .ok (.goto (-52), 3) := by decide +kernel
theorem dX4_block_71 : decode cX4_block 71 = .ok (.iload_n 2, 1) := by decide +kernel
theorem dX4_block_72 : decode cX4_block 72 = .ok (.ireturn, 1) := by decide +kernel
theorem dX4_tenTo_0 : decode cX4_tenTo 0 = .ok (.lconst 1, 1) := by decide +kernel
theorem dX4_tenTo_1 : decode cX4_tenTo 1 = .ok (.lstore_n 1, 1) := by decide +kernel
theorem dX4_tenTo_2 : decode cX4_tenTo 2 = .ok (.iconst 0, 1) := by decide +kernel
theorem dX4_tenTo_3 : decode cX4_tenTo 3 = .ok (.istore_n 3, 1) := by decide +kernel
theorem dX4_tenTo_4 : decode cX4_tenTo 4 = .ok (.iload_n 3, 1) := by decide +kernel
theorem dX4_tenTo_5 : decode cX4_tenTo 5 = .ok (.iload_n 0, 1) := by decide +kernel
theorem dX4_tenTo_6 : decode cX4_tenTo 6 = .ok (.if_icmp .ge 15, 3) := by decide +kernel
theorem dX4_tenTo_9 : decode cX4_tenTo 9 = .ok (.lload_n 1, 1) := by decide +kernel
theorem dX4_tenTo_10 : decode cX4_tenTo 10 = .ok (.ldc2_w 178, 3) := by decide +kernel
theorem dX4_tenTo_13 : decode cX4_tenTo 13 = .ok (.lmul, 1) := by decide +kernel
theorem dX4_tenTo_14 : decode cX4_tenTo 14 = .ok (.lstore_n 1, 1) := by decide +kernel
theorem dX4_tenTo_15 : decode cX4_tenTo 15 = .ok (.iinc 3 1, 3) := by decide +kernel
theorem dX4_tenTo_18 : decode cX4_tenTo 18 = .ok (.goto (-14), 3) := by decide +kernel
theorem dX4_tenTo_21 : decode cX4_tenTo 21 = .ok (.lload_n 1, 1) := by decide +kernel
theorem dX4_tenTo_22 : decode cX4_tenTo 22 = .ok (.lreturn, 1) := by decide +kernel
theorem dX4_tryThing_0 : decode cX4_tryThing 0 = .ok (.iload_n 1, 1) := by decide +kernel
theorem dX4_tryThing_1 : decode cX4_tryThing 1 = .ok (.ifCond .ne 19, 3) := by decide +kernel
theorem dX4_tryThing_4 : decode cX4_tryThing 4 = .ok (.iload_n 2, 1) := by decide +kernel
theorem dX4_tryThing_5 : decode cX4_tryThing 5 = .ok (.ifCond .ne 11, 3) := by decide +kernel
theorem dX4_tryThing_8 : decode cX4_tryThing 8 = .ok (.iload_n 3, 1) := by decide +kernel
theorem dX4_tryThing_9 : decode cX4_tryThing 9 = .ok (.ifCond .ne 7, 3) := by decide +kernel
theorem dX4_tryThing_12 : decode cX4_tryThing 12 = .ok (.iconst 1, 1) := by decide +kernel
theorem dX4_tryThing_13 : decode cX4_tryThing 13 = .ok (.goto 68, 3) := by decide +kernel
theorem dX4_tryThing_16 : decode cX4_tryThing 16 = .ok (.iconst 0, 1) := by decide +kernel
theorem dX4_tryThing_17 : decode cX4_tryThing 17 = .ok (.goto 64, 3) := by decide +kernel
theorem dX4_tryThing_20 : decode cX4_tryThing 20 = .ok (.iload_n 1, 1) := by decide +kernel
theorem dX4_tryThing_21 : decode cX4_tryThing 21 = .ok (.iconst 1, 1) := by decide +kernel
theorem dX4_tryThing_22 : decode cX4_tryThing 22 = .ok (.if_icmp .ne 13, 3) := by decide +kernel
theorem dX4_tryThing_25 : decode cX4_tryThing 25 = .ok (.aload_n 0, 1) := by decide +kernel
theorem dX4_tryThing_26 : decode cX4_tryThing 26 = .ok (.iconst 1, 1) := by decide +kernel
theorem dX4_tryThing_27 : decode cX4_tryThing 27 = .ok (.iload_n 2, 1) := by decide +kernel
theorem dX4_tryThing_28 : decode cX4_tryThing 28 = .ok (.iload_n 3, 1) := by decide +kernel
theorem dX4_tryThing_29 : decode cX4_tryThing 29 = .ok (.invokevirtual 153, 3) := by decide +kernel
theorem dX4_tryThing_32 : decode cX4_tryThing 32 = .ok (.goto 49, 3) := by decide +kernel
theorem dX4_tryThing_35 : decode cX4_tryThing 35 = .ok (.iload_n 1, 1) := by decide +kernel
theorem dX4_tryThing_36 : decode cX4_tryThing 36 = .ok (.iconst 2, 1) := by decide +kernel
theorem dX4_tryThing_37 : decode cX4_tryThing 37 = .ok (.if_icmp .ne 24, 3) := by decide +kernel
theorem dX4_tryThing_40 : decode cX4_tryThing 40 = .ok (.iload_n 2, 1) := by decide +kernel
theorem dX4_tryThing_41 : decode cX4_tryThing 41 = .ok (.ifCond .ne 16, 3) := by decide +kernel
theorem dX4_tryThing_44 : decode cX4_tryThing 44 = .ok (.aload_n 0, 1) := by decide +kernel
theorem dX4_tryThing_45 : decode cX4_tryThing 45 = .ok (.iconst 1, 1) := by decide +kernel
theorem dX4_tryThing_46 : decode cX4_tryThing 46 = .ok (.iload_n 3, 1) := by decide +kernel
theorem dX4_tryThing_47 : decode cX4_tryThing 47 = .ok (.invokevirtual 160, 3) := by decide +kernel
theorem dX4_tryThing_50 : decode cX4_tryThing 50 = .ok (.ifCond .eq 7, 3) := by decide +kernel
theorem dX4_tryThing_53 : decode cX4_tryThing 53 = .ok (.iconst 1, 1) := by decide +kernel
theorem dX4_tryThing_54 : decode cX4_tryThing 54 = .ok (.goto 27, 3) := by decide +kernel
theorem dX4_tryThing_57 : decode cX4_tryThing 57 = .ok (.iconst 0, 1) := by decide +kernel
theorem dX4_tryThing_58 : decode cX4_tryThing 58 = .ok (.goto 23, 3) := by decide +kernel
theorem dX4_tryThing_61 : decode cX4_tryThing 61 = .ok (.iload_n 1, 1) := by decide +kernel
theorem dX4_tryThing_62 : decode cX4_tryThing 62 = .ok (.iconst 3, 1) := by decide +kernel
theorem dX4_tryThing_63 : decode cX4_tryThing 63 = .ok (.if_icmp .ne 17, 3) := by decide +kernel
theorem dX4_tryThing_66 : decode cX4_tryThing 66 = .ok (.aload_n 0, 1) := by decide +kernel
theorem dX4_tryThing_67 : decode cX4_tryThing 67 = .ok (.iconst 1, 1) := by decide +kernel
theorem dX4_tryThing_68 : decode cX4_tryThing 68 = .ok (.iload_n 2, 1) := by decide +kernel
theorem dX4_tryThing_69 : decode cX4_tryThing 69 = .ok (.iload_n 3, 1) := by decide +kernel
theorem dX4_tryThing_70 : decode cX4_tryThing 70 = .ok (.invokevirtual 163, 3) := by decide +kernel
theorem dX4_tryThing_73 : decode cX4_tryThing 73 = .ok (.ifCond .eq 7, 3) := by decide +kernel
theorem dX4_tryThing_76 : decode cX4_tryThing 76 = .ok (.iconst 1, 1) := by decide +kernel
theorem dX4_tryThing_77 : decode cX4_tryThing 77 = .ok (.goto 4, 3) := by decide +kernel
theorem dX4_tryThing_80 : decode cX4_tryThing 80 = .ok (.iconst 0, 1) := by decide +kernel
theorem dX4_tryThing_81 : decode cX4_tryThing 81 = .ok (.istore 4, 2) := by decide +kernel
theorem dX4_tryThing_83 : decode cX4_tryThing 83 = .ok (.iload 4, 2) := by decide +kernel
theorem dX4_tryThing_85 : decode cX4_tryThing 85 = .ok (.ifCond .eq 15, 3) := by decide +kernel
theorem dX4_tryThing_88 : decode cX4_tryThing 88 = .ok (.iload_n 1, 1) := by decide +kernel
theorem dX4_tryThing_89 : decode cX4_tryThing 89 = .ok (.ifCond .ne 11, 3) := by decide +kernel
theorem dX4_tryThing_92 : decode cX4_tryThing 92 = .ok (.aload_n 0, 1) := by decide +kernel
theorem dX4_tryThing_93 : decode cX4_tryThing 93 = .ok (.iconst 1, 1) := by decide +kernel
theorem dX4_tryThing_94 : decode cX4_tryThing 94 = .ok (.invokevirtual 144, 3) := by decide +kernel
theorem dX4_tryThing_97 : decode cX4_tryThing 97 = .ok (.goto 58, 3) := by decide +kernel
theorem dX4_tryThing_100 : decode cX4_tryThing 100 = .ok (.iload 4, 2) := by decide +kernel
theorem dX4_tryThing_102 : decode cX4_tryThing 102 = .ok (.ifCond .eq 18, 3) := by decide +kernel
theorem dX4_tryThing_105 : decode cX4_tryThing 105 = .ok (.iload_n 1, 1) := by decide +kernel
theorem dX4_tryThing_106 : decode cX4_tryThing 106 = .ok (.iconst 1, 1) := by decide +kernel
theorem dX4_tryThing_107 : decode cX4_tryThing 107 = .ok (.if_icmp .ne 13, 3) := by decide +kernel
theorem dX4_tryThing_110 : decode cX4_tryThing 110 = .ok (.aload_n 0, 1) := by decide +kernel
theorem dX4_tryThing_111 : decode cX4_tryThing 111 = .ok (.iconst 1, 1) := by decide +kernel
theorem dX4_tryThing_112 : decode cX4_tryThing 112 = .ok (.iload_n 2, 1) := by decide +kernel
theorem dX4_tryThing_113 : decode cX4_tryThing 113 = .ok (.iload_n 3, 1) := by decide +kernel
theorem dX4_tryThing_114 : decode cX4_tryThing 114 = .ok (.invokevirtual 157, 3) := by decide +kernel
theorem dX4_tryThing_117 : decode cX4_tryThing 117 = .ok (.goto 38, 3) := by decide +kernel
theorem dX4_tryThing_120 : decode cX4_tryThing 120 = .ok (.iload 4, 2) := by decide +kernel
theorem dX4_tryThing_122 : decode cX4_tryThing 122 = .ok (.ifCond .eq 21, 3) := by decide +kernel
theorem dX4_tryThing_125 : decode cX4_tryThing 125 = .ok (.iload_n 1, 1) := by decide +kernel
theorem dX4_tryThing_126 : decode cX4_tryThing 126 = .ok (.iconst 2, 1) := by decide +kernel
theorem dX4_tryThing_127 : decode cX4_tryThing 127 = .ok (.if_icmp .ne 16, 3) := by decide +kernel
theorem dX4_tryThing_130 : decode cX4_tryThing 130 = .ok (.aload_n 0, 1) := by decide +kernel
theorem dX4_tryThing_131 : decode cX4_tryThing 131 = .ok (.getfield 16, 3) := by decide +kernel
theorem dX4_tryThing_134 : decode cX4_tryThing 134 = .ok (.bipush 54, 2) := by decide +kernel
theorem dX4_tryThing_136 : decode cX4_tryThing 136 = .ok (.iload_n 3, 1) := by decide +kernel
theorem dX4_tryThing_137 : decode cX4_tryThing 137 = .ok (.iadd, 1) := by decide +kernel
theorem dX4_tryThing_138 : decode cX4_tryThing 138 = .ok (.iconst 1, 1) := by decide +kernel
theorem dX4_tryThing_139 : decode cX4_tryThing 139 = .ok (.iastore, 1) := by decide +kernel
theorem dX4_tryThing_140 : decode cX4_tryThing 140 = .ok (.goto 15, 3) := by decide +kernel
theorem dX4_tryThing_143 : decode cX4_tryThing 143 = .ok (.iload 4, 2) := by decide +kernel
theorem dX4_tryThing_145 : decode cX4_tryThing 145 = .ok (.ifCond .eq 10, 3) := by decide +kernel
theorem dX4_tryThing_148 : decode cX4_tryThing 148 = .ok (.aload_n 0, 1) := by decide +kernel
theorem dX4_tryThing_149 : decode cX4_tryThing 149 = .ok (.iconst 1, 1) := by decide +kernel
theorem dX4_tryThing_150 : decode cX4_tryThing 150 = .ok (.iload_n 2, 1) := by decide +kernel
theorem dX4_tryThing_151 : decode cX4_tryThing 151 = .ok (.iload_n 3, 1) := by decide +kernel
theorem dX4_tryThing_152 : decode cX4_tryThing 152 = .ok (.invokevirtual 166, 3) := by decide +kernel
theorem dX4_tryThing_155 : decode cX4_tryThing 155 = .ok (.iload 4, 2) := by decide +kernel
theorem dX4_tryThing_157 : decode cX4_tryThing 157 = .ok (.ireturn, 1) := by decide +kernel
theorem dX4_judge_0 : decode cX4_judge 0 = .ok (.iload_n 1, 1) := by decide +kernel
theorem dX4_judge_1 : decode cX4_judge 1 = .ok (.i2l, 1) := by decide +kernel
theorem dX4_judge_2 : decode cX4_judge 2 = .ok (.lconst 1, 1) := by decide +kernel
theorem dX4_judge_3 : decode cX4_judge 3 = .ok (.ldc2_w 180, 3) := by decide +kernel
theorem dX4_judge_6 : decode cX4_judge 6 = .ok (.invokestatic 56, 3) := by decide +kernel
theorem dX4_judge_9 : decode cX4_judge 9 = .ok (.ifCond .eq 19, 3) := by decide +kernel
theorem dX4_judge_12 : decode cX4_judge 12 = .ok (.lload_n 2, 1) := by decide +kernel
theorem dX4_judge_13 : decode cX4_judge 13 = .ok (.lconst 0, 1) := by decide +kernel
theorem dX4_judge_14 : decode cX4_judge 14 = .ok (.iconst 3, 1) := by decide +kernel
theorem dX4_judge_15 : decode cX4_judge 15 = .ok (.iload_n 1, 1) := by decide +kernel
theorem dX4_judge_16 : decode cX4_judge 16 = .ok (.imul, 1) := by decide +kernel
theorem dX4_judge_17 : decode cX4_judge 17 = .ok (.invokestatic 182, 3) := by decide +kernel
theorem dX4_judge_20 : decode cX4_judge 20 = .ok (.lconst 1, 1) := by decide +kernel
theorem dX4_judge_21 : decode cX4_judge 21 = .ok (.lsub, 1) := by decide +kernel
theorem dX4_judge_22 : decode cX4_judge 22 = .ok (.invokestatic 56, 3) := by decide +kernel
theorem dX4_judge_25 : decode cX4_judge 25 = .ok (.ifCond .ne 6, 3) := by decide +kernel
theorem dX4_judge_28 : decode cX4_judge 28 = .ok (.bipush (-2), 2) := by decide +kernel
theorem dX4_judge_30 : decode cX4_judge 30 = .ok (.ireturn, 1) := by decide +kernel
theorem dX4_judge_31 : decode cX4_judge 31 = .ok (.aload_n 0, 1) := by decide +kernel
theorem dX4_judge_32 : decode cX4_judge 32 = .ok (.invokevirtual 169, 3) := by decide +kernel
theorem dX4_judge_35 : decode cX4_judge 35 = .ok (.iconst 0, 1) := by decide +kernel
theorem dX4_judge_36 : decode cX4_judge 36 = .ok (.istore 4, 2) := by decide +kernel
theorem dX4_judge_38 : decode cX4_judge 38 = .ok (.iload 4, 2) := by decide +kernel
theorem dX4_judge_40 : decode cX4_judge 40 = .ok (.iload_n 1, 1) := by decide +kernel
theorem dX4_judge_41 : decode cX4_judge 41 = .ok (.if_icmp .ge 57, 3) := by decide +kernel
theorem dX4_judge_44 : decode cX4_judge 44 = .ok (.lload_n 2, 1) := by decide +kernel
theorem dX4_judge_45 : decode cX4_judge 45 = .ok (.iconst 3, 1) := by decide +kernel
theorem dX4_judge_46 : decode cX4_judge 46 = .ok (.iload_n 1, 1) := by decide +kernel
theorem dX4_judge_47 : decode cX4_judge 47 = .ok (.iconst 1, 1) := by decide +kernel
theorem dX4_judge_48 : decode cX4_judge 48 = .ok (.isub, 1) := by decide +kernel
theorem dX4_judge_49 : decode cX4_judge 49 = .ok (.iload 4, 2) := by decide +kernel
theorem dX4_judge_51 : decode cX4_judge 51 = .ok (.isub, 1) := by decide +kernel
theorem dX4_judge_52 : decode cX4_judge 52 = .ok (.imul, 1) := by decide +kernel
theorem dX4_judge_53 : decode cX4_judge 53 = .ok (.invokestatic 182, 3) := by decide +kernel
theorem dX4_judge_56 : decode cX4_judge 56 = .ok (.ldiv, 1) := by decide +kernel
theorem dX4_judge_57 : decode cX4_judge 57 = .ok (.ldc2_w 186, 3) := by decide +kernel
theorem dX4_judge_60 : decode cX4_judge 60 = .ok (.lrem, 1) := by decide +kernel
theorem dX4_judge_61 : decode cX4_judge 61 = .ok (.l2i, 1) := by decide +kernel
theorem dX4_judge_62 : decode cX4_judge 62 = .ok (.istore 5, 2) := by decide +kernel
theorem dX4_judge_64 : decode cX4_judge 64 = .ok (.aload_n 0, 1) := by decide +kernel
theorem dX4_judge_65 : decode cX4_judge 65 = .ok (.iload 5, 2) := by decide +kernel
theorem dX4_judge_67 : decode cX4_judge 67 = .ok (.bipush 100, 2) := by decide +kernel
theorem dX4_judge_69 : decode cX4_judge 69 = .ok (.idiv, 1) := by decide +kernel
theorem dX4_judge_70 : decode cX4_judge 70 = .ok (.iload 5, 2) := by decide +kernel
theorem dX4_judge_72 : decode cX4_judge 72 = .ok (.bipush 10, 2) := by decide +kernel
theorem dX4_judge_74 : decode cX4_judge 74 = .ok (.idiv, 1) := by decide +kernel
theorem dX4_judge_75 : decode cX4_judge 75 = .ok (.bipush 10, 2) := by decide +kernel
theorem dX4_judge_77 : decode cX4_judge 77 = .ok (.irem, 1) := by decide +kernel
theorem dX4_judge_78 : decode cX4_judge 78 = .ok (.iload 5, 2) := by decide +kernel
theorem dX4_judge_80 : decode cX4_judge 80 = .ok (.bipush 10, 2) := by decide +kernel
theorem dX4_judge_82 : decode cX4_judge 82 = .ok (.irem, 1) := by decide +kernel
theorem dX4_judge_83 : decode cX4_judge 83 = .ok (.invokevirtual 188, 3) := by decide +kernel
theorem dX4_judge_86 : decode cX4_judge 86 = .ok (.ifCond .ne 6, 3) := by decide +kernel
theorem dX4_judge_89 : decode cX4_judge 89 = .ok (.iload 4, 2) := by decide +kernel
theorem dX4_judge_91 : decode cX4_judge 91 = .ok (.ireturn, 1) := by decide +kernel
theorem dX4_judge_92 : decode cX4_judge 92 = .ok (.iinc 4 1, 3) := by decide +kernel
theorem dX4_judge_95 : decode cX4_judge 95 = .ok (.goto (-57), 3) := by decide +kernel
theorem dX4_judge_98 : decode cX4_judge 98 = .ok (.bipush (-9), 2) := by decide +kernel
theorem dX4_judge_100 : decode cX4_judge 100 = .ok (.ireturn, 1) := by decide +kernel
theorem dX4_see_0 : decode cX4_see 0 = .ok (.aload_n 0, 1) := by decide +kernel
theorem dX4_see_1 : decode cX4_see 1 = .ok (.iload_n 1, 1) := by decide +kernel
theorem dX4_see_2 : decode cX4_see 2 = .ok (.invokevirtual 128, 3) := by decide +kernel
theorem dX4_see_5 : decode cX4_see 5 = .ok (.ifCond .ne 5, 3) := by decide +kernel
theorem dX4_see_8 : decode cX4_see 8 = .ok (.iconst (-1), 1) := by decide +kernel
theorem dX4_see_9 : decode cX4_see 9 = .ok (.ireturn, 1) := by decide +kernel
theorem dX4_see_10 : decode cX4_see 10 = .ok (.iload_n 2, 1) := by decide +kernel
theorem dX4_see_11 : decode cX4_see 11 = .ok (.i2l, 1) := by decide +kernel
theorem dX4_see_12 : decode cX4_see 12 = .ok (.lconst 0, 1) := by decide +kernel
theorem dX4_see_13 : decode cX4_see 13 = .ok (.ldc2_w 191, 3) := by decide +kernel
theorem dX4_see_16 : decode cX4_see 16 = .ok (.invokestatic 56, 3) := by decide +kernel
theorem dX4_see_19 : decode cX4_see 19 = .ok (.ifCond .eq 13, 3) := by decide +kernel
theorem dX4_see_22 : decode cX4_see 22 = .ok (.iload_n 3, 1) := by decide +kernel
theorem dX4_see_23 : decode cX4_see 23 = .ok (.i2l, 1) := by decide +kernel
theorem dX4_see_24 : decode cX4_see 24 = .ok (.lconst 0, 1) := by decide +kernel
theorem dX4_see_25 : decode cX4_see 25 = .ok (.lconst 1, 1) := by decide +kernel
theorem dX4_see_26 : decode cX4_see 26 = .ok (.invokestatic 56, 3) := by decide +kernel
theorem dX4_see_29 : decode cX4_see 29 = .ok (.ifCond .ne 6, 3) := by decide +kernel
theorem dX4_see_32 : decode cX4_see 32 = .ok (.bipush (-2), 2) := by decide +kernel
theorem dX4_see_34 : decode cX4_see 34 = .ok (.ireturn, 1) := by decide +kernel
theorem dX4_see_35 : decode cX4_see 35 = .ok (.aload_n 0, 1) := by decide +kernel
theorem dX4_see_36 : decode cX4_see 36 = .ok (.getfield 193, 3) := by decide +kernel
theorem dX4_see_39 : decode cX4_see 39 = .ok (.bipush 6, 2) := by decide +kernel
theorem dX4_see_41 : decode cX4_see 41 = .ok (.if_icmp .ne 6, 3) := by decide +kernel
theorem dX4_see_44 : decode cX4_see 44 = .ok (.bipush (-4), 2) := by decide +kernel
theorem dX4_see_46 : decode cX4_see 46 = .ok (.ireturn, 1) := by decide +kernel
theorem dX4_see_47 : decode cX4_see 47 = .ok (.aload_n 0, 1) := by decide +kernel
theorem dX4_see_48 : decode cX4_see 48 = .ok (.getfield 34, 3) := by decide +kernel
theorem dX4_see_51 : decode cX4_see 51 = .ok (.aload_n 0, 1) := by decide +kernel
theorem dX4_see_52 : decode cX4_see 52 = .ok (.getfield 193, 3) := by decide +kernel
theorem dX4_see_55 : decode cX4_see 55 = .ok (.iload_n 1, 1) := by decide +kernel
theorem dX4_see_56 : decode cX4_see 56 = .ok (.iastore, 1) := by decide +kernel
theorem dX4_see_57 : decode cX4_see 57 = .ok (.aload_n 0, 1) := by decide +kernel
theorem dX4_see_58 : decode cX4_see 58 = .ok (.getfield 37, 3) := by decide +kernel
theorem dX4_see_61 : decode cX4_see 61 = .ok (.aload_n 0, 1) := by decide +kernel
theorem dX4_see_62 : decode cX4_see 62 = .ok (.getfield 193, 3) := by decide +kernel
theorem dX4_see_65 : decode cX4_see 65 = .ok (.iload_n 2, 1) := by decide +kernel
theorem dX4_see_66 : decode cX4_see 66 = .ok (.iastore, 1) := by decide +kernel
theorem dX4_see_67 : decode cX4_see 67 = .ok (.aload_n 0, 1) := by decide +kernel
theorem dX4_see_68 : decode cX4_see 68 = .ok (.getfield 40, 3) := by decide +kernel
theorem dX4_see_71 : decode cX4_see 71 = .ok (.aload_n 0, 1) := by decide +kernel
theorem dX4_see_72 : decode cX4_see 72 = .ok (.getfield 193, 3) := by decide +kernel
theorem dX4_see_75 : decode cX4_see 75 = .ok (.iload_n 3, 1) := by decide +kernel
theorem dX4_see_76 : decode cX4_see 76 = .ok (.iastore, 1) := by decide +kernel
theorem dX4_see_77 : decode cX4_see 77 = .ok (.aload_n 0, 1) := by decide +kernel
theorem dX4_see_78 : decode cX4_see 78 = .ok (.dup, 1) := by decide +kernel
theorem dX4_see_79 : decode cX4_see 79 = .ok (.getfield 193, 3) := by decide +kernel
theorem dX4_see_82 : decode cX4_see 82 = .ok (.iconst 1, 1) := by decide +kernel
theorem dX4_see_83 : decode cX4_see 83 = .ok (.iadd, 1) := by decide +kernel
theorem dX4_see_84 : decode cX4_see 84 = .ok (.putfield 193, 3) := by decide +kernel
theorem dX4_see_87 : decode cX4_see 87 = .ok (.aload_n 0, 1) := by decide +kernel
theorem dX4_see_88 : decode cX4_see 88 = .ok (.getfield 193, 3) := by decide +kernel
theorem dX4_see_91 : decode cX4_see 91 = .ok (.ireturn, 1) := by decide +kernel
theorem dX4_unsee_0 : decode cX4_unsee 0 = .ok (.aload_n 0, 1) := by decide +kernel
theorem dX4_unsee_1 : decode cX4_unsee 1 = .ok (.getfield 193, 3) := by decide +kernel
theorem dX4_unsee_4 : decode cX4_unsee 4 = .ok (.istore_n 1, 1) := by decide +kernel
theorem dX4_unsee_5 : decode cX4_unsee 5 = .ok (.aload_n 0, 1) := by decide +kernel
theorem dX4_unsee_6 : decode cX4_unsee 6 = .ok (.iconst 0, 1) := by decide +kernel
theorem dX4_unsee_7 : decode cX4_unsee 7 = .ok (.putfield 193, 3) := by decide +kernel
theorem dX4_unsee_10 : decode cX4_unsee 10 = .ok (.iload_n 1, 1) := by decide +kernel
theorem dX4_unsee_11 : decode cX4_unsee 11 = .ok (.ireturn, 1) := by decide +kernel
theorem dX4_bought_0 : decode cX4_bought 0 = .ok (.aload_n 0, 1) := by decide +kernel
theorem dX4_bought_1 : decode cX4_bought 1 = .ok (.iload_n 1, 1) := by decide +kernel
theorem dX4_bought_2 : decode cX4_bought 2 = .ok (.invokevirtual 128, 3) := by decide +kernel
theorem dX4_bought_5 : decode cX4_bought 5 = .ok (.ifCond .ne 5, 3) := by decide +kernel
theorem dX4_bought_8 : decode cX4_bought 8 = .ok (.iconst (-1), 1) := by decide +kernel
theorem dX4_bought_9 : decode cX4_bought 9 = .ok (.ireturn, 1) := by decide +kernel
theorem dX4_bought_10 : decode cX4_bought 10 = .ok (.iconst 0, 1) := by decide +kernel
theorem dX4_bought_11 : decode cX4_bought 11 = .ok (.istore_n 2, 1) := by decide +kernel
theorem dX4_bought_12 : decode cX4_bought 12 = .ok (.iconst 0, 1) := by decide +kernel
theorem dX4_bought_13 : decode cX4_bought 13 = .ok (.istore_n 3, 1) := by decide +kernel
theorem dX4_bought_14 : decode cX4_bought 14 = .ok (.iload_n 3, 1) := by decide +kernel
theorem dX4_bought_15 : decode cX4_bought 15 = .ok (.bipush 10, 2) := by decide +kernel
theorem dX4_bought_17 : decode cX4_bought 17 = .ok (.if_icmp .ge 131, 3) := by decide +kernel
theorem dX4_bought_20 : decode cX4_bought 20 = .ok (.iconst 1, 1) := by decide +kernel
theorem dX4_bought_21 : decode cX4_bought 21 = .ok (.istore 4, 2) := by decide +kernel
theorem dX4_bought_23 : decode cX4_bought 23 = .ok (.iconst 0, 1) := by decide +kernel
theorem dX4_bought_24 : decode cX4_bought 24 = .ok (.istore 5, 2) := by decide +kernel
theorem dX4_bought_26 : decode cX4_bought 26 = .ok (.iload 5, 2) := by decide +kernel
theorem dX4_bought_28 : decode cX4_bought 28 = .ok (.aload_n 0, 1) := by decide +kernel
theorem dX4_bought_29 : decode cX4_bought 29 = .ok (.getfield 193, 3) := by decide +kernel
theorem dX4_bought_32 : decode cX4_bought 32 = .ok (.if_icmp .ge 95, 3) := by decide +kernel
theorem dX4_bought_35 : decode cX4_bought 35 = .ok (.bipush 10, 2) := by decide +kernel
theorem dX4_bought_37 : decode cX4_bought 37 = .ok (.iload_n 3, 1) := by decide +kernel
theorem dX4_bought_38 : decode cX4_bought 38 = .ok (.imul, 1) := by decide +kernel
theorem dX4_bought_39 : decode cX4_bought 39 = .ok (.aload_n 0, 1) := by decide +kernel
theorem dX4_bought_40 : decode cX4_bought 40 = .ok (.getfield 7, 3) := by decide +kernel
theorem dX4_bought_43 : decode cX4_bought 43 = .ok (.iload_n 1, 1) := by decide +kernel
theorem dX4_bought_44 : decode cX4_bought 44 = .ok (.iaload, 1) := by decide +kernel
theorem dX4_bought_45 : decode cX4_bought 45 = .ok (.iconst 3, 1) := by decide +kernel
theorem dX4_bought_46 : decode cX4_bought 46 = .ok (.if_icmp .ne 7, 3) := by decide +kernel
theorem dX4_bought_49 : decode cX4_bought 49 = .ok (.iconst 0, 1) := by decide +kernel
theorem dX4_bought_50 : decode cX4_bought 50 = .ok (.goto 10, 3) := by decide +kernel
theorem dX4_bought_53 : decode cX4_bought 53 = .ok (.aload_n 0, 1) := by decide +kernel
theorem dX4_bought_54 : decode cX4_bought 54 = .ok (.getfield 37, 3) := by decide +kernel
theorem dX4_bought_57 : decode cX4_bought 57 = .ok (.iload 5, 2) := by decide +kernel
theorem dX4_bought_59 : decode cX4_bought 59 = .ok (.iaload, 1) := by decide +kernel
theorem dX4_bought_60 : decode cX4_bought 60 = .ok (.iadd, 1) := by decide +kernel
theorem dX4_bought_61 : decode cX4_bought 61 = .ok (.istore 6, 2) := by decide +kernel
theorem dX4_bought_63 : decode cX4_bought 63 = .ok (.iload 4, 2) := by decide +kernel
theorem dX4_bought_65 : decode cX4_bought 65 = .ok (.ifCond .eq 53, 3) := by decide +kernel
theorem dX4_bought_68 : decode cX4_bought 68 = .ok (.aload_n 0, 1) := by decide +kernel
theorem dX4_bought_69 : decode cX4_bought 69 = .ok (.getfield 34, 3) := by decide +kernel
theorem dX4_bought_72 : decode cX4_bought 72 = .ok (.iload 5, 2) := by decide +kernel
theorem dX4_bought_74 : decode cX4_bought 74 = .ok (.iaload, 1) := by decide +kernel
theorem dX4_bought_75 : decode cX4_bought 75 = .ok (.iload_n 1, 1) := by decide +kernel
theorem dX4_bought_76 : decode cX4_bought 76 = .ok (.if_icmp .ne 38, 3) := by decide +kernel
theorem dX4_bought_79 : decode cX4_bought 79 = .ok (.iload 6, 2) := by decide +kernel
theorem dX4_bought_81 : decode cX4_bought 81 = .ok (.aload_n 0, 1) := by decide +kernel
theorem dX4_bought_82 : decode cX4_bought 82 = .ok (.iconst 0, 1) := by decide +kernel
theorem dX4_bought_83 : decode cX4_bought 83 = .ok (.iload_n 1, 1) := by decide +kernel
theorem dX4_bought_84 : decode cX4_bought 84 = .ok (.invokevirtual 105, 3) := by decide +kernel
theorem dX4_bought_87 : decode cX4_bought 87 = .ok (.if_icmp .ge 7, 3) := by decide +kernel
theorem dX4_bought_90 : decode cX4_bought 90 = .ok (.iconst 1, 1) := by decide +kernel
theorem dX4_bought_91 : decode cX4_bought 91 = .ok (.goto 4, 3) := by decide +kernel
theorem dX4_bought_94 : decode cX4_bought 94 = .ok (.iconst 0, 1) := by decide +kernel
theorem dX4_bought_95 : decode cX4_bought 95 = .ok (.aload_n 0, 1) := by decide +kernel
theorem dX4_bought_96 : decode cX4_bought 96 = .ok (.getfield 40, 3) := by decide +kernel
theorem dX4_bought_99 : decode cX4_bought 99 = .ok (.iload 5, 2) := by decide +kernel
theorem dX4_bought_101 : decode cX4_bought 101 = .ok (.iaload, 1) := by decide +kernel
theorem dX4_bought_102 : decode cX4_bought 102 = .ok (.iconst 1, 1) := by decide +kernel
theorem dX4_bought_103 : decode cX4_bought 103 = .ok (.if_icmp .ne 7, 3) := by decide +kernel
theorem dX4_bought_106 : decode cX4_bought 106 = .ok (.iconst 1, 1) := by decide +kernel
theorem dX4_bought_107 : decode cX4_bought 107 = .ok (.goto 4, 3) := by decide +kernel
theorem dX4_bought_110 : decode cX4_bought 110 = .ok (.iconst 0, 1) := by decide +kernel
theorem dX4_bought_111 : decode cX4_bought 111 = .ok (.if_icmp .ne 7, 3) := by decide +kernel
theorem dX4_bought_114 : decode cX4_bought 114 = .ok (.iconst 1, 1) := by decide +kernel
theorem dX4_bought_115 : decode cX4_bought 115 = .ok (.goto 4, 3) := by decide +kernel
theorem dX4_bought_118 : decode cX4_bought 118 = .ok (.iconst 0, 1) := by decide +kernel
theorem dX4_bought_119 : decode cX4_bought 119 = .ok (.istore 4, 2) := by decide +kernel
theorem dX4_bought_121 : decode cX4_bought 121 = .ok (.iinc 5 1, 3) := by decide +kernel
theorem dX4_bought_124 : decode cX4_bought 124 = .ok (.goto (-98), 3) := by decide +kernel
theorem dX4_bought_127 : decode cX4_bought 127 = .ok (.iload_n 2, 1) := by decide +kernel
theorem dX4_bought_128 : decode cX4_bought 128 = .ok (.iload 4, 2) := by decide +kernel
theorem dX4_bought_130 : decode cX4_bought 130 = .ok (.ifCond .eq 9, 3) := by decide +kernel
theorem dX4_bought_133 : decode cX4_bought 133 = .ok (.iconst 1, 1) := by decide +kernel
theorem dX4_bought_134 : decode cX4_bought 134 = .ok (.iload_n 3, 1) := by decide +kernel
theorem dX4_bought_135 : decode cX4_bought 135 = .ok (.ishl, 1) := by decide +kernel
theorem dX4_bought_136 : decode cX4_bought 136 = .ok (.goto 4, 3) := by decide +kernel
theorem dX4_bought_139 : decode cX4_bought 139 = .ok (.iconst 0, 1) := by decide +kernel
theorem dX4_bought_140 : decode cX4_bought 140 = .ok (.ior, 1) := by decide +kernel
theorem dX4_bought_141 : decode cX4_bought 141 = .ok (.istore_n 2, 1) := by decide +kernel
theorem dX4_bought_142 : decode cX4_bought 142 = .ok (.iinc 3 1, 3) := by decide +kernel
theorem dX4_bought_145 : decode cX4_bought 145 = .ok (.goto (-131), 3) := by decide +kernel
theorem dX4_bought_148 : decode cX4_bought 148 = .ok (.iload_n 2, 1) := by decide +kernel
theorem dX4_bought_149 : decode cX4_bought 149 = .ok (.ireturn, 1) := by decide +kernel
theorem dX4_factorial_0 : decode cX4_factorial 0 = .ok (.iconst 1, 1) := by decide +kernel
theorem dX4_factorial_1 : decode cX4_factorial 1 = .ok (.istore_n 1, 1) := by decide +kernel
theorem dX4_factorial_2 : decode cX4_factorial 2 = .ok (.iconst 2, 1) := by decide +kernel
theorem dX4_factorial_3 : decode cX4_factorial 3 = .ok (.istore_n 2, 1) := by decide +kernel
theorem dX4_factorial_4 : decode cX4_factorial 4 = .ok (.iload_n 2, 1) := by decide +kernel
theorem dX4_factorial_5 : decode cX4_factorial 5 = .ok (.iload_n 0, 1) := by decide +kernel
theorem dX4_factorial_6 : decode cX4_factorial 6 = .ok (.if_icmp .gt 13, 3) := by decide +kernel
theorem dX4_factorial_9 : decode cX4_factorial 9 = .ok (.iload_n 1, 1) := by decide +kernel
theorem dX4_factorial_10 : decode cX4_factorial 10 = .ok (.iload_n 2, 1) := by decide +kernel
theorem dX4_factorial_11 : decode cX4_factorial 11 = .ok (.imul, 1) := by decide +kernel
theorem dX4_factorial_12 : decode cX4_factorial 12 = .ok (.istore_n 1, 1) := by decide +kernel
theorem dX4_factorial_13 : decode cX4_factorial 13 = .ok (.iinc 2 1, 3) := by decide +kernel
theorem dX4_factorial_16 : decode cX4_factorial 16 = .ok (.goto (-12), 3) := by decide +kernel
theorem dX4_factorial_19 : decode cX4_factorial 19 = .ok (.iload_n 1, 1) := by decide +kernel
theorem dX4_factorial_20 : decode cX4_factorial 20 = .ok (.ireturn, 1) := by decide +kernel
theorem dX4_common_0 : decode cX4_common 0 = .ok (.lload_n 0, 1) := by decide +kernel
theorem dX4_common_1 : decode cX4_common 1 = .ok (.lconst 0, 1) := by decide +kernel
theorem dX4_common_2 : decode cX4_common 2 = .ok (.lcmp, 1) := by decide +kernel
theorem dX4_common_3 : decode cX4_common 3 = .ok (.ifCond .ge 8, 3) := by decide +kernel
theorem dX4_common_6 : decode cX4_common 6 = .ok (.lload_n 0, 1) := by decide +kernel
theorem dX4_common_7 : decode cX4_common 7 = .ok (.lneg, 1) := by decide +kernel
theorem dX4_common_8 : decode cX4_common 8 = .ok (.goto 4, 3) := by decide +kernel
theorem dX4_common_11 : decode cX4_common 11 = .ok (.lload_n 0, 1) := by decide +kernel
theorem dX4_common_12 : decode cX4_common 12 = .ok (.lstore 4, 2) := by decide +kernel
theorem dX4_common_14 : decode cX4_common 14 = .ok (.lload_n 2, 1) := by decide +kernel
theorem dX4_common_15 : decode cX4_common 15 = .ok (.lstore 6, 2) := by decide +kernel
theorem dX4_common_17 : decode cX4_common 17 = .ok (.lload 6, 2) := by decide +kernel
theorem dX4_common_19 : decode cX4_common 19 = .ok (.lconst 0, 1) := by decide +kernel
theorem dX4_common_20 : decode cX4_common 20 = .ok (.lcmp, 1) := by decide +kernel
theorem dX4_common_21 : decode cX4_common 21 = .ok (.ifCond .eq 21, 3) := by decide +kernel
theorem dX4_common_24 : decode cX4_common 24 = .ok (.lload 4, 2) := by decide +kernel
theorem dX4_common_26 : decode cX4_common 26 = .ok (.lload 6, 2) := by decide +kernel
theorem dX4_common_28 : decode cX4_common 28 = .ok (.lrem, 1) := by decide +kernel
theorem dX4_common_29 : decode cX4_common 29 = .ok (.lstore 8, 2) := by decide +kernel
theorem dX4_common_31 : decode cX4_common 31 = .ok (.lload 6, 2) := by decide +kernel
theorem dX4_common_33 : decode cX4_common 33 = .ok (.lstore 4, 2) := by decide +kernel
theorem dX4_common_35 : decode cX4_common 35 = .ok (.lload 8, 2) := by decide +kernel
theorem dX4_common_37 : decode cX4_common 37 = .ok (.lstore 6, 2) := by decide +kernel
theorem dX4_common_39 : decode cX4_common 39 = .ok (.goto (-22), 3) := by decide +kernel
theorem dX4_common_42 : decode cX4_common 42 = .ok (.lload 4, 2) := by decide +kernel
theorem dX4_common_44 : decode cX4_common 44 = .ok (.lreturn, 1) := by decide +kernel
theorem dX4_paidBy_0 : decode cX4_paidBy 0 = .ok (.iconst 0, 1) := by decide +kernel
theorem dX4_paidBy_1 : decode cX4_paidBy 1 = .ok (.istore_n 2, 1) := by decide +kernel
theorem dX4_paidBy_2 : decode cX4_paidBy 2 = .ok (.iconst 0, 1) := by decide +kernel
theorem dX4_paidBy_3 : decode cX4_paidBy 3 = .ok (.istore_n 3, 1) := by decide +kernel
theorem dX4_paidBy_4 : decode cX4_paidBy 4 = .ok (.iload_n 3, 1) := by decide +kernel
theorem dX4_paidBy_5 : decode cX4_paidBy 5 = .ok (.aload_n 0, 1) := by decide +kernel
theorem dX4_paidBy_6 : decode cX4_paidBy 6 = .ok (.getfield 99, 3) := by decide +kernel
theorem dX4_paidBy_9 : decode cX4_paidBy 9 = .ok (.if_icmp .ge 44, 3) := by decide +kernel
theorem dX4_paidBy_12 : decode cX4_paidBy 12 = .ok (.iload_n 2, 1) := by decide +kernel
theorem dX4_paidBy_13 : decode cX4_paidBy 13 = .ok (.aload_n 0, 1) := by decide +kernel
theorem dX4_paidBy_14 : decode cX4_paidBy 14 = .ok (.getfield 16, 3) := by decide +kernel
theorem dX4_paidBy_17 : decode cX4_paidBy 17 = .ok (.bipush 24, 2) := by decide +kernel
theorem dX4_paidBy_19 : decode cX4_paidBy 19 = .ok (.iload_n 3, 1) := by decide +kernel
theorem dX4_paidBy_20 : decode cX4_paidBy 20 = .ok (.iadd, 1) := by decide +kernel
theorem dX4_paidBy_21 : decode cX4_paidBy 21 = .ok (.iaload, 1) := by decide +kernel
theorem dX4_paidBy_22 : decode cX4_paidBy 22 = .ok (.ifCond .ne 22, 3) := by decide +kernel
theorem dX4_paidBy_25 : decode cX4_paidBy 25 = .ok (.aload_n 0, 1) := by decide +kernel
theorem dX4_paidBy_26 : decode cX4_paidBy 26 = .ok (.getfield 13, 3) := by decide +kernel
theorem dX4_paidBy_29 : decode cX4_paidBy 29 = .ok (.iload_n 3, 1) := by decide +kernel
theorem dX4_paidBy_30 : decode cX4_paidBy 30 = .ok (.iaload, 1) := by decide +kernel
theorem dX4_paidBy_31 : decode cX4_paidBy 31 = .ok (.aload_n 0, 1) := by decide +kernel
theorem dX4_paidBy_32 : decode cX4_paidBy 32 = .ok (.iconst 0, 1) := by decide +kernel
theorem dX4_paidBy_33 : decode cX4_paidBy 33 = .ok (.iload_n 1, 1) := by decide +kernel
theorem dX4_paidBy_34 : decode cX4_paidBy 34 = .ok (.invokevirtual 135, 3) := by decide +kernel
theorem dX4_paidBy_37 : decode cX4_paidBy 37 = .ok (.if_icmp .gt 7, 3) := by decide +kernel
theorem dX4_paidBy_40 : decode cX4_paidBy 40 = .ok (.iconst 1, 1) := by decide +kernel
theorem dX4_paidBy_41 : decode cX4_paidBy 41 = .ok (.goto 4, 3) := by decide +kernel
theorem dX4_paidBy_44 : decode cX4_paidBy 44 = .ok (.iconst 0, 1) := by decide +kernel
theorem dX4_paidBy_45 : decode cX4_paidBy 45 = .ok (.iadd, 1) := by decide +kernel
theorem dX4_paidBy_46 : decode cX4_paidBy 46 = .ok (.istore_n 2, 1) := by decide +kernel
theorem dX4_paidBy_47 : decode cX4_paidBy 47 = .ok (.iinc 3 1, 3) := by decide +kernel
theorem dX4_paidBy_50 : decode cX4_paidBy 50 = .ok (.goto (-46), 3) := by decide +kernel
theorem dX4_paidBy_53 : decode cX4_paidBy 53 = .ok (.iload_n 2, 1) := by decide +kernel
theorem dX4_paidBy_54 : decode cX4_paidBy 54 = .ok (.ireturn, 1) := by decide +kernel
theorem dX4_share_0 : decode cX4_share 0 = .ok (.aload_n 0, 1) := by decide +kernel
theorem dX4_share_1 : decode cX4_share 1 = .ok (.iload_n 1, 1) := by decide +kernel
theorem dX4_share_2 : decode cX4_share 2 = .ok (.invokevirtual 128, 3) := by decide +kernel
theorem dX4_share_5 : decode cX4_share 5 = .ok (.ifCond .ne 5, 3) := by decide +kernel
theorem dX4_share_8 : decode cX4_share 8 = .ok (.iconst (-1), 1) := by decide +kernel
theorem dX4_share_9 : decode cX4_share 9 = .ok (.ireturn, 1) := by decide +kernel
theorem dX4_share_10 : decode cX4_share 10 = .ok (.iconst 0, 1) := by decide +kernel
theorem dX4_share_11 : decode cX4_share 11 = .ok (.istore_n 3, 1) := by decide +kernel
theorem dX4_share_12 : decode cX4_share 12 = .ok (.iconst 0, 1) := by decide +kernel
theorem dX4_share_13 : decode cX4_share 13 = .ok (.istore 4, 2) := by decide +kernel
theorem dX4_share_15 : decode cX4_share 15 = .ok (.iload 4, 2) := by decide +kernel
theorem dX4_share_17 : decode cX4_share 17 = .ok (.iconst 1, 1) := by decide +kernel
theorem dX4_share_18 : decode cX4_share 18 = .ok (.aload_n 0, 1) := by decide +kernel
theorem dX4_share_19 : decode cX4_share 19 = .ok (.getfield 50, 3) := by decide +kernel
theorem dX4_share_22 : decode cX4_share 22 = .ok (.ishl, 1) := by decide +kernel
theorem dX4_share_23 : decode cX4_share 23 = .ok (.if_icmp .ge 67, 3) := by decide +kernel
theorem dX4_share_26 : decode cX4_share 26 = .ok (.iload 4, 2) := by decide +kernel
theorem dX4_share_28 : decode cX4_share 28 = .ok (.iload_n 1, 1) := by decide +kernel
theorem dX4_share_29 : decode cX4_share 29 = .ok (.invokestatic 71, 3) := by decide +kernel
theorem dX4_share_32 : decode cX4_share 32 = .ok (.ifCond .ne 52, 3) := by decide +kernel
theorem dX4_share_35 : decode cX4_share 35 = .ok (.iload 4, 2) := by decide +kernel
theorem dX4_share_37 : decode cX4_share 37 = .ok (.invokestatic 147, 3) := by decide +kernel
theorem dX4_share_40 : decode cX4_share 40 = .ok (.invokestatic 196, 3) := by decide +kernel
theorem dX4_share_43 : decode cX4_share 43 = .ok (.aload_n 0, 1) := by decide +kernel
theorem dX4_share_44 : decode cX4_share 44 = .ok (.getfield 50, 3) := by decide +kernel
theorem dX4_share_47 : decode cX4_share 47 = .ok (.iconst 1, 1) := by decide +kernel
theorem dX4_share_48 : decode cX4_share 48 = .ok (.isub, 1) := by decide +kernel
theorem dX4_share_49 : decode cX4_share 49 = .ok (.iload 4, 2) := by decide +kernel
theorem dX4_share_51 : decode cX4_share 51 = .ok (.invokestatic 147, 3) := by decide +kernel
theorem dX4_share_54 : decode cX4_share 54 = .ok (.isub, 1) := by decide +kernel
theorem dX4_share_55 : decode cX4_share 55 = .ok (.invokestatic 196, 3) := by decide +kernel
theorem dX4_share_58 : decode cX4_share 58 = .ok (.imul, 1) := by decide +kernel
theorem dX4_share_59 : decode cX4_share 59 = .ok (.istore 5, 2) := by decide +kernel
theorem dX4_share_61 : decode cX4_share 61 = .ok (.iload_n 3, 1) := by decide +kernel
theorem dX4_share_62 : decode cX4_share 62 = .ok (.iload 5, 2) := by decide +kernel
theorem dX4_share_64 : decode cX4_share 64 = .ok (.aload_n 0, 1) := by decide +kernel
theorem dX4_share_65 : decode cX4_share 65 = .ok (.iload 4, 2) := by decide +kernel
theorem dX4_share_67 : decode cX4_share 67 = .ok (.iconst 1, 1) := by decide +kernel
theorem dX4_share_68 : decode cX4_share 68 = .ok (.iload_n 1, 1) := by decide +kernel
theorem dX4_share_69 : decode cX4_share 69 = .ok (.ishl, 1) := by decide +kernel
theorem dX4_share_70 : decode cX4_share 70 = .ok (.ior, 1) := by decide +kernel
theorem dX4_share_71 : decode cX4_share 71 = .ok (.invokevirtual 199, 3) := by decide +kernel
theorem dX4_share_74 : decode cX4_share 74 = .ok (.aload_n 0, 1) := by decide +kernel
theorem dX4_share_75 : decode cX4_share 75 = .ok (.iload 4, 2) := by decide +kernel
theorem dX4_share_77 : decode cX4_share 77 = .ok (.invokevirtual 199, 3) := by decide +kernel
theorem dX4_share_80 : decode cX4_share 80 = .ok (.isub, 1) := by decide +kernel
theorem dX4_share_81 : decode cX4_share 81 = .ok (.imul, 1) := by decide +kernel
theorem dX4_share_82 : decode cX4_share 82 = .ok (.iadd, 1) := by decide +kernel
theorem dX4_share_83 : decode cX4_share 83 = .ok (.istore_n 3, 1) := by decide +kernel
theorem dX4_share_84 : decode cX4_share 84 = .ok (.iinc 4 1, 3) := by decide +kernel
theorem dX4_share_87 : decode cX4_share 87 = .ok (.goto (-72), 3) := by decide +kernel
theorem dX4_share_90 : decode cX4_share 90 = .ok (.iload_n 3, 1) := by decide +kernel
theorem dX4_share_91 : decode cX4_share 91 = .ok (.i2l, 1) := by decide +kernel
theorem dX4_share_92 : decode cX4_share 92 = .ok (.aload_n 0, 1) := by decide +kernel
theorem dX4_share_93 : decode cX4_share 93 = .ok (.getfield 50, 3) := by decide +kernel
theorem dX4_share_96 : decode cX4_share 96 = .ok (.invokestatic 196, 3) := by decide +kernel
theorem dX4_share_99 : decode cX4_share 99 = .ok (.i2l, 1) := by decide +kernel
theorem dX4_share_100 : decode cX4_share 100 = .ok (.invokestatic 202, 3) := by decide +kernel
theorem dX4_share_103 : decode cX4_share 103 = .ok (.lstore 4, 2) := by decide +kernel
theorem dX4_share_105 : decode cX4_share 105 = .ok (.iload_n 2, 1) := by decide +kernel
theorem dX4_share_106 : decode cX4_share 106 = .ok (.ifCond .eq 7, 3) := by decide +kernel
theorem dX4_share_109 : decode cX4_share 109 = .ok (.iload_n 3, 1) := by decide +kernel
theorem dX4_share_110 : decode cX4_share 110 = .ok (.goto 10, 3) := by decide +kernel
theorem dX4_share_113 : decode cX4_share 113 = .ok (.aload_n 0, 1) := by decide +kernel
theorem dX4_share_114 : decode cX4_share 114 = .ok (.getfield 50, 3) := by decide +kernel
theorem dX4_share_117 : decode cX4_share 117 = .ok (.invokestatic 196, 3) := by decide +kernel
theorem dX4_share_120 : decode cX4_share 120 = .ok (.i2l, 1) := by decide +kernel
theorem dX4_share_121 : decode cX4_share 121 = .ok (.lload 4, 2) := by decide +kernel
theorem dX4_share_123 : decode cX4_share 123 = .ok (.ldiv, 1) := by decide +kernel
theorem dX4_share_124 : decode cX4_share 124 = .ok (.l2i, 1) := by decide +kernel
theorem dX4_share_125 : decode cX4_share 125 = .ok (.ireturn, 1) := by decide +kernel
theorem dX4_gain_0 : decode cX4_gain 0 = .ok (.iload_n 3, 1) := by decide +kernel
theorem dX4_gain_1 : decode cX4_gain 1 = .ok (.ifCond .ne 7, 3) := by decide +kernel
theorem dX4_gain_4 : decode cX4_gain 4 = .ok (.iconst 0, 1) := by decide +kernel
theorem dX4_gain_5 : decode cX4_gain 5 = .ok (.goto 26, 3) := by decide +kernel
theorem dX4_gain_8 : decode cX4_gain 8 = .ok (.aload_n 0, 1) := by decide +kernel
theorem dX4_gain_9 : decode cX4_gain 9 = .ok (.iconst 0, 1) := by decide +kernel
theorem dX4_gain_10 : decode cX4_gain 10 = .ok (.iload_n 2, 1) := by decide +kernel
theorem dX4_gain_11 : decode cX4_gain 11 = .ok (.invokevirtual 112, 3) := by decide +kernel
theorem dX4_gain_14 : decode cX4_gain 14 = .ok (.aload_n 0, 1) := by decide +kernel
theorem dX4_gain_15 : decode cX4_gain 15 = .ok (.getfield 16, 3) := by decide +kernel
theorem dX4_gain_18 : decode cX4_gain 18 = .ok (.bipush 20, 2) := by decide +kernel
theorem dX4_gain_20 : decode cX4_gain 20 = .ok (.iload_n 1, 1) := by decide +kernel
theorem dX4_gain_21 : decode cX4_gain 21 = .ok (.iadd, 1) := by decide +kernel
theorem dX4_gain_22 : decode cX4_gain 22 = .ok (.iaload, 1) := by decide +kernel
theorem dX4_gain_23 : decode cX4_gain 23 = .ok (.iconst 3, 1) := by decide +kernel
theorem dX4_gain_24 : decode cX4_gain 24 = .ok (.idiv, 1) := by decide +kernel
theorem dX4_gain_25 : decode cX4_gain 25 = .ok (.isub, 1) := by decide +kernel
theorem dX4_gain_26 : decode cX4_gain 26 = .ok (.iconst 3, 1) := by decide +kernel
theorem dX4_gain_27 : decode cX4_gain 27 = .ok (.iload 4, 2) := by decide +kernel
theorem dX4_gain_29 : decode cX4_gain 29 = .ok (.imul, 1) := by decide +kernel
theorem dX4_gain_30 : decode cX4_gain 30 = .ok (.isub, 1) := by decide +kernel
theorem dX4_gain_31 : decode cX4_gain 31 = .ok (.ireturn, 1) := by decide +kernel
theorem dX4_isRest_0 : decode cX4_isRest 0 = .ok (.aload_n 0, 1) := by decide +kernel
theorem dX4_isRest_1 : decode cX4_isRest 1 = .ok (.iload_n 1, 1) := by decide +kernel
theorem dX4_isRest_2 : decode cX4_isRest 2 = .ok (.iload_n 3, 1) := by decide +kernel
theorem dX4_isRest_3 : decode cX4_isRest 3 = .ok (.iconst 1, 1) := by decide +kernel
theorem dX4_isRest_4 : decode cX4_isRest 4 = .ok (.iload 4, 2) := by decide +kernel
theorem dX4_isRest_6 : decode cX4_isRest 6 = .ok (.isub, 1) := by decide +kernel
theorem dX4_isRest_7 : decode cX4_isRest 7 = .ok (.iload 5, 2) := by decide +kernel
theorem dX4_isRest_9 : decode cX4_isRest 9 = .ok (.invokevirtual 206, 3) := by decide +kernel
theorem dX4_isRest_12 : decode cX4_isRest 12 = .ok (.aload_n 0, 1) := by decide +kernel
theorem dX4_isRest_13 : decode cX4_isRest 13 = .ok (.iload_n 1, 1) := by decide +kernel
theorem dX4_isRest_14 : decode cX4_isRest 14 = .ok (.iload_n 3, 1) := by decide +kernel
theorem dX4_isRest_15 : decode cX4_isRest 15 = .ok (.iload 4, 2) := by decide +kernel
theorem dX4_isRest_17 : decode cX4_isRest 17 = .ok (.iload 5, 2) := by decide +kernel
theorem dX4_isRest_19 : decode cX4_isRest 19 = .ok (.invokevirtual 206, 3) := by decide +kernel
theorem dX4_isRest_22 : decode cX4_isRest 22 = .ok (.if_icmp .gt 32, 3) := by decide +kernel
theorem dX4_isRest_25 : decode cX4_isRest 25 = .ok (.aload_n 0, 1) := by decide +kernel
theorem dX4_isRest_26 : decode cX4_isRest 26 = .ok (.iload_n 2, 1) := by decide +kernel
theorem dX4_isRest_27 : decode cX4_isRest 27 = .ok (.iload_n 3, 1) := by decide +kernel
theorem dX4_isRest_28 : decode cX4_isRest 28 = .ok (.iconst 1, 1) := by decide +kernel
theorem dX4_isRest_29 : decode cX4_isRest 29 = .ok (.iload 5, 2) := by decide +kernel
theorem dX4_isRest_31 : decode cX4_isRest 31 = .ok (.isub, 1) := by decide +kernel
theorem dX4_isRest_32 : decode cX4_isRest 32 = .ok (.iload 4, 2) := by decide +kernel
theorem dX4_isRest_34 : decode cX4_isRest 34 = .ok (.invokevirtual 206, 3) := by decide +kernel
theorem dX4_isRest_37 : decode cX4_isRest 37 = .ok (.aload_n 0, 1) := by decide +kernel
theorem dX4_isRest_38 : decode cX4_isRest 38 = .ok (.iload_n 2, 1) := by decide +kernel
theorem dX4_isRest_39 : decode cX4_isRest 39 = .ok (.iload_n 3, 1) := by decide +kernel
theorem dX4_isRest_40 : decode cX4_isRest 40 = .ok (.iload 5, 2) := by decide +kernel
theorem dX4_isRest_42 : decode cX4_isRest 42 = .ok (.iload 4, 2) := by decide +kernel
theorem dX4_isRest_44 : decode cX4_isRest 44 = .ok (.invokevirtual 206, 3) := by decide +kernel
theorem dX4_isRest_47 : decode cX4_isRest 47 = .ok (.if_icmp .gt 7, 3) := by decide +kernel
theorem dX4_isRest_50 : decode cX4_isRest 50 = .ok (.iconst 1, 1) := by decide +kernel
theorem dX4_isRest_51 : decode cX4_isRest 51 = .ok (.goto 4, 3) := by decide +kernel
theorem dX4_isRest_54 : decode cX4_isRest 54 = .ok (.iconst 0, 1) := by decide +kernel
theorem dX4_isRest_55 : decode cX4_isRest 55 = .ok (.ireturn, 1) := by decide +kernel
theorem dX4_rests_0 : decode cX4_rests 0 = .ok (.aload_n 0, 1) := by decide +kernel
theorem dX4_rests_1 : decode cX4_rests 1 = .ok (.iload_n 1, 1) := by decide +kernel
theorem dX4_rests_2 : decode cX4_rests 2 = .ok (.invokevirtual 132, 3) := by decide +kernel
theorem dX4_rests_5 : decode cX4_rests 5 = .ok (.ifCond .eq 19, 3) := by decide +kernel
theorem dX4_rests_8 : decode cX4_rests 8 = .ok (.aload_n 0, 1) := by decide +kernel
theorem dX4_rests_9 : decode cX4_rests 9 = .ok (.iload_n 2, 1) := by decide +kernel
theorem dX4_rests_10 : decode cX4_rests 10 = .ok (.invokevirtual 132, 3) := by decide +kernel
theorem dX4_rests_13 : decode cX4_rests 13 = .ok (.ifCond .eq 11, 3) := by decide +kernel
theorem dX4_rests_16 : decode cX4_rests 16 = .ok (.aload_n 0, 1) := by decide +kernel
theorem dX4_rests_17 : decode cX4_rests 17 = .ok (.iload_n 3, 1) := by decide +kernel
theorem dX4_rests_18 : decode cX4_rests 18 = .ok (.invokevirtual 128, 3) := by decide +kernel
theorem dX4_rests_21 : decode cX4_rests 21 = .ok (.ifCond .ne 5, 3) := by decide +kernel
theorem dX4_rests_24 : decode cX4_rests 24 = .ok (.iconst (-1), 1) := by decide +kernel
theorem dX4_rests_25 : decode cX4_rests 25 = .ok (.ireturn, 1) := by decide +kernel
theorem dX4_rests_26 : decode cX4_rests 26 = .ok (.iload_n 1, 1) := by decide +kernel
theorem dX4_rests_27 : decode cX4_rests 27 = .ok (.iload_n 2, 1) := by decide +kernel
theorem dX4_rests_28 : decode cX4_rests 28 = .ok (.if_icmp .eq 14, 3) := by decide +kernel
theorem dX4_rests_31 : decode cX4_rests 31 = .ok (.iload 4, 2) := by decide +kernel
theorem dX4_rests_33 : decode cX4_rests 33 = .ok (.i2l, 1) := by decide +kernel
theorem dX4_rests_34 : decode cX4_rests 34 = .ok (.lconst 0, 1) := by decide +kernel
theorem dX4_rests_35 : decode cX4_rests 35 = .ok (.lconst 1, 1) := by decide +kernel
theorem dX4_rests_36 : decode cX4_rests 36 = .ok (.invokestatic 56, 3) := by decide +kernel
theorem dX4_rests_39 : decode cX4_rests 39 = .ok (.ifCond .ne 6, 3) := by decide +kernel
theorem dX4_rests_42 : decode cX4_rests 42 = .ok (.bipush (-2), 2) := by decide +kernel
theorem dX4_rests_44 : decode cX4_rests 44 = .ok (.ireturn, 1) := by decide +kernel
theorem dX4_rests_45 : decode cX4_rests 45 = .ok (.aload_n 0, 1) := by decide +kernel
theorem dX4_rests_46 : decode cX4_rests 46 = .ok (.getfield 16, 3) := by decide +kernel
theorem dX4_rests_49 : decode cX4_rests 49 = .ok (.bipush 24, 2) := by decide +kernel
theorem dX4_rests_51 : decode cX4_rests 51 = .ok (.iload_n 1, 1) := by decide +kernel
theorem dX4_rests_52 : decode cX4_rests 52 = .ok (.iadd, 1) := by decide +kernel
theorem dX4_rests_53 : decode cX4_rests 53 = .ok (.iaload, 1) := by decide +kernel
theorem dX4_rests_54 : decode cX4_rests 54 = .ok (.ifCond .ne 15, 3) := by decide +kernel
theorem dX4_rests_57 : decode cX4_rests 57 = .ok (.aload_n 0, 1) := by decide +kernel
theorem dX4_rests_58 : decode cX4_rests 58 = .ok (.getfield 16, 3) := by decide +kernel
theorem dX4_rests_61 : decode cX4_rests 61 = .ok (.bipush 24, 2) := by decide +kernel
theorem dX4_rests_63 : decode cX4_rests 63 = .ok (.iload_n 2, 1) := by decide +kernel
theorem dX4_rests_64 : decode cX4_rests 64 = .ok (.iadd, 1) := by decide +kernel
theorem dX4_rests_65 : decode cX4_rests 65 = .ok (.iaload, 1) := by decide +kernel
theorem dX4_rests_66 : decode cX4_rests 66 = .ok (.ifCond .eq 6, 3) := by decide +kernel
theorem dX4_rests_69 : decode cX4_rests 69 = .ok (.bipush (-3), 2) := by decide +kernel
theorem dX4_rests_71 : decode cX4_rests 71 = .ok (.ireturn, 1) := by decide +kernel
theorem dX4_rests_72 : decode cX4_rests 72 = .ok (.iconst 0, 1) := by decide +kernel
theorem dX4_rests_73 : decode cX4_rests 73 = .ok (.istore 5, 2) := by decide +kernel
theorem dX4_rests_75 : decode cX4_rests 75 = .ok (.bipush (-9), 2) := by decide +kernel
theorem dX4_rests_77 : decode cX4_rests 77 = .ok (.istore 6, 2) := by decide +kernel
theorem dX4_rests_79 : decode cX4_rests 79 = .ok (.iconst 0, 1) := by decide +kernel
theorem dX4_rests_80 : decode cX4_rests 80 = .ok (.istore 7, 2) := by decide +kernel
theorem dX4_rests_82 : decode cX4_rests 82 = .ok (.iload 7, 2) := by decide +kernel
theorem dX4_rests_84 : decode cX4_rests 84 = .ok (.iconst 4, 1) := by decide +kernel
theorem dX4_rests_85 : decode cX4_rests 85 = .ok (.if_icmp .ge 54, 3) := by decide +kernel
theorem dX4_rests_88 : decode cX4_rests 88 = .ok (.aload_n 0, 1) := by decide +kernel
theorem dX4_rests_89 : decode cX4_rests 89 = .ok (.iload_n 1, 1) := by decide +kernel
theorem dX4_rests_90 : decode cX4_rests 90 = .ok (.iload_n 2, 1) := by decide +kernel
theorem dX4_rests_91 : decode cX4_rests 91 = .ok (.iload_n 3, 1) := by decide +kernel
theorem dX4_rests_92 : decode cX4_rests 92 = .ok (.iload 7, 2) := by decide +kernel
theorem dX4_rests_94 : decode cX4_rests 94 = .ok (.iconst 2, 1) := by decide +kernel
theorem dX4_rests_95 : decode cX4_rests 95 = .ok (.idiv, 1) := by decide +kernel
theorem dX4_rests_96 : decode cX4_rests 96 = .ok (.iload 7, 2) := by decide +kernel
theorem dX4_rests_98 : decode cX4_rests 98 = .ok (.iconst 2, 1) := by decide +kernel
theorem dX4_rests_99 : decode cX4_rests 99 = .ok (.irem, 1) := by decide +kernel
theorem dX4_rests_100 : decode cX4_rests 100 = .ok (.invokevirtual 210, 3) := by decide +kernel
theorem dX4_rests_103 : decode cX4_rests 103 = .ok (.ifCond .eq 30, 3) := by decide +kernel
theorem dX4_rests_106 : decode cX4_rests 106 = .ok (.iload 5, 2) := by decide +kernel
theorem dX4_rests_108 : decode cX4_rests 108 = .ok (.ifCond .ne 18, 3) := by decide +kernel
theorem dX4_rests_111 : decode cX4_rests 111 = .ok (.bipush 10, 2) := by decide +kernel
theorem dX4_rests_113 : decode cX4_rests 113 = .ok (.iload 7, 2) := by decide +kernel
theorem dX4_rests_115 : decode cX4_rests 115 = .ok (.iconst 2, 1) := by decide +kernel
theorem dX4_rests_116 : decode cX4_rests 116 = .ok (.idiv, 1) := by decide +kernel
theorem dX4_rests_117 : decode cX4_rests 117 = .ok (.imul, 1) := by decide +kernel
theorem dX4_rests_118 : decode cX4_rests 118 = .ok (.iload 7, 2) := by decide +kernel
theorem dX4_rests_120 : decode cX4_rests 120 = .ok (.iconst 2, 1) := by decide +kernel
theorem dX4_rests_121 : decode cX4_rests 121 = .ok (.irem, 1) := by decide +kernel
theorem dX4_rests_122 : decode cX4_rests 122 = .ok (.iadd, 1) := by decide +kernel
theorem dX4_rests_123 : decode cX4_rests 123 = .ok (.goto 5, 3) := by decide +kernel
theorem dX4_rests_126 : decode cX4_rests 126 = .ok (.iload 6, 2) := by decide +kernel
theorem dX4_rests_128 : decode cX4_rests 128 = .ok (.istore 6, 2) := by decide +kernel
theorem dX4_rests_130 : decode cX4_rests 130 = .ok (.iinc 5 1, 3) := by decide +kernel
theorem dX4_rests_133 : decode cX4_rests 133 = .ok (.iinc 7 1, 3) := by decide +kernel
theorem dX4_rests_136 : decode cX4_rests 136 = .ok (.goto (-54), 3) := by decide +kernel
theorem dX4_rests_139 : decode cX4_rests 139 = .ok (.iload 4, 2) := by decide +kernel
theorem dX4_rests_141 : decode cX4_rests 141 = .ok (.ifCond .ne 8, 3) := by decide +kernel
theorem dX4_rests_144 : decode cX4_rests 144 = .ok (.iload 5, 2) := by decide +kernel
theorem dX4_rests_146 : decode cX4_rests 146 = .ok (.goto 5, 3) := by decide +kernel
theorem dX4_rests_149 : decode cX4_rests 149 = .ok (.iload 6, 2) := by decide +kernel
theorem dX4_rests_151 : decode cX4_rests 151 = .ok (.ireturn, 1) := by decide +kernel
theorem dX4_born_0 : decode cX4_born 0 = .ok (.iload_n 1, 1) := by decide +kernel
theorem dX4_born_1 : decode cX4_born 1 = .ok (.i2l, 1) := by decide +kernel
theorem dX4_born_2 : decode cX4_born 2 = .ok (.lconst 0, 1) := by decide +kernel
theorem dX4_born_3 : decode cX4_born 3 = .ok (.ldc2_w 69, 3) := by decide +kernel
theorem dX4_born_6 : decode cX4_born 6 = .ok (.invokestatic 56, 3) := by decide +kernel
theorem dX4_born_9 : decode cX4_born 9 = .ok (.ifCond .eq 15, 3) := by decide +kernel
theorem dX4_born_12 : decode cX4_born 12 = .ok (.iload_n 2, 1) := by decide +kernel
theorem dX4_born_13 : decode cX4_born 13 = .ok (.i2l, 1) := by decide +kernel
theorem dX4_born_14 : decode cX4_born 14 = .ok (.lconst 0, 1) := by decide +kernel
theorem dX4_born_15 : decode cX4_born 15 = .ok (.ldc2_w 178, 3) := by decide +kernel
theorem dX4_born_18 : decode cX4_born 18 = .ok (.invokestatic 56, 3) := by decide +kernel
theorem dX4_born_21 : decode cX4_born 21 = .ok (.ifCond .ne 6, 3) := by decide +kernel
theorem dX4_born_24 : decode cX4_born 24 = .ok (.bipush (-2), 2) := by decide +kernel
theorem dX4_born_26 : decode cX4_born 26 = .ok (.ireturn, 1) := by decide +kernel
theorem dX4_born_27 : decode cX4_born 27 = .ok (.aload_n 0, 1) := by decide +kernel
theorem dX4_born_28 : decode cX4_born 28 = .ok (.iconst 0, 1) := by decide +kernel
theorem dX4_born_29 : decode cX4_born 29 = .ok (.invokevirtual 115, 3) := by decide +kernel
theorem dX4_born_32 : decode cX4_born 32 = .ok (.istore 4, 2) := by decide +kernel
theorem dX4_born_34 : decode cX4_born 34 = .ok (.iconst 0, 1) := by decide +kernel
theorem dX4_born_35 : decode cX4_born 35 = .ok (.istore 5, 2) := by decide +kernel
theorem dX4_born_37 : decode cX4_born 37 = .ok (.iconst 0, 1) := by decide +kernel
theorem dX4_born_38 : decode cX4_born 38 = .ok (.istore 6, 2) := by decide +kernel
theorem dX4_born_40 : decode cX4_born 40 = .ok (.iload 6, 2) := by decide +kernel
theorem dX4_born_42 : decode cX4_born 42 = .ok (.aload_n 0, 1) := by decide +kernel
theorem dX4_born_43 : decode cX4_born 43 = .ok (.getfield 50, 3) := by decide +kernel
theorem dX4_born_46 : decode cX4_born 46 = .ok (.if_icmp .ge 51, 3) := by decide +kernel
theorem dX4_born_49 : decode cX4_born 49 = .ok (.iload 5, 2) := by decide +kernel
theorem dX4_born_51 : decode cX4_born 51 = .ok (.iload 4, 2) := by decide +kernel
theorem dX4_born_53 : decode cX4_born 53 = .ok (.iload 6, 2) := by decide +kernel
theorem dX4_born_55 : decode cX4_born 55 = .ok (.invokestatic 71, 3) := by decide +kernel
theorem dX4_born_58 : decode cX4_born 58 = .ok (.ifCond .eq 29, 3) := by decide +kernel
theorem dX4_born_61 : decode cX4_born 61 = .ok (.aload_n 0, 1) := by decide +kernel
theorem dX4_born_62 : decode cX4_born 62 = .ok (.getfield 16, 3) := by decide +kernel
theorem dX4_born_65 : decode cX4_born 65 = .ok (.bipush 10, 2) := by decide +kernel
theorem dX4_born_67 : decode cX4_born 67 = .ok (.iload 6, 2) := by decide +kernel
theorem dX4_born_69 : decode cX4_born 69 = .ok (.iadd, 1) := by decide +kernel
theorem dX4_born_70 : decode cX4_born 70 = .ok (.iaload, 1) := by decide +kernel
theorem dX4_born_71 : decode cX4_born 71 = .ok (.iload 4, 2) := by decide +kernel
theorem dX4_born_73 : decode cX4_born 73 = .ok (.iand, 1) := by decide +kernel
theorem dX4_born_74 : decode cX4_born 74 = .ok (.iconst 1, 1) := by decide +kernel
theorem dX4_born_75 : decode cX4_born 75 = .ok (.iload 6, 2) := by decide +kernel
theorem dX4_born_77 : decode cX4_born 77 = .ok (.ishl, 1) := by decide +kernel
theorem dX4_born_78 : decode cX4_born 78 = .ok (.iconst 1, 1) := by decide +kernel
theorem dX4_born_79 : decode cX4_born 79 = .ok (.isub, 1) := by decide +kernel
theorem dX4_born_80 : decode cX4_born 80 = .ok (.iand, 1) := by decide +kernel
theorem dX4_born_81 : decode cX4_born 81 = .ok (.invokestatic 147, 3) := by decide +kernel
theorem dX4_born_84 : decode cX4_born 84 = .ok (.goto 4, 3) := by decide +kernel
theorem dX4_born_87 : decode cX4_born 87 = .ok (.iconst 0, 1) := by decide +kernel
theorem dX4_born_88 : decode cX4_born 88 = .ok (.iadd, 1) := by decide +kernel
theorem dX4_born_89 : decode cX4_born 89 = .ok (.istore 5, 2) := by decide +kernel
theorem dX4_born_91 : decode cX4_born 91 = .ok (.iinc 6 1, 3) := by decide +kernel
theorem dX4_born_94 : decode cX4_born 94 = .ok (.goto (-54), 3) := by decide +kernel
theorem dX4_born_97 : decode cX4_born 97 = .ok (.iload_n 1, 1) := by decide +kernel
theorem dX4_born_98 : decode cX4_born 98 = .ok (.iload 5, 2) := by decide +kernel
theorem dX4_born_100 : decode cX4_born 100 = .ok (.if_icmp .le 7, 3) := by decide +kernel
theorem dX4_born_103 : decode cX4_born 103 = .ok (.lconst 0, 1) := by decide +kernel
theorem dX4_born_104 : decode cX4_born 104 = .ok (.goto 4, 3) := by decide +kernel
theorem dX4_born_107 : decode cX4_born 107 = .ok (.lconst 1, 1) := by decide +kernel
theorem dX4_born_108 : decode cX4_born 108 = .ok (.lstore 6, 2) := by decide +kernel
theorem dX4_born_110 : decode cX4_born 110 = .ok (.iconst 0, 1) := by decide +kernel
theorem dX4_born_111 : decode cX4_born 111 = .ok (.istore 8, 2) := by decide +kernel
theorem dX4_born_113 : decode cX4_born 113 = .ok (.iload 8, 2) := by decide +kernel
theorem dX4_born_115 : decode cX4_born 115 = .ok (.iload_n 1, 1) := by decide +kernel
theorem dX4_born_116 : decode cX4_born 116 = .ok (.if_icmp .ge 32, 3) := by decide +kernel
theorem dX4_born_119 : decode cX4_born 119 = .ok (.iload_n 1, 1) := by decide +kernel
theorem dX4_born_120 : decode cX4_born 120 = .ok (.iload 5, 2) := by decide +kernel
theorem dX4_born_122 : decode cX4_born 122 = .ok (.if_icmp .gt 26, 3) := by decide +kernel
theorem dX4_born_125 : decode cX4_born 125 = .ok (.lload 6, 2) := by decide +kernel
theorem dX4_born_127 : decode cX4_born 127 = .ok (.iload 5, 2) := by decide +kernel
theorem dX4_born_129 : decode cX4_born 129 = .ok (.iload 8, 2) := by decide +kernel
theorem dX4_born_131 : decode cX4_born 131 = .ok (.isub, 1) := by decide +kernel
theorem dX4_born_132 : decode cX4_born 132 = .ok (.i2l, 1) := by decide +kernel
theorem dX4_born_133 : decode cX4_born 133 = .ok (.lmul, 1) := by decide +kernel
theorem dX4_born_134 : decode cX4_born 134 = .ok (.iload 8, 2) := by decide +kernel
theorem dX4_born_136 : decode cX4_born 136 = .ok (.iconst 1, 1) := by decide +kernel
theorem dX4_born_137 : decode cX4_born 137 = .ok (.iadd, 1) := by decide +kernel
theorem dX4_born_138 : decode cX4_born 138 = .ok (.i2l, 1) := by decide +kernel
theorem dX4_born_139 : decode cX4_born 139 = .ok (.ldiv, 1) := by decide +kernel
theorem dX4_born_140 : decode cX4_born 140 = .ok (.lstore 6, 2) := by decide +kernel
theorem dX4_born_142 : decode cX4_born 142 = .ok (.iinc 8 1, 3) := by decide +kernel
theorem dX4_born_145 : decode cX4_born 145 = .ok (.goto (-32), 3) := by decide +kernel
theorem dX4_born_148 : decode cX4_born 148 = .ok (.iconst 0, 1) := by decide +kernel
theorem dX4_born_149 : decode cX4_born 149 = .ok (.istore 8, 2) := by decide +kernel
theorem dX4_born_151 : decode cX4_born 151 = .ok (.iload 8, 2) := by decide +kernel
theorem dX4_born_153 : decode cX4_born 153 = .ok (.iload 5, 2) := by decide +kernel
theorem dX4_born_155 : decode cX4_born 155 = .ok (.if_icmp .ge 30, 3) := by decide +kernel
theorem dX4_born_158 : decode cX4_born 158 = .ok (.lload 6, 2) := by decide +kernel
theorem dX4_born_160 : decode cX4_born 160 = .ok (.iload 8, 2) := by decide +kernel
theorem dX4_born_162 : decode cX4_born 162 = .ok (.iload_n 1, 1) := by decide +kernel
theorem dX4_born_163 : decode cX4_born 163 = .ok (.if_icmp .ge 8, 3) := by decide +kernel
theorem dX4_born_166 : decode cX4_born 166 = .ok (.iload_n 2, 1) := by decide +kernel
theorem dX4_born_167 : decode cX4_born 167 = .ok (.i2l, 1) := by decide +kernel
theorem dX4_born_168 : decode cX4_born 168 = .ok (.goto 8, 3) := by decide +kernel
theorem dX4_born_171 : decode cX4_born 171 = .ok (.bipush 10, 2) := by decide +kernel
theorem dX4_born_173 : decode cX4_born 173 = .ok (.iload_n 2, 1) := by decide +kernel
theorem dX4_born_174 : decode cX4_born 174 = .ok (.isub, 1) := by decide +kernel
theorem dX4_born_175 : decode cX4_born 175 = .ok (.i2l, 1) := by decide +kernel
theorem dX4_born_176 : decode cX4_born 176 = .ok (.lmul, 1) := by decide +kernel
theorem dX4_born_177 : decode cX4_born 177 = .ok (.lstore 6, 2) := by decide +kernel
theorem dX4_born_179 : decode cX4_born 179 = .ok (.iinc 8 1, 3) := by decide +kernel
theorem dX4_born_182 : decode cX4_born 182 = .ok (.goto (-31), 3) := by decide +kernel
theorem dX4_born_185 : decode cX4_born 185 = .ok (.lload 6, 2) := by decide +kernel
theorem dX4_born_187 : decode cX4_born 187 = .ok (.iload 5, 2) := by decide +kernel
theorem dX4_born_189 : decode cX4_born 189 = .ok (.invokestatic 182, 3) := by decide +kernel
theorem dX4_born_192 : decode cX4_born 192 = .ok (.invokestatic 202, 3) := by decide +kernel
theorem dX4_born_195 : decode cX4_born 195 = .ok (.lstore 8, 2) := by decide +kernel
theorem dX4_born_197 : decode cX4_born 197 = .ok (.iload_n 3, 1) := by decide +kernel
theorem dX4_born_198 : decode cX4_born 198 = .ok (.ifCond .eq 8, 3) := by decide +kernel
theorem dX4_born_201 : decode cX4_born 201 = .ok (.lload 6, 2) := by decide +kernel
theorem dX4_born_203 : decode cX4_born 203 = .ok (.goto 8, 3) := by decide +kernel
theorem dX4_born_206 : decode cX4_born 206 = .ok (.iload 5, 2) := by decide +kernel
theorem dX4_born_208 : decode cX4_born 208 = .ok (.invokestatic 182, 3) := by decide +kernel
theorem dX4_born_211 : decode cX4_born 211 = .ok (.lload 8, 2) := by decide +kernel
theorem dX4_born_213 : decode cX4_born 213 = .ok (.ldiv, 1) := by decide +kernel
theorem dX4_born_214 : decode cX4_born 214 = .ok (.l2i, 1) := by decide +kernel
theorem dX4_born_215 : decode cX4_born 215 = .ok (.ireturn, 1) := by decide +kernel
theorem dX4_seed_0 : decode cX4_seed 0 = .ok (.aload_n 0, 1) := by decide +kernel
theorem dX4_seed_1 : decode cX4_seed 1 = .ok (.getfield 214, 3) := by decide +kernel
theorem dX4_seed_4 : decode cX4_seed 4 = .ok (.lstore_n 3, 1) := by decide +kernel
theorem dX4_seed_5 : decode cX4_seed 5 = .ok (.aload_n 0, 1) := by decide +kernel
theorem dX4_seed_6 : decode cX4_seed 6 = .ok (.lload_n 1, 1) := by decide +kernel
theorem dX4_seed_7 : decode cX4_seed 7 = .ok (.putfield 214, 3) := by decide +kernel
theorem dX4_seed_10 : decode cX4_seed 10 = .ok (.lload_n 3, 1) := by decide +kernel
theorem dX4_seed_11 : decode cX4_seed 11 = .ok (.lreturn, 1) := by decide +kernel
theorem dX4_years_0 : decode cX4_years 0 = .ok (.iload_n 1, 1) := by decide +kernel
theorem dX4_years_1 : decode cX4_years 1 = .ok (.i2l, 1) := by decide +kernel
theorem dX4_years_2 : decode cX4_years 2 = .ok (.lconst 1, 1) := by decide +kernel
theorem dX4_years_3 : decode cX4_years 3 = .ok (.ldc2_w 218, 3) := by decide +kernel
theorem dX4_years_6 : decode cX4_years 6 = .ok (.invokestatic 56, 3) := by decide +kernel
theorem dX4_years_9 : decode cX4_years 9 = .ok (.ifCond .ne 6, 3) := by decide +kernel
theorem dX4_years_12 : decode cX4_years 12 = .ok (.bipush (-2), 2) := by decide +kernel
theorem dX4_years_14 : decode cX4_years 14 = .ok (.ireturn, 1) := by decide +kernel
theorem dX4_years_15 : decode cX4_years 15 = .ok (.aload_n 0, 1) := by decide +kernel
theorem dX4_years_16 : decode cX4_years 16 = .ok (.invokevirtual 169, 3) := by decide +kernel
theorem dX4_years_19 : decode cX4_years 19 = .ok (.iconst 0, 1) := by decide +kernel
theorem dX4_years_20 : decode cX4_years 20 = .ok (.istore_n 2, 1) := by decide +kernel
theorem dX4_years_21 : decode cX4_years 21 = .ok (.iconst 0, 1) := by decide +kernel
theorem dX4_years_22 : decode cX4_years 22 = .ok (.istore_n 3, 1) := by decide +kernel
theorem dX4_years_23 : decode cX4_years 23 = .ok (.iload_n 3, 1) := by decide +kernel
theorem dX4_years_24 : decode cX4_years 24 = .ok (.iload_n 1, 1) := by decide +kernel
theorem dX4_years_25 : decode cX4_years 25 = .ok (.if_icmp .ge 102, 3) := by decide +kernel
theorem dX4_years_28 : decode cX4_years 28 = .ok (.aload_n 0, 1) := by decide +kernel
theorem dX4_years_29 : decode cX4_years 29 = .ok (.aload_n 0, 1) := by decide +kernel
theorem dX4_years_30 : decode cX4_years 30 = .ok (.getfield 214, 3) := by decide +kernel
theorem dX4_years_33 : decode cX4_years 33 = .ok (.ldc2_w 220, 3) := by decide +kernel
theorem dX4_years_36 : decode cX4_years 36 = .ok (.lmul, 1) := by decide +kernel
theorem dX4_years_37 : decode cX4_years 37 = .ok (.ldc2_w 222, 3) := by decide +kernel
theorem dX4_years_40 : decode cX4_years 40 = .ok (.ladd, 1) := by decide +kernel
theorem dX4_years_41 : decode cX4_years 41 = .ok (.putfield 214, 3) := by decide +kernel
theorem dX4_years_44 : decode cX4_years 44 = .ok (.aload_n 0, 1) := by decide +kernel
theorem dX4_years_45 : decode cX4_years 45 = .ok (.getfield 214, 3) := by decide +kernel
theorem dX4_years_48 : decode cX4_years 48 = .ok (.bipush 33, 2) := by decide +kernel
theorem dX4_years_50 : decode cX4_years 50 = .ok (.lushr, 1) := by decide +kernel
theorem dX4_years_51 : decode cX4_years 51 = .ok (.ldc2_w 178, 3) := by decide +kernel
theorem dX4_years_54 : decode cX4_years 54 = .ok (.lrem, 1) := by decide +kernel
theorem dX4_years_55 : decode cX4_years 55 = .ok (.l2i, 1) := by decide +kernel
theorem dX4_years_56 : decode cX4_years 56 = .ok (.istore 4, 2) := by decide +kernel
theorem dX4_years_58 : decode cX4_years 58 = .ok (.iload 4, 2) := by decide +kernel
theorem dX4_years_60 : decode cX4_years 60 = .ok (.istore 5, 2) := by decide +kernel
theorem dX4_years_62 : decode cX4_years 62 = .ok (.iload 5, 2) := by decide +kernel
theorem dX4_years_64 : decode cX4_years 64 = .ok (.ifCond .le 46, 3) := by decide +kernel
theorem dX4_years_67 : decode cX4_years 67 = .ok (.aload_n 0, 1) := by decide +kernel
theorem dX4_years_68 : decode cX4_years 68 = .ok (.getfield 16, 3) := by decide +kernel
theorem dX4_years_71 : decode cX4_years 71 = .ok (.bipush 58, 2) := by decide +kernel
theorem dX4_years_73 : decode cX4_years 73 = .ok (.iload 5, 2) := by decide +kernel
theorem dX4_years_75 : decode cX4_years 75 = .ok (.iconst 1, 1) := by decide +kernel
theorem dX4_years_76 : decode cX4_years 76 = .ok (.if_icmp .ne 15, 3) := by decide +kernel
theorem dX4_years_79 : decode cX4_years 79 = .ok (.iload 4, 2) := by decide +kernel
theorem dX4_years_81 : decode cX4_years 81 = .ok (.iconst 2, 1) := by decide +kernel
theorem dX4_years_82 : decode cX4_years 82 = .ok (.irem, 1) := by decide +kernel
theorem dX4_years_83 : decode cX4_years 83 = .ok (.iconst 1, 1) := by decide +kernel
theorem dX4_years_84 : decode cX4_years 84 = .ok (.if_icmp .ne 7, 3) := by decide +kernel
theorem dX4_years_87 : decode cX4_years 87 = .ok (.iconst 1, 1) := by decide +kernel
theorem dX4_years_88 : decode cX4_years 88 = .ok (.goto 10, 3) := by decide +kernel
theorem dX4_years_91 : decode cX4_years 91 = .ok (.aload_n 0, 1) := by decide +kernel
theorem dX4_years_92 : decode cX4_years 92 = .ok (.getfield 16, 3) := by decide +kernel
theorem dX4_years_95 : decode cX4_years 95 = .ok (.bipush 28, 2) := by decide +kernel
theorem dX4_years_97 : decode cX4_years 97 = .ok (.iaload, 1) := by decide +kernel
theorem dX4_years_98 : decode cX4_years 98 = .ok (.iastore, 1) := by decide +kernel
theorem dX4_years_99 : decode cX4_years 99 = .ok (.aload_n 0, 1) := by decide +kernel
theorem dX4_years_100 : decode cX4_years 100 = .ok (.iconst 1, 1) := by decide +kernel
theorem dX4_years_101 : decode cX4_years 101 = .ok (.invokevirtual 144, 3) := by decide +kernel
theorem dX4_years_104 : decode cX4_years 104 = .ok (.iinc 5 (-1), 3) := by decide +kernel
theorem dX4_years_107 : decode cX4_years 107 = .ok (.goto (-45), 3) := by decide +kernel
theorem dX4_years_110 : decode cX4_years 110 = .ok (.iload_n 2, 1) := by decide +kernel
theorem dX4_years_111 : decode cX4_years 111 = .ok (.aload_n 0, 1) := by decide +kernel
theorem dX4_years_112 : decode cX4_years 112 = .ok (.iconst 1, 1) := by decide +kernel
theorem dX4_years_113 : decode cX4_years 113 = .ok (.invokevirtual 115, 3) := by decide +kernel
theorem dX4_years_116 : decode cX4_years 116 = .ok (.invokestatic 147, 3) := by decide +kernel
theorem dX4_years_119 : decode cX4_years 119 = .ok (.iadd, 1) := by decide +kernel
theorem dX4_years_120 : decode cX4_years 120 = .ok (.istore_n 2, 1) := by decide +kernel
theorem dX4_years_121 : decode cX4_years 121 = .ok (.iinc 3 1, 3) := by decide +kernel
theorem dX4_years_124 : decode cX4_years 124 = .ok (.goto (-101), 3) := by decide +kernel
theorem dX4_years_127 : decode cX4_years 127 = .ok (.iload_n 2, 1) := by decide +kernel
theorem dX4_years_128 : decode cX4_years 128 = .ok (.ireturn, 1) := by decide +kernel
theorem dX4_keep_0 : decode cX4_keep 0 = .ok (.iload_n 1, 1) := by decide +kernel
theorem dX4_keep_1 : decode cX4_keep 1 = .ok (.i2l, 1) := by decide +kernel
theorem dX4_keep_2 : decode cX4_keep 2 = .ok (.lconst 0, 1) := by decide +kernel
theorem dX4_keep_3 : decode cX4_keep 3 = .ok (.lconst 1, 1) := by decide +kernel
theorem dX4_keep_4 : decode cX4_keep 4 = .ok (.invokestatic 56, 3) := by decide +kernel
theorem dX4_keep_7 : decode cX4_keep 7 = .ok (.ifCond .ne 5, 3) := by decide +kernel
theorem dX4_keep_10 : decode cX4_keep 10 = .ok (.iconst (-1), 1) := by decide +kernel
theorem dX4_keep_11 : decode cX4_keep 11 = .ok (.ireturn, 1) := by decide +kernel
theorem dX4_keep_12 : decode cX4_keep 12 = .ok (.aload_n 0, 1) := by decide +kernel
theorem dX4_keep_13 : decode cX4_keep 13 = .ok (.getfield 43, 3) := by decide +kernel
theorem dX4_keep_16 : decode cX4_keep 16 = .ok (.iload_n 1, 1) := by decide +kernel
theorem dX4_keep_17 : decode cX4_keep 17 = .ok (.iconst 1, 1) := by decide +kernel
theorem dX4_keep_18 : decode cX4_keep 18 = .ok (.bastore, 1) := by decide +kernel
theorem dX4_keep_19 : decode cX4_keep 19 = .ok (.iconst 0, 1) := by decide +kernel
theorem dX4_keep_20 : decode cX4_keep 20 = .ok (.istore_n 2, 1) := by decide +kernel
theorem dX4_keep_21 : decode cX4_keep 21 = .ok (.iload_n 2, 1) := by decide +kernel
theorem dX4_keep_22 : decode cX4_keep 22 = .ok (.bipush 30, 2) := by decide +kernel
theorem dX4_keep_24 : decode cX4_keep 24 = .ok (.if_icmp .ge 26, 3) := by decide +kernel
theorem dX4_keep_27 : decode cX4_keep 27 = .ok (.aload_n 0, 1) := by decide +kernel
theorem dX4_keep_28 : decode cX4_keep 28 = .ok (.getfield 47, 3) := by decide +kernel
theorem dX4_keep_31 : decode cX4_keep 31 = .ok (.bipush 30, 2) := by decide +kernel
theorem dX4_keep_33 : decode cX4_keep 33 = .ok (.iload_n 1, 1) := by decide +kernel
theorem dX4_keep_34 : decode cX4_keep 34 = .ok (.imul, 1) := by decide +kernel
theorem dX4_keep_35 : decode cX4_keep 35 = .ok (.iload_n 2, 1) := by decide +kernel
theorem dX4_keep_36 : decode cX4_keep 36 = .ok (.iadd, 1) := by decide +kernel
theorem dX4_keep_37 : decode cX4_keep 37 = .ok (.aload_n 0, 1) := by decide +kernel
theorem dX4_keep_38 : decode cX4_keep 38 = .ok (.getfield 16, 3) := by decide +kernel
theorem dX4_keep_41 : decode cX4_keep 41 = .ok (.iload_n 2, 1) := by decide +kernel
theorem dX4_keep_42 : decode cX4_keep 42 = .ok (.iaload, 1) := by decide +kernel
theorem dX4_keep_43 : decode cX4_keep 43 = .ok (.iastore, 1) := by decide +kernel
theorem dX4_keep_44 : decode cX4_keep 44 = .ok (.iinc 2 1, 3) := by decide +kernel
theorem dX4_keep_47 : decode cX4_keep 47 = .ok (.goto (-26), 3) := by decide +kernel
theorem dX4_keep_50 : decode cX4_keep 50 = .ok (.aload_n 0, 1) := by decide +kernel
theorem dX4_keep_51 : decode cX4_keep 51 = .ok (.getfield 16, 3) := by decide +kernel
theorem dX4_keep_54 : decode cX4_keep 54 = .ok (.bipush 29, 2) := by decide +kernel
theorem dX4_keep_56 : decode cX4_keep 56 = .ok (.iaload, 1) := by decide +kernel
theorem dX4_keep_57 : decode cX4_keep 57 = .ok (.ireturn, 1) := by decide +kernel
theorem dX4_again_0 : decode cX4_again 0 = .ok (.iload_n 1, 1) := by decide +kernel
theorem dX4_again_1 : decode cX4_again 1 = .ok (.i2l, 1) := by decide +kernel
theorem dX4_again_2 : decode cX4_again 2 = .ok (.lconst 0, 1) := by decide +kernel
theorem dX4_again_3 : decode cX4_again 3 = .ok (.lconst 1, 1) := by decide +kernel
theorem dX4_again_4 : decode cX4_again 4 = .ok (.invokestatic 56, 3) := by decide +kernel
theorem dX4_again_7 : decode cX4_again 7 = .ok (.ifCond .ne 5, 3) := by decide +kernel
theorem dX4_again_10 : decode cX4_again 10 = .ok (.iconst (-1), 1) := by decide +kernel
theorem dX4_again_11 : decode cX4_again 11 = .ok (.ireturn, 1) := by decide +kernel
theorem dX4_again_12 : decode cX4_again 12 = .ok (.aload_n 0, 1) := by decide +kernel
theorem dX4_again_13 : decode cX4_again 13 = .ok (.getfield 43, 3) := by decide +kernel
theorem dX4_again_16 : decode cX4_again 16 = .ok (.iload_n 1, 1) := by decide +kernel
theorem dX4_again_17 : decode cX4_again 17 = .ok (.baload, 1) := by decide +kernel
theorem dX4_again_18 : decode cX4_again 18 = .ok (.ifCond .ne 6, 3) := by decide +kernel
theorem dX4_again_21 : decode cX4_again 21 = .ok (.bipush (-3), 2) := by decide +kernel
theorem dX4_again_23 : decode cX4_again 23 = .ok (.ireturn, 1) := by decide +kernel
theorem dX4_again_24 : decode cX4_again 24 = .ok (.iconst 0, 1) := by decide +kernel
theorem dX4_again_25 : decode cX4_again 25 = .ok (.istore_n 2, 1) := by decide +kernel
theorem dX4_again_26 : decode cX4_again 26 = .ok (.iload_n 2, 1) := by decide +kernel
theorem dX4_again_27 : decode cX4_again 27 = .ok (.bipush 30, 2) := by decide +kernel
theorem dX4_again_29 : decode cX4_again 29 = .ok (.if_icmp .ge 26, 3) := by decide +kernel
theorem dX4_again_32 : decode cX4_again 32 = .ok (.aload_n 0, 1) := by decide +kernel
theorem dX4_again_33 : decode cX4_again 33 = .ok (.getfield 16, 3) := by decide +kernel
theorem dX4_again_36 : decode cX4_again 36 = .ok (.iload_n 2, 1) := by decide +kernel
theorem dX4_again_37 : decode cX4_again 37 = .ok (.aload_n 0, 1) := by decide +kernel
theorem dX4_again_38 : decode cX4_again 38 = .ok (.getfield 47, 3) := by decide +kernel
theorem dX4_again_41 : decode cX4_again 41 = .ok (.bipush 30, 2) := by decide +kernel
theorem dX4_again_43 : decode cX4_again 43 = .ok (.iload_n 1, 1) := by decide +kernel
theorem dX4_again_44 : decode cX4_again 44 = .ok (.imul, 1) := by decide +kernel
theorem dX4_again_45 : decode cX4_again 45 = .ok (.iload_n 2, 1) := by decide +kernel
theorem dX4_again_46 : decode cX4_again 46 = .ok (.iadd, 1) := by decide +kernel
theorem dX4_again_47 : decode cX4_again 47 = .ok (.iaload, 1) := by decide +kernel
theorem dX4_again_48 : decode cX4_again 48 = .ok (.iastore, 1) := by decide +kernel
theorem dX4_again_49 : decode cX4_again 49 = .ok (.iinc 2 1, 3) := by decide +kernel
theorem dX4_again_52 : decode cX4_again 52 = .ok (.goto (-26), 3) := by decide +kernel
theorem dX4_again_55 : decode cX4_again 55 = .ok (.aload_n 0, 1) := by decide +kernel
theorem dX4_again_56 : decode cX4_again 56 = .ok (.iconst 0, 1) := by decide +kernel
theorem dX4_again_57 : decode cX4_again 57 = .ok (.putfield 102, 3) := by decide +kernel
theorem dX4_again_60 : decode cX4_again 60 = .ok (.aload_n 0, 1) := by decide +kernel
theorem dX4_again_61 : decode cX4_again 61 = .ok (.getfield 16, 3) := by decide +kernel
theorem dX4_again_64 : decode cX4_again 64 = .ok (.bipush 29, 2) := by decide +kernel
theorem dX4_again_66 : decode cX4_again 66 = .ok (.iaload, 1) := by decide +kernel
theorem dX4_again_67 : decode cX4_again 67 = .ok (.ireturn, 1) := by decide +kernel
theorem dX4_lettersThatAre_0 : decode cX4_lettersThatAre 0 = .ok (.iconst 0, 1) := by decide +kernel
theorem dX4_lettersThatAre_1 : decode cX4_lettersThatAre 1 = .ok (.istore_n 2, 1) := by decide +kernel
theorem dX4_lettersThatAre_2 : decode cX4_lettersThatAre 2 = .ok (.iconst 0, 1) := by decide +kernel
theorem dX4_lettersThatAre_3 : decode cX4_lettersThatAre 3 = .ok (.istore_n 3, 1) := by decide +kernel
theorem dX4_lettersThatAre_4 : decode cX4_lettersThatAre 4 = .ok (.iload_n 3, 1) := by decide +kernel
theorem dX4_lettersThatAre_5 : decode cX4_lettersThatAre 5 = .ok (.aload_n 0, 1) := by decide +kernel
theorem dX4_lettersThatAre_6 : decode cX4_lettersThatAre 6 = .ok (.getfield 99, 3) := by decide +kernel
theorem dX4_lettersThatAre_9 : decode cX4_lettersThatAre 9 = .ok (.if_icmp .ge 32, 3) := by decide +kernel
theorem dX4_lettersThatAre_12 : decode cX4_lettersThatAre 12 = .ok (.iload_n 2, 1) := by decide +kernel
theorem dX4_lettersThatAre_13 : decode cX4_lettersThatAre 13 = .ok (.aload_n 0, 1) := by decide +kernel
theorem dX4_lettersThatAre_14 : decode cX4_lettersThatAre 14 = .ok (.getfield 16, 3) := by decide +kernel
theorem dX4_lettersThatAre_17 : decode cX4_lettersThatAre 17 = .ok (.bipush 24, 2) := by decide +kernel
theorem dX4_lettersThatAre_19 : decode cX4_lettersThatAre 19 = .ok (.iload_n 3, 1) := by decide +kernel
theorem dX4_lettersThatAre_20 : decode cX4_lettersThatAre 20 = .ok (.iadd, 1) := by decide +kernel
theorem dX4_lettersThatAre_21 : decode cX4_lettersThatAre 21 = .ok (.iaload, 1) := by decide +kernel
theorem dX4_lettersThatAre_22 : decode cX4_lettersThatAre 22 = .ok (.iload_n 1, 1) := by decide +kernel
theorem dX4_lettersThatAre_23 : decode cX4_lettersThatAre 23 = .ok (.if_icmp .ne 9, 3) := by decide +kernel
theorem dX4_lettersThatAre_26 : decode cX4_lettersThatAre 26 = .ok (.iconst 1, 1) := by decide +kernel
theorem dX4_lettersThatAre_27 : decode cX4_lettersThatAre 27 = .ok (.iload_n 3, 1) := by decide +kernel
theorem dX4_lettersThatAre_28 : decode cX4_lettersThatAre 28 = .ok (.ishl, 1) := by decide +kernel
theorem dX4_lettersThatAre_29 : decode cX4_lettersThatAre 29 = .ok (.goto 4, 3) := by decide +kernel
theorem dX4_lettersThatAre_32 : decode cX4_lettersThatAre 32 = .ok (.iconst 0, 1) := by decide +kernel
theorem dX4_lettersThatAre_33 : decode cX4_lettersThatAre 33 = .ok (.ior, 1) := by decide +kernel
theorem dX4_lettersThatAre_34 : decode cX4_lettersThatAre 34 = .ok (.istore_n 2, 1) := by decide +kernel
theorem dX4_lettersThatAre_35 : decode cX4_lettersThatAre 35 = .ok (.iinc 3 1, 3) := by decide +kernel
theorem dX4_lettersThatAre_38 : decode cX4_lettersThatAre 38 = .ok (.goto (-34), 3) := by decide +kernel
theorem dX4_lettersThatAre_41 : decode cX4_lettersThatAre 41 = .ok (.iload_n 2, 1) := by decide +kernel
theorem dX4_lettersThatAre_42 : decode cX4_lettersThatAre 42 = .ok (.ireturn, 1) := by decide +kernel
theorem dX4_count_0 : decode cX4_count 0 = .ok (.iload_n 1, 1) := by decide +kernel
theorem dX4_count_1 : decode cX4_count 1 = .ok (.tableswitch 124 0 10 #[59, 64, 69, 74, 82, 90, 96, 102, 108, 114, 119], 59) := by decide +kernel
theorem dX4_count_60 : decode cX4_count 60 = .ok (.aload_n 0, 1) := by decide +kernel
theorem dX4_count_61 : decode cX4_count 61 = .ok (.getfield 60, 3) := by decide +kernel
theorem dX4_count_64 : decode cX4_count 64 = .ok (.ireturn, 1) := by decide +kernel
theorem dX4_count_65 : decode cX4_count 65 = .ok (.aload_n 0, 1) := by decide +kernel
theorem dX4_count_66 : decode cX4_count 66 = .ok (.getfield 50, 3) := by decide +kernel
theorem dX4_count_69 : decode cX4_count 69 = .ok (.ireturn, 1) := by decide +kernel
theorem dX4_count_70 : decode cX4_count 70 = .ok (.aload_n 0, 1) := by decide +kernel
theorem dX4_count_71 : decode cX4_count 71 = .ok (.getfield 99, 3) := by decide +kernel
theorem dX4_count_74 : decode cX4_count 74 = .ok (.ireturn, 1) := by decide +kernel
theorem dX4_count_75 : decode cX4_count 75 = .ok (.aload_n 0, 1) := by decide +kernel
theorem dX4_count_76 : decode cX4_count 76 = .ok (.getfield 16, 3) := by decide +kernel
theorem dX4_count_79 : decode cX4_count 79 = .ok (.bipush 29, 2) := by decide +kernel
theorem dX4_count_81 : decode cX4_count 81 = .ok (.iaload, 1) := by decide +kernel
theorem dX4_count_82 : decode cX4_count 82 = .ok (.ireturn, 1) := by decide +kernel
theorem dX4_count_83 : decode cX4_count 83 = .ok (.aload_n 0, 1) := by decide +kernel
theorem dX4_count_84 : decode cX4_count 84 = .ok (.getfield 16, 3) := by decide +kernel
theorem dX4_count_87 : decode cX4_count 87 = .ok (.bipush 28, 2) := by decide +kernel
theorem dX4_count_89 : decode cX4_count 89 = .ok (.iaload, 1) := by decide +kernel
theorem dX4_count_90 : decode cX4_count 90 = .ok (.ireturn, 1) := by decide +kernel
theorem dX4_count_91 : decode cX4_count 91 = .ok (.aload_n 0, 1) := by decide +kernel
theorem dX4_count_92 : decode cX4_count 92 = .ok (.iconst 0, 1) := by decide +kernel
theorem dX4_count_93 : decode cX4_count 93 = .ok (.invokevirtual 115, 3) := by decide +kernel
theorem dX4_count_96 : decode cX4_count 96 = .ok (.ireturn, 1) := by decide +kernel
theorem dX4_count_97 : decode cX4_count 97 = .ok (.aload_n 0, 1) := by decide +kernel
theorem dX4_count_98 : decode cX4_count 98 = .ok (.iconst 0, 1) := by decide +kernel
theorem dX4_count_99 : decode cX4_count 99 = .ok (.invokevirtual 122, 3) := by decide +kernel
theorem dX4_count_102 : decode cX4_count 102 = .ok (.ireturn, 1) := by decide +kernel
theorem dX4_count_103 : decode cX4_count 103 = .ok (.aload_n 0, 1) := by decide +kernel
theorem dX4_count_104 : decode cX4_count 104 = .ok (.iconst 2, 1) := by decide +kernel
theorem dX4_count_105 : decode cX4_count 105 = .ok (.invokevirtual 224, 3) := by decide +kernel
theorem dX4_count_108 : decode cX4_count 108 = .ok (.ireturn, 1) := by decide +kernel
theorem dX4_count_109 : decode cX4_count 109 = .ok (.aload_n 0, 1) := by decide +kernel
theorem dX4_count_110 : decode cX4_count 110 = .ok (.iconst 3, 1) := by decide +kernel
theorem dX4_count_111 : decode cX4_count 111 = .ok (.invokevirtual 224, 3) := by decide +kernel
theorem dX4_count_114 : decode cX4_count 114 = .ok (.ireturn, 1) := by decide +kernel
theorem dX4_count_115 : decode cX4_count 115 = .ok (.aload_n 0, 1) := by decide +kernel
theorem dX4_count_116 : decode cX4_count 116 = .ok (.getfield 102, 3) := by decide +kernel
theorem dX4_count_119 : decode cX4_count 119 = .ok (.ireturn, 1) := by decide +kernel
theorem dX4_count_120 : decode cX4_count 120 = .ok (.aload_n 0, 1) := by decide +kernel
theorem dX4_count_121 : decode cX4_count 121 = .ok (.getfield 193, 3) := by decide +kernel
theorem dX4_count_124 : decode cX4_count 124 = .ok (.ireturn, 1) := by decide +kernel
theorem dX4_count_125 : decode cX4_count 125 = .ok (.bipush (-2), 2) := by decide +kernel
theorem dX4_count_127 : decode cX4_count 127 = .ok (.ireturn, 1) := by decide +kernel
theorem dJ6_bitCount_0f7a4_0 : decode cJ6_bitCount_0f7a4 0 = .ok (.iload_n 0, 1) := by decide +kernel
theorem dJ6_bitCount_0f7a4_1 : decode cJ6_bitCount_0f7a4 1 = .ok (.iload_n 0, 1) := by decide +kernel
theorem dJ6_bitCount_0f7a4_2 : decode cJ6_bitCount_0f7a4 2 = .ok (.iconst 1, 1) := by decide +kernel
theorem dJ6_bitCount_0f7a4_3 : decode cJ6_bitCount_0f7a4 3 = .ok (.iushr, 1) := by decide +kernel
theorem dJ6_bitCount_0f7a4_4 : decode cJ6_bitCount_0f7a4 4 = .ok (.ldc_w 265, 3) := by decide +kernel
theorem dJ6_bitCount_0f7a4_7 : decode cJ6_bitCount_0f7a4 7 = .ok (.iand, 1) := by decide +kernel
theorem dJ6_bitCount_0f7a4_8 : decode cJ6_bitCount_0f7a4 8 = .ok (.isub, 1) := by decide +kernel
theorem dJ6_bitCount_0f7a4_9 : decode cJ6_bitCount_0f7a4 9 = .ok (.istore_n 0, 1) := by decide +kernel
theorem dJ6_bitCount_0f7a4_10 : decode cJ6_bitCount_0f7a4 10 = .ok (.iload_n 0, 1) := by decide +kernel
theorem dJ6_bitCount_0f7a4_11 : decode cJ6_bitCount_0f7a4 11 = .ok (.ldc_w 266, 3) := by decide +kernel
theorem dJ6_bitCount_0f7a4_14 : decode cJ6_bitCount_0f7a4 14 = .ok (.iand, 1) := by decide +kernel
theorem dJ6_bitCount_0f7a4_15 : decode cJ6_bitCount_0f7a4 15 = .ok (.iload_n 0, 1) := by decide +kernel
theorem dJ6_bitCount_0f7a4_16 : decode cJ6_bitCount_0f7a4 16 = .ok (.iconst 2, 1) := by decide +kernel
theorem dJ6_bitCount_0f7a4_17 : decode cJ6_bitCount_0f7a4 17 = .ok (.iushr, 1) := by decide +kernel
theorem dJ6_bitCount_0f7a4_18 : decode cJ6_bitCount_0f7a4 18 = .ok (.ldc_w 266, 3) := by decide +kernel
theorem dJ6_bitCount_0f7a4_21 : decode cJ6_bitCount_0f7a4 21 = .ok (.iand, 1) := by decide +kernel
theorem dJ6_bitCount_0f7a4_22 : decode cJ6_bitCount_0f7a4 22 = .ok (.iadd, 1) := by decide +kernel
theorem dJ6_bitCount_0f7a4_23 : decode cJ6_bitCount_0f7a4 23 = .ok (.istore_n 0, 1) := by decide +kernel
theorem dJ6_bitCount_0f7a4_24 : decode cJ6_bitCount_0f7a4 24 = .ok (.iload_n 0, 1) := by decide +kernel
theorem dJ6_bitCount_0f7a4_25 : decode cJ6_bitCount_0f7a4 25 = .ok (.iload_n 0, 1) := by decide +kernel
theorem dJ6_bitCount_0f7a4_26 : decode cJ6_bitCount_0f7a4 26 = .ok (.iconst 4, 1) := by decide +kernel
theorem dJ6_bitCount_0f7a4_27 : decode cJ6_bitCount_0f7a4 27 = .ok (.iushr, 1) := by decide +kernel
theorem dJ6_bitCount_0f7a4_28 : decode cJ6_bitCount_0f7a4 28 = .ok (.iadd, 1) := by decide +kernel
theorem dJ6_bitCount_0f7a4_29 : decode cJ6_bitCount_0f7a4 29 = .ok (.ldc_w 267, 3) := by decide +kernel
theorem dJ6_bitCount_0f7a4_32 : decode cJ6_bitCount_0f7a4 32 = .ok (.iand, 1) := by decide +kernel
theorem dJ6_bitCount_0f7a4_33 : decode cJ6_bitCount_0f7a4 33 = .ok (.istore_n 0, 1) := by decide +kernel
theorem dJ6_bitCount_0f7a4_34 : decode cJ6_bitCount_0f7a4 34 = .ok (.iload_n 0, 1) := by decide +kernel
theorem dJ6_bitCount_0f7a4_35 : decode cJ6_bitCount_0f7a4 35 = .ok (.iload_n 0, 1) := by decide +kernel
theorem dJ6_bitCount_0f7a4_36 : decode cJ6_bitCount_0f7a4 36 = .ok (.bipush 8, 2) := by decide +kernel
theorem dJ6_bitCount_0f7a4_38 : decode cJ6_bitCount_0f7a4 38 = .ok (.iushr, 1) := by decide +kernel
theorem dJ6_bitCount_0f7a4_39 : decode cJ6_bitCount_0f7a4 39 = .ok (.iadd, 1) := by decide +kernel
theorem dJ6_bitCount_0f7a4_40 : decode cJ6_bitCount_0f7a4 40 = .ok (.istore_n 0, 1) := by decide +kernel
theorem dJ6_bitCount_0f7a4_41 : decode cJ6_bitCount_0f7a4 41 = .ok (.iload_n 0, 1) := by decide +kernel
theorem dJ6_bitCount_0f7a4_42 : decode cJ6_bitCount_0f7a4 42 = .ok (.iload_n 0, 1) := by decide +kernel
theorem dJ6_bitCount_0f7a4_43 : decode cJ6_bitCount_0f7a4 43 = .ok (.bipush 16, 2) := by decide +kernel
theorem dJ6_bitCount_0f7a4_45 : decode cJ6_bitCount_0f7a4 45 = .ok (.iushr, 1) := by decide +kernel
theorem dJ6_bitCount_0f7a4_46 : decode cJ6_bitCount_0f7a4 46 = .ok (.iadd, 1) := by decide +kernel
theorem dJ6_bitCount_0f7a4_47 : decode cJ6_bitCount_0f7a4 47 = .ok (.istore_n 0, 1) := by decide +kernel
theorem dJ6_bitCount_0f7a4_48 : decode cJ6_bitCount_0f7a4 48 = .ok (.iload_n 0, 1) := by decide +kernel
theorem dJ6_bitCount_0f7a4_49 : decode cJ6_bitCount_0f7a4 49 = .ok (.bipush 63, 2) := by decide +kernel
theorem dJ6_bitCount_0f7a4_51 : decode cJ6_bitCount_0f7a4 51 = .ok (.iand, 1) := by decide +kernel
theorem dJ6_bitCount_0f7a4_52 : decode cJ6_bitCount_0f7a4 52 = .ok (.ireturn, 1) := by decide +kernel
theorem dJ9_max_7cf53_0 : decode cJ9_max_7cf53 0 = .ok (.iload_n 0, 1) := by decide +kernel
theorem dJ9_max_7cf53_1 : decode cJ9_max_7cf53 1 = .ok (.iload_n 1, 1) := by decide +kernel
theorem dJ9_max_7cf53_2 : decode cJ9_max_7cf53 2 = .ok (.if_icmp .lt 7, 3) := by decide +kernel
theorem dJ9_max_7cf53_5 : decode cJ9_max_7cf53 5 = .ok (.iload_n 0, 1) := by decide +kernel
theorem dJ9_max_7cf53_6 : decode cJ9_max_7cf53 6 = .ok (.goto 4, 3) := by decide +kernel
