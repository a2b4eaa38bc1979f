theorem dX1_does_8 : decode cX1_does 8 = .ok (.iload_n 1, 1) := by decide +kernel
theorem dX1_does_9 : decode cX1_does 9 = .ok (.bipush 10, 2) := by decide +kernel
theorem dX1_does_11 : decode cX1_does 11 = .ok (.irem, 1) := by decide +kernel
theorem dX1_does_12 : decode cX1_does 12 = .ok (.istore_n 3, 1) := by decide +kernel
theorem dX1_does_13 : decode cX1_does 13 = .ok (.iload_n 1, 1) := by decide +kernel
theorem dX1_does_14 : decode cX1_does 14 = .ok (.bipush 100, 2) := by decide +kernel
theorem dX1_does_16 : decode cX1_does 16 = .ok (.idiv, 1) := by decide +kernel
theorem dX1_does_17 : decode cX1_does 17 = .ok (.tableswitch 130 0 3 #[31, 54, 76, 108], 31) := by decide +kernel
theorem dX1_does_48 : decode cX1_does 48 = .ok (.iload_n 1, 1) := by decide +kernel
theorem dX1_does_49 : decode cX1_does 49 = .ok (.ifCond .ne 7, 3) := by decide +kernel
theorem dX1_does_52 : decode cX1_does 52 = .ok (.iconst 1, 1) := by decide +kernel
theorem dX1_does_53 : decode cX1_does 53 = .ok (.goto 4, 3) := by decide +kernel
theorem dX1_does_56 : decode cX1_does 56 = .ok (.iconst 0, 1) := by decide +kernel
theorem dX1_does_57 : decode cX1_does 57 = .ok (.istore 4, 2) := by decide +kernel
theorem dX1_does_59 : decode cX1_does 59 = .ok (.iload 4, 2) := by decide +kernel
theorem dX1_does_61 : decode cX1_does 61 = .ok (.ifCond .eq 7, 3) := by decide +kernel
theorem dX1_does_64 : decode cX1_does 64 = .ok (.aload_n 0, 1) := by decide +kernel
theorem dX1_does_65 : decode cX1_does 65 = .ok (.invokevirtual 124, 3) := by decide +kernel
theorem dX1_does_68 : decode cX1_does 68 = .ok (.iload 4, 2) := by decide +kernel
theorem dX1_does_70 : decode cX1_does 70 = .ok (.ireturn, 1) := by decide +kernel
theorem dX1_does_71 : decode cX1_does 71 = .ok (.aload_n 0, 1) := by decide +kernel
theorem dX1_does_72 : decode cX1_does 72 = .ok (.iload_n 2, 1) := by decide +kernel
theorem dX1_does_73 : decode cX1_does 73 = .ok (.iload_n 3, 1) := by decide +kernel
theorem dX1_does_74 : decode cX1_does 74 = .ok (.invokevirtual 127, 3) := by decide +kernel
theorem dX1_does_77 : decode cX1_does 77 = .ok (.istore 4, 2) := by decide +kernel
theorem dX1_does_79 : decode cX1_does 79 = .ok (.iload 4, 2) := by decide +kernel
theorem dX1_does_81 : decode cX1_does 81 = .ok (.ifCond .eq 9, 3) := by decide +kernel
theorem dX1_does_84 : decode cX1_does 84 = .ok (.aload_n 0, 1) := by decide +kernel
theorem dX1_does_85 : decode cX1_does 85 = .ok (.iload_n 2, 1) := by decide +kernel
theorem dX1_does_86 : decode cX1_does 86 = .ok (.iload_n 3, 1) := by decide +kernel
theorem dX1_does_87 : decode cX1_does 87 = .ok (.invokevirtual 130, 3) := by decide +kernel
theorem dX1_does_90 : decode cX1_does 90 = .ok (.iload 4, 2) := by decide +kernel
theorem dX1_does_92 : decode cX1_does 92 = .ok (.ireturn, 1) := by decide +kernel
theorem dX1_does_93 : decode cX1_does 93 = .ok (.iload_n 2, 1) := by decide +kernel
theorem dX1_does_94 : decode cX1_does 94 = .ok (.ifCond .ne 15, 3) := by decide +kernel
theorem dX1_does_97 : decode cX1_does 97 = .ok (.aload_n 0, 1) := by decide +kernel
theorem dX1_does_98 : decode cX1_does 98 = .ok (.iload_n 3, 1) := by decide +kernel
theorem dX1_does_99 : decode cX1_does 99 = .ok (.invokevirtual 133, 3) := by decide +kernel
theorem dX1_does_102 : decode cX1_does 102 = .ok (.ifCond .eq 7, 3) := by decide +kernel
theorem dX1_does_105 : decode cX1_does 105 = .ok (.iconst 1, 1) := by decide +kernel
theorem dX1_does_106 : decode cX1_does 106 = .ok (.goto 4, 3) := by decide +kernel
theorem dX1_does_109 : decode cX1_does 109 = .ok (.iconst 0, 1) := by decide +kernel
theorem dX1_does_110 : decode cX1_does 110 = .ok (.istore 4, 2) := by decide +kernel
theorem dX1_does_112 : decode cX1_does 112 = .ok (.iload 4, 2) := by decide +kernel
theorem dX1_does_114 : decode cX1_does 114 = .ok (.ifCond .eq 8, 3) := by decide +kernel
theorem dX1_does_117 : decode cX1_does 117 = .ok (.aload_n 0, 1) := by decide +kernel
theorem dX1_does_118 : decode cX1_does 118 = .ok (.iload_n 3, 1) := by decide +kernel
theorem dX1_does_119 : decode cX1_does 119 = .ok (.invokevirtual 136, 3) := by decide +kernel
theorem dX1_does_122 : decode cX1_does 122 = .ok (.iload 4, 2) := by decide +kernel
theorem dX1_does_124 : decode cX1_does 124 = .ok (.ireturn, 1) := by decide +kernel
theorem dX1_does_125 : decode cX1_does 125 = .ok (.aload_n 0, 1) := by decide +kernel
theorem dX1_does_126 : decode cX1_does 126 = .ok (.iload_n 2, 1) := by decide +kernel
theorem dX1_does_127 : decode cX1_does 127 = .ok (.iload_n 3, 1) := by decide +kernel
theorem dX1_does_128 : decode cX1_does 128 = .ok (.invokevirtual 66, 3) := by decide +kernel
theorem dX1_does_131 : decode cX1_does 131 = .ok (.istore 4, 2) := by decide +kernel
theorem dX1_does_133 : decode cX1_does 133 = .ok (.iload 4, 2) := by decide +kernel
theorem dX1_does_135 : decode cX1_does 135 = .ok (.ifCond .eq 9, 3) := by decide +kernel
theorem dX1_does_138 : decode cX1_does 138 = .ok (.aload_n 0, 1) := by decide +kernel
theorem dX1_does_139 : decode cX1_does 139 = .ok (.iload_n 2, 1) := by decide +kernel
theorem dX1_does_140 : decode cX1_does 140 = .ok (.iload_n 3, 1) := by decide +kernel
theorem dX1_does_141 : decode cX1_does 141 = .ok (.invokevirtual 139, 3) := by decide +kernel
theorem dX1_does_144 : decode cX1_does 144 = .ok (.iload 4, 2) := by decide +kernel
theorem dX1_does_146 : decode cX1_does 146 = .ok (.ireturn, 1) := by decide +kernel
theorem dX1_does_147 : decode cX1_does 147 = .ok (.iconst 0, 1) := by decide +kernel
theorem dX1_does_148 : decode cX1_does 148 = .ok (.ireturn, 1) := by decide +kernel
theorem dX2_init_0 : decode cX2_init 0 = .ok (.aload_n 0, 1) := by decide +kernel
theorem dX2_init_1 : decode cX2_init 1 = .ok (.invokespecial 3, 3) := by decide +kernel
theorem dX2_init_4 : decode cX2_init 4 = .ok (.return_, 1) := by decide +kernel
theorem dX2_begin_0 : decode cX2_begin 0 = .ok (.aload_n 0, 1) := by decide +kernel
theorem dX2_begin_1 : decode cX2_begin 1 = .ok (.iconst 0, 1) := by decide +kernel
theorem dX2_begin_2 : decode cX2_begin 2 = .ok (.putfield 9, 3) := by decide +kernel
theorem dX2_begin_5 : decode cX2_begin 5 = .ok (.aload_n 0, 1) := by decide +kernel
theorem dX2_begin_6 : decode cX2_begin 6 = .ok (.iconst 0, 1) := by decide +kernel
theorem dX2_begin_7 : decode cX2_begin 7 = .ok (.putfield 15, 3) := by decide +kernel
theorem dX2_begin_10 : decode cX2_begin 10 = .ok (.return_, 1) := by decide +kernel
theorem dX2_mayEnd_0 : decode cX2_mayEnd 0 = .ok (.aload_n 0, 1) := by decide +kernel
theorem dX2_mayEnd_1 : decode cX2_mayEnd 1 = .ok (.getfield 9, 3) := by decide +kernel
theorem dX2_mayEnd_4 : decode cX2_mayEnd 4 = .ok (.ifCond .eq 14, 3) := by decide +kernel
theorem dX2_mayEnd_7 : decode cX2_mayEnd 7 = .ok (.aload_n 0, 1) := by decide +kernel
theorem dX2_mayEnd_8 : decode cX2_mayEnd 8 = .ok (.getfield 15, 3) := by decide +kernel
theorem dX2_mayEnd_11 : decode cX2_mayEnd 11 = .ok (.ifCond .ne 7, 3) := by decide +kernel
theorem dX2_mayEnd_14 : decode cX2_mayEnd 14 = .ok (.iconst 1, 1) := by decide +kernel
theorem dX2_mayEnd_15 : decode cX2_mayEnd 15 = .ok (.goto 4, 3) := by decide +kernel
theorem dX2_mayEnd_18 : decode cX2_mayEnd 18 = .ok (.iconst 0, 1) := by decide +kernel
theorem dX2_mayEnd_19 : decode cX2_mayEnd 19 = .ok (.ireturn, 1) := by decide +kernel
theorem dX2_takes_0 : decode cX2_takes 0 = .ok (.aload_n 0, 1) := by decide +kernel
theorem dX2_takes_1 : decode cX2_takes 1 = .ok (.getfield 9, 3) := by decide +kernel
theorem dX2_takes_4 : decode cX2_takes 4 = .ok (.ifCond .ne 23, 3) := by decide +kernel
theorem dX2_takes_7 : decode cX2_takes 7 = .ok (.aload_n 0, 1) := by decide +kernel
theorem dX2_takes_8 : decode cX2_takes 8 = .ok (.iload_n 1, 1) := by decide +kernel
theorem dX2_takes_9 : decode cX2_takes 9 = .ok (.bipush 65, 2) := by decide +kernel
theorem dX2_takes_11 : decode cX2_takes 11 = .ok (.if_icmp .ne 7, 3) := by decide +kernel
theorem dX2_takes_14 : decode cX2_takes 14 = .ok (.iconst 1, 1) := by decide +kernel
theorem dX2_takes_15 : decode cX2_takes 15 = .ok (.goto 4, 3) := by decide +kernel
theorem dX2_takes_18 : decode cX2_takes 18 = .ok (.iconst 0, 1) := by decide +kernel
theorem dX2_takes_19 : decode cX2_takes 19 = .ok (.putfield 9, 3) := by decide +kernel
theorem dX2_takes_22 : decode cX2_takes 22 = .ok (.aload_n 0, 1) := by decide +kernel
theorem dX2_takes_23 : decode cX2_takes 23 = .ok (.getfield 9, 3) := by decide +kernel
theorem dX2_takes_26 : decode cX2_takes 26 = .ok (.ireturn, 1) := by decide +kernel
theorem dX2_takes_27 : decode cX2_takes 27 = .ok (.aload_n 0, 1) := by decide +kernel
theorem dX2_takes_28 : decode cX2_takes 28 = .ok (.getfield 15, 3) := by decide +kernel
theorem dX2_takes_31 : decode cX2_takes 31 = .ok (.ifCond .ne 10, 3) := by decide +kernel
theorem dX2_takes_34 : decode cX2_takes 34 = .ok (.aload_n 0, 1) := by decide +kernel
theorem dX2_takes_35 : decode cX2_takes 35 = .ok (.iload_n 1, 1) := by decide +kernel
theorem dX2_takes_36 : decode cX2_takes 36 = .ok (.aload_n 2, 1) := by decide +kernel
theorem dX2_takes_37 : decode cX2_takes 37 = .ok (.invokevirtual 19, 3) := by decide +kernel
theorem dX2_takes_40 : decode cX2_takes 40 = .ok (.ireturn, 1) := by decide +kernel
theorem dX2_takes_41 : decode cX2_takes 41 = .ok (.iload_n 1, 1) := by decide +kernel
theorem dX2_takes_42 : decode cX2_takes 42 = .ok (.bipush 48, 2) := by decide +kernel
theorem dX2_takes_44 : decode cX2_takes 44 = .ok (.isub, 1) := by decide +kernel
theorem dX2_takes_45 : decode cX2_takes 45 = .ok (.istore_n 3, 1) := by decide +kernel
theorem dX2_takes_46 : decode cX2_takes 46 = .ok (.iload_n 3, 1) := by decide +kernel
theorem dX2_takes_47 : decode cX2_takes 47 = .ok (.ifCond .lt 9, 3) := by decide +kernel
theorem dX2_takes_50 : decode cX2_takes 50 = .ok (.iload_n 3, 1) := by decide +kernel
theorem dX2_takes_51 : decode cX2_takes 51 = .ok (.bipush 9, 2) := by decide +kernel
theorem dX2_takes_53 : decode cX2_takes 53 = .ok (.if_icmp .le 5, 3) := by decide +kernel
theorem dX2_takes_56 : decode cX2_takes 56 = .ok (.iconst 0, 1) := by decide +kernel
theorem dX2_takes_57 : decode cX2_takes 57 = .ok (.ireturn, 1) := by decide +kernel
theorem dX2_takes_58 : decode cX2_takes 58 = .ok (.aload_n 0, 1) := by decide +kernel
theorem dX2_takes_59 : decode cX2_takes 59 = .ok (.getfield 15, 3) := by decide +kernel
theorem dX2_takes_62 : decode cX2_takes 62 = .ok (.lookupswitch 40 #[(74, 33), (83, 26)], 26) := by decide +kernel
theorem dX2_takes_88 : decode cX2_takes 88 = .ok (.aload_n 0, 1) := by decide +kernel
theorem dX2_takes_89 : decode cX2_takes 89 = .ok (.iload_n 3, 1) := by decide +kernel
theorem dX2_takes_90 : decode cX2_takes 90 = .ok (.aload_n 2, 1) := by decide +kernel
theorem dX2_takes_91 : decode cX2_takes 91 = .ok (.invokevirtual 23, 3) := by decide +kernel
theorem dX2_takes_94 : decode cX2_takes 94 = .ok (.ireturn, 1) := by decide +kernel
theorem dX2_takes_95 : decode cX2_takes 95 = .ok (.aload_n 0, 1) := by decide +kernel
theorem dX2_takes_96 : decode cX2_takes 96 = .ok (.iload_n 3, 1) := by decide +kernel
theorem dX2_takes_97 : decode cX2_takes 97 = .ok (.aload_n 2, 1) := by decide +kernel
theorem dX2_takes_98 : decode cX2_takes 98 = .ok (.invokevirtual 26, 3) := by decide +kernel
theorem dX2_takes_101 : decode cX2_takes 101 = .ok (.ireturn, 1) := by decide +kernel
theorem dX2_takes_102 : decode cX2_takes 102 = .ok (.aload_n 0, 1) := by decide +kernel
theorem dX2_takes_103 : decode cX2_takes 103 = .ok (.iload_n 3, 1) := by decide +kernel
theorem dX2_takes_104 : decode cX2_takes 104 = .ok (.aload_n 2, 1) := by decide +kernel
theorem dX2_takes_105 : decode cX2_takes 105 = .ok (.invokevirtual 29, 3) := by decide +kernel
theorem dX2_takes_108 : decode cX2_takes 108 = .ok (.ireturn, 1) := by decide +kernel
theorem dX2_opens_0 : decode cX2_opens 0 = .ok (.iload_n 1, 1) := by decide +kernel
theorem dX2_opens_1 : decode cX2_opens 1 = .ok (.bipush 83, 2) := by decide +kernel
theorem dX2_opens_3 : decode cX2_opens 3 = .ok (.if_icmp .ne 11, 3) := by decide +kernel
theorem dX2_opens_6 : decode cX2_opens 6 = .ok (.aload_n 2, 1) := by decide +kernel
theorem dX2_opens_7 : decode cX2_opens 7 = .ok (.getfield 32, 3) := by decide +kernel
theorem dX2_opens_10 : decode cX2_opens 10 = .ok (.iconst 5, 1) := by decide +kernel
theorem dX2_opens_11 : decode cX2_opens 11 = .ok (.if_icmp .lt 30, 3) := by decide +kernel
theorem dX2_opens_14 : decode cX2_opens 14 = .ok (.iload_n 1, 1) := by decide +kernel
theorem dX2_opens_15 : decode cX2_opens 15 = .ok (.bipush 74, 2) := by decide +kernel
theorem dX2_opens_17 : decode cX2_opens 17 = .ok (.if_icmp .ne 10, 3) := by decide +kernel
theorem dX2_opens_20 : decode cX2_opens 20 = .ok (.aload_n 2, 1) := by decide +kernel
theorem dX2_opens_21 : decode cX2_opens 21 = .ok (.invokevirtual 37, 3) := by decide +kernel
theorem dX2_opens_24 : decode cX2_opens 24 = .ok (.ifCond .ne 17, 3) := by decide +kernel
theorem dX2_opens_27 : decode cX2_opens 27 = .ok (.iload_n 1, 1) := by decide +kernel
theorem dX2_opens_28 : decode cX2_opens 28 = .ok (.bipush 76, 2) := by decide +kernel
theorem dX2_opens_30 : decode cX2_opens 30 = .ok (.if_icmp .ne 15, 3) := by decide +kernel
theorem dX2_opens_33 : decode cX2_opens 33 = .ok (.aload_n 2, 1) := by decide +kernel
theorem dX2_opens_34 : decode cX2_opens 34 = .ok (.getfield 41, 3) := by decide +kernel
theorem dX2_opens_37 : decode cX2_opens 37 = .ok (.iconst 4, 1) := by decide +kernel
theorem dX2_opens_38 : decode cX2_opens 38 = .ok (.if_icmp .ge 7, 3) := by decide +kernel
theorem dX2_opens_41 : decode cX2_opens 41 = .ok (.iconst 1, 1) := by decide +kernel
theorem dX2_opens_42 : decode cX2_opens 42 = .ok (.goto 4, 3) := by decide +kernel
theorem dX2_opens_45 : decode cX2_opens 45 = .ok (.iconst 0, 1) := by decide +kernel
theorem dX2_opens_46 : decode cX2_opens 46 = .ok (.istore_n 3, 1) := by decide +kernel
theorem dX2_opens_47 : decode cX2_opens 47 = .ok (.iload_n 3, 1) := by decide +kernel
theorem dX2_opens_48 : decode cX2_opens 48 = .ok (.ifCond .eq 13, 3) := by decide +kernel
theorem dX2_opens_51 : decode cX2_opens 51 = .ok (.aload_n 0, 1) := by decide +kernel
theorem dX2_opens_52 : decode cX2_opens 52 = .ok (.iload_n 1, 1) := by decide +kernel
theorem dX2_opens_53 : decode cX2_opens 53 = .ok (.putfield 15, 3) := by decide +kernel
theorem dX2_opens_56 : decode cX2_opens 56 = .ok (.aload_n 0, 1) := by decide +kernel
theorem dX2_opens_57 : decode cX2_opens 57 = .ok (.iconst 0, 1) := by decide +kernel
theorem dX2_opens_58 : decode cX2_opens 58 = .ok (.putfield 44, 3) := by decide +kernel
theorem dX2_opens_61 : decode cX2_opens 61 = .ok (.iload_n 3, 1) := by decide +kernel
theorem dX2_opens_62 : decode cX2_opens 62 = .ok (.ireturn, 1) := by decide +kernel
theorem dX2_takesOfStamp_0 : decode cX2_takesOfStamp 0 = .ok (.aload_n 0, 1) := by decide +kernel
theorem dX2_takesOfStamp_1 : decode cX2_takesOfStamp 1 = .ok (.getfield 44, 3) := by decide +kernel
theorem dX2_takesOfStamp_4 : decode cX2_takesOfStamp 4 = .ok (.iconst 2, 1) := by decide +kernel
theorem dX2_takesOfStamp_5 : decode cX2_takesOfStamp 5 = .ok (.if_icmp .ge 10, 3) := by decide +kernel
theorem dX2_takesOfStamp_8 : decode cX2_takesOfStamp 8 = .ok (.aload_n 0, 1) := by decide +kernel
theorem dX2_takesOfStamp_9 : decode cX2_takesOfStamp 9 = .ok (.iload_n 1, 1) := by decide +kernel
theorem dX2_takesOfStamp_10 : decode cX2_takesOfStamp 10 = .ok (.invokevirtual 47, 3) := by decide +kernel
theorem dX2_takesOfStamp_13 : decode cX2_takesOfStamp 13 = .ok (.iconst 1, 1) := by decide +kernel
theorem dX2_takesOfStamp_14 : decode cX2_takesOfStamp 14 = .ok (.ireturn, 1) := by decide +kernel
theorem dX2_takesOfStamp_15 : decode cX2_takesOfStamp 15 = .ok (.iload_n 1, 1) := by decide +kernel
theorem dX2_takesOfStamp_16 : decode cX2_takesOfStamp 16 = .ok (.iconst 3, 1) := by decide +kernel
theorem dX2_takesOfStamp_17 : decode cX2_takesOfStamp 17 = .ok (.if_icmp .le 5, 3) := by decide +kernel
theorem dX2_takesOfStamp_20 : decode cX2_takesOfStamp 20 = .ok (.iconst 0, 1) := by decide +kernel
theorem dX2_takesOfStamp_21 : decode cX2_takesOfStamp 21 = .ok (.ireturn, 1) := by decide +kernel
theorem dX2_takesOfStamp_22 : decode cX2_takesOfStamp 22 = .ok (.aload_n 2, 1) := by decide +kernel
theorem dX2_takesOfStamp_23 : decode cX2_takesOfStamp 23 = .ok (.aload_n 0, 1) := by decide +kernel
theorem dX2_takesOfStamp_24 : decode cX2_takesOfStamp 24 = .ok (.getfield 51, 3) := by decide +kernel
theorem dX2_takesOfStamp_27 : decode cX2_takesOfStamp 27 = .ok (.aload_n 0, 1) := by decide +kernel
theorem dX2_takesOfStamp_28 : decode cX2_takesOfStamp 28 = .ok (.getfield 54, 3) := by decide +kernel
theorem dX2_takesOfStamp_31 : decode cX2_takesOfStamp 31 = .ok (.iload_n 1, 1) := by decide +kernel
theorem dX2_takesOfStamp_32 : decode cX2_takesOfStamp 32 = .ok (.invokevirtual 57, 3) := by decide +kernel
theorem dX2_takesOfStamp_35 : decode cX2_takesOfStamp 35 = .ok (.aload_n 0, 1) := by decide +kernel
theorem dX2_takesOfStamp_36 : decode cX2_takesOfStamp 36 = .ok (.iconst 0, 1) := by decide +kernel
theorem dX2_takesOfStamp_37 : decode cX2_takesOfStamp 37 = .ok (.putfield 15, 3) := by decide +kernel
theorem dX2_takesOfStamp_40 : decode cX2_takesOfStamp 40 = .ok (.iconst 1, 1) := by decide +kernel
theorem dX2_takesOfStamp_41 : decode cX2_takesOfStamp 41 = .ok (.ireturn, 1) := by decide +kernel
theorem dX2_takesOfJoin_0 : decode cX2_takesOfJoin 0 = .ok (.aload_n 0, 1) := by decide +kernel
theorem dX2_takesOfJoin_1 : decode cX2_takesOfJoin 1 = .ok (.getfield 44, 3) := by decide +kernel
theorem dX2_takesOfJoin_4 : decode cX2_takesOfJoin 4 = .ok (.ifCond .ne 14, 3) := by decide +kernel
theorem dX2_takesOfJoin_7 : decode cX2_takesOfJoin 7 = .ok (.aload_n 0, 1) := by decide +kernel
theorem dX2_takesOfJoin_8 : decode cX2_takesOfJoin 8 = .ok (.iload_n 1, 1) := by decide +kernel
theorem dX2_takesOfJoin_9 : decode cX2_takesOfJoin 9 = .ok (.invokevirtual 47, 3) := by decide +kernel
theorem dX2_takesOfJoin_12 : decode cX2_takesOfJoin 12 = .ok (.aload_n 2, 1) := by decide +kernel
theorem dX2_takesOfJoin_13 : decode cX2_takesOfJoin 13 = .ok (.iload_n 1, 1) := by decide +kernel
theorem dX2_takesOfJoin_14 : decode cX2_takesOfJoin 14 = .ok (.invokevirtual 61, 3) := by decide +kernel
theorem dX2_takesOfJoin_17 : decode cX2_takesOfJoin 17 = .ok (.ireturn, 1) := by decide +kernel
theorem dX2_takesOfJoin_18 : decode cX2_takesOfJoin 18 = .ok (.aload_n 2, 1) := by decide +kernel
theorem dX2_takesOfJoin_19 : decode cX2_takesOfJoin 19 = .ok (.aload_n 0, 1) := by decide +kernel
theorem dX2_takesOfJoin_20 : decode cX2_takesOfJoin 20 = .ok (.getfield 51, 3) := by decide +kernel
theorem dX2_takesOfJoin_23 : decode cX2_takesOfJoin 23 = .ok (.iload_n 1, 1) := by decide +kernel
theorem dX2_takesOfJoin_24 : decode cX2_takesOfJoin 24 = .ok (.invokevirtual 65, 3) := by decide +kernel
theorem dX2_takesOfJoin_27 : decode cX2_takesOfJoin 27 = .ok (.ifCond .ne 5, 3) := by decide +kernel
theorem dX2_takesOfJoin_30 : decode cX2_takesOfJoin 30 = .ok (.iconst 0, 1) := by decide +kernel
theorem dX2_takesOfJoin_31 : decode cX2_takesOfJoin 31 = .ok (.ireturn, 1) := by decide +kernel
theorem dX2_takesOfJoin_32 : decode cX2_takesOfJoin 32 = .ok (.aload_n 2, 1) := by decide +kernel
theorem dX2_takesOfJoin_33 : decode cX2_takesOfJoin 33 = .ok (.aload_n 0, 1) := by decide +kernel
theorem dX2_takesOfJoin_34 : decode cX2_takesOfJoin 34 = .ok (.getfield 51, 3) := by decide +kernel
theorem dX2_takesOfJoin_37 : decode cX2_takesOfJoin 37 = .ok (.iload_n 1, 1) := by decide +kernel
theorem dX2_takesOfJoin_38 : decode cX2_takesOfJoin 38 = .ok (.invokevirtual 69, 3) := by decide +kernel
theorem dX2_takesOfJoin_41 : decode cX2_takesOfJoin 41 = .ok (.aload_n 0, 1) := by decide +kernel
theorem dX2_takesOfJoin_42 : decode cX2_takesOfJoin 42 = .ok (.iconst 0, 1) := by decide +kernel
theorem dX2_takesOfJoin_43 : decode cX2_takesOfJoin 43 = .ok (.putfield 15, 3) := by decide +kernel
theorem dX2_takesOfJoin_46 : decode cX2_takesOfJoin 46 = .ok (.iconst 1, 1) := by decide +kernel
theorem dX2_takesOfJoin_47 : decode cX2_takesOfJoin 47 = .ok (.ireturn, 1) := by decide +kernel
theorem dX2_takesOfLetter_0 : decode cX2_takesOfLetter 0 = .ok (.iload_n 1, 1) := by decide +kernel
theorem dX2_takesOfLetter_1 : decode cX2_takesOfLetter 1 = .ok (.iconst 1, 1) := by decide +kernel
theorem dX2_takesOfLetter_2 : decode cX2_takesOfLetter 2 = .ok (.if_icmp .ge 5, 3) := by decide +kernel
theorem dX2_takesOfLetter_5 : decode cX2_takesOfLetter 5 = .ok (.iconst 0, 1) := by decide +kernel
theorem dX2_takesOfLetter_6 : decode cX2_takesOfLetter 6 = .ok (.ireturn, 1) := by decide +kernel
theorem dX2_takesOfLetter_7 : decode cX2_takesOfLetter 7 = .ok (.aload_n 0, 1) := by decide +kernel
theorem dX2_takesOfLetter_8 : decode cX2_takesOfLetter 8 = .ok (.getfield 44, 3) := by decide +kernel
theorem dX2_takesOfLetter_11 : decode cX2_takesOfLetter 11 = .ok (.ifCond .ne 10, 3) := by decide +kernel
theorem dX2_takesOfLetter_14 : decode cX2_takesOfLetter 14 = .ok (.aload_n 0, 1) := by decide +kernel
theorem dX2_takesOfLetter_15 : decode cX2_takesOfLetter 15 = .ok (.iload_n 1, 1) := by decide +kernel
theorem dX2_takesOfLetter_16 : decode cX2_takesOfLetter 16 = .ok (.invokevirtual 47, 3) := by decide +kernel
theorem dX2_takesOfLetter_19 : decode cX2_takesOfLetter 19 = .ok (.iconst 1, 1) := by decide +kernel
theorem dX2_takesOfLetter_20 : decode cX2_takesOfLetter 20 = .ok (.ireturn, 1) := by decide +kernel
theorem dX2_takesOfLetter_21 : decode cX2_takesOfLetter 21 = .ok (.aload_n 2, 1) := by decide +kernel
theorem dX2_takesOfLetter_22 : decode cX2_takesOfLetter 22 = .ok (.aload_n 0, 1) := by decide +kernel
theorem dX2_takesOfLetter_23 : decode cX2_takesOfLetter 23 = .ok (.getfield 51, 3) := by decide +kernel
theorem dX2_takesOfLetter_26 : decode cX2_takesOfLetter 26 = .ok (.iload_n 1, 1) := by decide +kernel
theorem dX2_takesOfLetter_27 : decode cX2_takesOfLetter 27 = .ok (.invokevirtual 73, 3) := by decide +kernel
theorem dX2_takesOfLetter_30 : decode cX2_takesOfLetter 30 = .ok (.aload_n 0, 1) := by decide +kernel
theorem dX2_takesOfLetter_31 : decode cX2_takesOfLetter 31 = .ok (.iconst 0, 1) := by decide +kernel
theorem dX2_takesOfLetter_32 : decode cX2_takesOfLetter 32 = .ok (.putfield 15, 3) := by decide +kernel
theorem dX2_takesOfLetter_35 : decode cX2_takesOfLetter 35 = .ok (.iconst 1, 1) := by decide +kernel
theorem dX2_takesOfLetter_36 : decode cX2_takesOfLetter 36 = .ok (.ireturn, 1) := by decide +kernel
theorem dX2_hold_0 : decode cX2_hold 0 = .ok (.aload_n 0, 1) := by decide +kernel
theorem dX2_hold_1 : decode cX2_hold 1 = .ok (.getfield 44, 3) := by decide +kernel
theorem dX2_hold_4 : decode cX2_hold 4 = .ok (.ifCond .ne 11, 3) := by decide +kernel
theorem dX2_hold_7 : decode cX2_hold 7 = .ok (.aload_n 0, 1) := by decide +kernel
theorem dX2_hold_8 : decode cX2_hold 8 = .ok (.iload_n 1, 1) := by decide +kernel
theorem dX2_hold_9 : decode cX2_hold 9 = .ok (.putfield 51, 3) := by decide +kernel
theorem dX2_hold_12 : decode cX2_hold 12 = .ok (.goto 8, 3) := by decide +kernel
theorem dX2_hold_15 : decode cX2_hold 15 = .ok (.aload_n 0, 1) := by decide +kernel
theorem dX2_hold_16 : decode cX2_hold 16 = .ok (.iload_n 1, 1) := by decide +kernel
theorem dX2_hold_17 : decode cX2_hold 17 = .ok (.putfield 54, 3) := by decide +kernel
theorem dX2_hold_20 : decode cX2_hold 20 = .ok (.aload_n 0, 1) := by decide +kernel
theorem dX2_hold_21 : decode cX2_hold 21 = .ok (.dup, 1) := by decide +kernel
theorem dX2_hold_22 : decode cX2_hold 22 = .ok (.getfield 44, 3) := by decide +kernel
theorem dX2_hold_25 : decode cX2_hold 25 = .ok (.iconst 1, 1) := by decide +kernel
theorem dX2_hold_26 : decode cX2_hold 26 = .ok (.iadd, 1) := by decide +kernel
theorem dX2_hold_27 : decode cX2_hold 27 = .ok (.putfield 44, 3) := by decide +kernel
theorem dX2_hold_30 : decode cX2_hold 30 = .ok (.return_, 1) := by decide +kernel
theorem dX3_init_0 : decode cX3_init 0 = .ok (.aload_n 0, 1) := by decide +kernel
theorem dX3_init_1 : decode cX3_init 1 = .ok (.invokespecial 1, 3) := by decide +kernel
theorem dX3_init_4 : decode cX3_init 4 = .ok (.aload_n 0, 1) := by decide +kernel
theorem dX3_init_5 : decode cX3_init 5 = .ok (.bipush 48, 2) := by decide +kernel
theorem dX3_init_7 : decode cX3_init 7 = .ok (.newarray .int, 2) := by decide +kernel
theorem dX3_init_9 : decode cX3_init 9 = .ok (.putfield 9, 3) := by decide +kernel
theorem dX3_init_12 : decode cX3_init 12 = .ok (.aload_n 0, 1) := by decide +kernel
theorem dX3_init_13 : decode cX3_init 13 = .ok (.new 13, 3) := by decide +kernel
theorem dX3_init_16 : decode cX3_init 16 = .ok (.dup, 1) := by decide +kernel
theorem dX3_init_17 : decode cX3_init 17 = .ok (.invokespecial 15, 3) := by decide +kernel
theorem dX3_init_20 : decode cX3_init 20 = .ok (.putfield 16, 3) := by decide +kernel
theorem dX3_init_23 : decode cX3_init 23 = .ok (.aload_n 0, 1) := by decide +kernel
theorem dX3_init_24 : decode cX3_init 24 = .ok (.new 20, 3) := by decide +kernel
theorem dX3_init_27 : decode cX3_init 27 = .ok (.dup, 1) := by decide +kernel
theorem dX3_init_28 : decode cX3_init 28 = .ok (.invokespecial 22, 3) := by decide +kernel
theorem dX3_init_31 : decode cX3_init 31 = .ok (.putfield 23, 3) := by decide +kernel
theorem dX3_init_34 : decode cX3_init 34 = .ok (.aload_n 0, 1) := by decide +kernel
theorem dX3_init_35 : decode cX3_init 35 = .ok (.new 20, 3) := by decide +kernel
theorem dX3_init_38 : decode cX3_init 38 = .ok (.dup, 1) := by decide +kernel
theorem dX3_init_39 : decode cX3_init 39 = .ok (.invokespecial 22, 3) := by decide +kernel
theorem dX3_init_42 : decode cX3_init 42 = .ok (.putfield 27, 3) := by decide +kernel
theorem dX3_init_45 : decode cX3_init 45 = .ok (.aload_n 0, 1) := by decide +kernel
theorem dX3_init_46 : decode cX3_init 46 = .ok (.new 30, 3) := by decide +kernel
theorem dX3_init_49 : decode cX3_init 49 = .ok (.dup, 1) := by decide +kernel
theorem dX3_init_50 : decode cX3_init 50 = .ok (.bipush 14, 2) := by decide +kernel
theorem dX3_init_52 : decode cX3_init 52 = .ok (.invokespecial 32, 3) := by decide +kernel
theorem dX3_init_55 : decode cX3_init 55 = .ok (.putfield 35, 3) := by decide +kernel
theorem dX3_init_58 : decode cX3_init 58 = .ok (.aload_n 0, 1) := by decide +kernel
theorem dX3_init_59 : decode cX3_init 59 = .ok (.new 30, 3) := by decide +kernel
theorem dX3_init_62 : decode cX3_init 62 = .ok (.dup, 1) := by decide +kernel
theorem dX3_init_63 : decode cX3_init 63 = .ok (.iconst 2, 1) := by decide +kernel
theorem dX3_init_64 : decode cX3_init 64 = .ok (.invokespecial 32, 3) := by decide +kernel
theorem dX3_init_67 : decode cX3_init 67 = .ok (.putfield 39, 3) := by decide +kernel
theorem dX3_init_70 : decode cX3_init 70 = .ok (.aload_n 0, 1) := by decide +kernel
theorem dX3_init_71 : decode cX3_init 71 = .ok (.iconst 2, 1) := by decide +kernel
theorem dX3_init_72 : decode cX3_init 72 = .ok (.newarray .boolean, 2) := by decide +kernel
theorem dX3_init_74 : decode cX3_init 74 = .ok (.putfield 42, 3) := by decide +kernel
theorem dX3_init_77 : decode cX3_init 77 = .ok (.aload_n 0, 1) := by decide +kernel
theorem dX3_init_78 : decode cX3_init 78 = .ok (.bipush 6, 2) := by decide +kernel
theorem dX3_init_80 : decode cX3_init 80 = .ok (.newarray .int, 2) := by decide +kernel
theorem dX3_init_82 : decode cX3_init 82 = .ok (.putfield 46, 3) := by decide +kernel
theorem dX3_init_85 : decode cX3_init 85 = .ok (.aload_n 0, 1) := by decide +kernel
theorem dX3_init_86 : decode cX3_init 86 = .ok (.bipush 6, 2) := by decide +kernel
theorem dX3_init_88 : decode cX3_init 88 = .ok (.newarray .int, 2) := by decide +kernel
theorem dX3_init_90 : decode cX3_init 90 = .ok (.putfield 49, 3) := by decide +kernel
theorem dX3_init_93 : decode cX3_init 93 = .ok (.aload_n 0, 1) := by decide +kernel
theorem dX3_init_94 : decode cX3_init 94 = .ok (.bipush 6, 2) := by decide +kernel
theorem dX3_init_96 : decode cX3_init 96 = .ok (.newarray .boolean, 2) := by decide +kernel
theorem dX3_init_98 : decode cX3_init 98 = .ok (.putfield 52, 3) := by decide +kernel
theorem dX3_init_101 : decode cX3_init 101 = .ok (.aload_n 0, 1) := by decide +kernel
theorem dX3_init_102 : decode cX3_init 102 = .ok (.iconst 4, 1) := by decide +kernel
theorem dX3_init_103 : decode cX3_init 103 = .ok (.newarray .int, 2) := by decide +kernel
theorem dX3_init_105 : decode cX3_init 105 = .ok (.putfield 55, 3) := by decide +kernel
theorem dX3_init_108 : decode cX3_init 108 = .ok (.return_, 1) := by decide +kernel
theorem dX3_write_0 : decode cX3_write 0 = .ok (.iload_n 1, 1) := by decide +kernel
theorem dX3_write_1 : decode cX3_write 1 = .ok (.ifCond .lt 10, 3) := by decide +kernel
theorem dX3_write_4 : decode cX3_write 4 = .ok (.iload_n 1, 1) := by decide +kernel
theorem dX3_write_5 : decode cX3_write 5 = .ok (.sipush 255, 3) := by decide +kernel
theorem dX3_write_8 : decode cX3_write 8 = .ok (.if_icmp .le 6, 3) := by decide +kernel
theorem dX3_write_11 : decode cX3_write 11 = .ok (.bipush (-2), 2) := by decide +kernel
theorem dX3_write_13 : decode cX3_write 13 = .ok (.ireturn, 1) := by decide +kernel
theorem dX3_write_14 : decode cX3_write 14 = .ok (.aload_n 0, 1) := by decide +kernel
theorem dX3_write_15 : decode cX3_write 15 = .ok (.getfield 58, 3) := by decide +kernel
theorem dX3_write_18 : decode cX3_write 18 = .ok (.bipush 48, 2) := by decide +kernel
theorem dX3_write_20 : decode cX3_write 20 = .ok (.if_icmp .lt 6, 3) := by decide +kernel
theorem dX3_write_23 : decode cX3_write 23 = .ok (.bipush (-4), 2) := by decide +kernel
theorem dX3_write_25 : decode cX3_write 25 = .ok (.ireturn, 1) := by decide +kernel
theorem dX3_write_26 : decode cX3_write 26 = .ok (.aload_n 0, 1) := by decide +kernel
theorem dX3_write_27 : decode cX3_write 27 = .ok (.getfield 9, 3) := by decide +kernel
theorem dX3_write_30 : decode cX3_write 30 = .ok (.aload_n 0, 1) := by decide +kernel
theorem dX3_write_31 : decode cX3_write 31 = .ok (.getfield 58, 3) := by decide +kernel
theorem dX3_write_34 : decode cX3_write 34 = .ok (.iload_n 1, 1) := by decide +kernel
theorem dX3_write_35 : decode cX3_write 35 = .ok (.iastore, 1) := by decide +kernel
theorem dX3_write_36 : decode cX3_write 36 = .ok (.aload_n 0, 1) := by decide +kernel
theorem dX3_write_37 : decode cX3_write 37 = .ok (.dup, 1) := by decide +kernel
theorem dX3_write_38 : decode cX3_write 38 = .ok (.getfield 58, 3) := by decide +kernel
theorem dX3_write_41 : decode cX3_write 41 = .ok (.iconst 1, 1) := by decide +kernel
theorem dX3_write_42 : decode cX3_write 42 = .ok (.iadd, 1) := by decide +kernel
theorem dX3_write_43 : decode cX3_write 43 = .ok (.putfield 58, 3) := by decide +kernel
theorem dX3_write_46 : decode cX3_write 46 = .ok (.aload_n 0, 1) := by decide +kernel
theorem dX3_write_47 : decode cX3_write 47 = .ok (.getfield 58, 3) := by decide +kernel
theorem dX3_write_50 : decode cX3_write 50 = .ok (.ireturn, 1) := by decide +kernel
theorem dX3_wipe_0 : decode cX3_wipe 0 = .ok (.aload_n 0, 1) := by decide +kernel
theorem dX3_wipe_1 : decode cX3_wipe 1 = .ok (.getfield 58, 3) := by decide +kernel
theorem dX3_wipe_4 : decode cX3_wipe 4 = .ok (.istore_n 1, 1) := by decide +kernel
theorem dX3_wipe_5 : decode cX3_wipe 5 = .ok (.aload_n 0, 1) := by decide +kernel
theorem dX3_wipe_6 : decode cX3_wipe 6 = .ok (.iconst 0, 1) := by decide +kernel
theorem dX3_wipe_7 : decode cX3_wipe 7 = .ok (.putfield 58, 3) := by decide +kernel
theorem dX3_wipe_10 : decode cX3_wipe 10 = .ok (.iload_n 1, 1) := by decide +kernel
theorem dX3_wipe_11 : decode cX3_wipe 11 = .ok (.ireturn, 1) := by decide +kernel
theorem dX3_fault_0 : decode cX3_fault 0 = .ok (.aload_n 0, 1) := by decide +kernel
theorem dX3_fault_1 : decode cX3_fault 1 = .ok (.aload_n 0, 1) := by decide +kernel
theorem dX3_fault_2 : decode cX3_fault 2 = .ok (.getfield 27, 3) := by decide +kernel
theorem dX3_fault_5 : decode cX3_fault 5 = .ok (.invokevirtual 62, 3) := by decide +kernel
theorem dX3_fault_8 : decode cX3_fault 8 = .ok (.ireturn, 1) := by decide +kernel
theorem dX3_album_0 : decode cX3_album 0 = .ok (.aload_n 0, 1) := by decide +kernel
theorem dX3_album_1 : decode cX3_album 1 = .ok (.aload_n 0, 1) := by decide +kernel
theorem dX3_album_2 : decode cX3_album 2 = .ok (.getfield 27, 3) := by decide +kernel
theorem dX3_album_5 : decode cX3_album 5 = .ok (.invokevirtual 62, 3) := by decide +kernel
theorem dX3_album_8 : decode cX3_album 8 = .ok (.bipush (-9), 2) := by decide +kernel
theorem dX3_album_10 : decode cX3_album 10 = .ok (.if_icmp .eq 6, 3) := by decide +kernel
theorem dX3_album_13 : decode cX3_album 13 = .ok (.bipush (-3), 2) := by decide +kernel
theorem dX3_album_15 : decode cX3_album 15 = .ok (.ireturn, 1) := by decide +kernel
theorem dX3_album_16 : decode cX3_album 16 = .ok (.aload_n 0, 1) := by decide +kernel
theorem dX3_album_17 : decode cX3_album 17 = .ok (.getfield 23, 3) := by decide +kernel
theorem dX3_album_20 : decode cX3_album 20 = .ok (.aload_n 0, 1) := by decide +kernel
theorem dX3_album_21 : decode cX3_album 21 = .ok (.getfield 27, 3) := by decide +kernel
theorem dX3_album_24 : decode cX3_album 24 = .ok (.invokevirtual 66, 3) := by decide +kernel
theorem dX3_album_27 : decode cX3_album 27 = .ok (.aload_n 0, 1) := by decide +kernel
theorem dX3_album_28 : decode cX3_album 28 = .ok (.iconst 0, 1) := by decide +kernel
theorem dX3_album_29 : decode cX3_album 29 = .ok (.putfield 70, 3) := by decide +kernel
theorem dX3_album_32 : decode cX3_album 32 = .ok (.iconst 0, 1) := by decide +kernel
theorem dX3_album_33 : decode cX3_album 33 = .ok (.istore_n 1, 1) := by decide +kernel
theorem dX3_album_34 : decode cX3_album 34 = .ok (.iload_n 1, 1) := by decide +kernel
theorem dX3_album_35 : decode cX3_album 35 = .ok (.iconst 2, 1) := by decide +kernel
theorem dX3_album_36 : decode cX3_album 36 = .ok (.if_icmp .ge 16, 3) := by decide +kernel
theorem dX3_album_39 : decode cX3_album 39 = .ok (.aload_n 0, 1) := by decide +kernel
theorem dX3_album_40 : decode cX3_album 40 = .ok (.getfield 42, 3) := by decide +kernel
theorem dX3_album_43 : decode cX3_album 43 = .ok (.iload_n 1, 1) := by decide +kernel
theorem dX3_album_44 : decode cX3_album 44 = .ok (.iconst 0, 1) := by decide +kernel
theorem dX3_album_45 : decode cX3_album 45 = .ok (.bastore, 1) := by decide +kernel
theorem dX3_album_46 : decode cX3_album 46 = .ok (.iinc 1 1, 3) := by decide +kernel
theorem dX3_album_49 : decode cX3_album 49 = .ok (.goto (-15), 3) := by decide +kernel
theorem dX3_album_52 : decode cX3_album 52 = .ok (.bipush 10, 2) := by decide +kernel
theorem dX3_album_54 : decode cX3_album 54 = .ok (.aload_n 0, 1) := by decide +kernel
theorem dX3_album_55 : decode cX3_album 55 = .ok (.getfield 23, 3) := by decide +kernel
theorem dX3_album_58 : decode cX3_album 58 = .ok (.getfield 73, 3) := by decide +kernel
theorem dX3_album_61 : decode cX3_album 61 = .ok (.imul, 1) := by decide +kernel
theorem dX3_album_62 : decode cX3_album 62 = .ok (.aload_n 0, 1) := by decide +kernel
theorem dX3_album_63 : decode cX3_album 63 = .ok (.getfield 23, 3) := by decide +kernel
theorem dX3_album_66 : decode cX3_album 66 = .ok (.getfield 76, 3) := by decide +kernel
theorem dX3_album_69 : decode cX3_album 69 = .ok (.iadd, 1) := by decide +kernel
theorem dX3_album_70 : decode cX3_album 70 = .ok (.ireturn, 1) := by decide +kernel
theorem dX3_stamp_0 : decode cX3_stamp 0 = .ok (.aload_n 0, 1) := by decide +kernel
theorem dX3_stamp_1 : decode cX3_stamp 1 = .ok (.getfield 23, 3) := by decide +kernel
theorem dX3_stamp_4 : decode cX3_stamp 4 = .ok (.iload_n 1, 1) := by decide +kernel
theorem dX3_stamp_5 : decode cX3_stamp 5 = .ok (.invokevirtual 79, 3) := by decide +kernel
theorem dX3_stamp_8 : decode cX3_stamp 8 = .ok (.ifCond .ne 5, 3) := by decide +kernel
theorem dX3_stamp_11 : decode cX3_stamp 11 = .ok (.iconst (-1), 1) := by decide +kernel
theorem dX3_stamp_12 : decode cX3_stamp 12 = .ok (.ireturn, 1) := by decide +kernel
theorem dX3_stamp_13 : decode cX3_stamp 13 = .ok (.iload_n 2, 1) := by decide +kernel
theorem dX3_stamp_14 : decode cX3_stamp 14 = .ok (.tableswitch 131 0 7 #[46, 56, 66, 76, 85, 94, 111, 121], 46) := by decide +kernel
theorem dX3_stamp_60 : decode cX3_stamp 60 = .ok (.aload_n 0, 1) := by decide +kernel
theorem dX3_stamp_61 : decode cX3_stamp 61 = .ok (.getfield 23, 3) := by decide +kernel
theorem dX3_stamp_64 : decode cX3_stamp 64 = .ok (.getfield 83, 3) := by decide +kernel
theorem dX3_stamp_67 : decode cX3_stamp 67 = .ok (.iload_n 1, 1) := by decide +kernel
theorem dX3_stamp_68 : decode cX3_stamp 68 = .ok (.iaload, 1) := by decide +kernel
theorem dX3_stamp_69 : decode cX3_stamp 69 = .ok (.ireturn, 1) := by decide +kernel
theorem dX3_stamp_70 : decode cX3_stamp 70 = .ok (.aload_n 0, 1) := by decide +kernel
theorem dX3_stamp_71 : decode cX3_stamp 71 = .ok (.getfield 23, 3) := by decide +kernel
theorem dX3_stamp_74 : decode cX3_stamp 74 = .ok (.getfield 86, 3) := by decide +kernel
theorem dX3_stamp_77 : decode cX3_stamp 77 = .ok (.iload_n 1, 1) := by decide +kernel
theorem dX3_stamp_78 : decode cX3_stamp 78 = .ok (.iaload, 1) := by decide +kernel
theorem dX3_stamp_79 : decode cX3_stamp 79 = .ok (.ireturn, 1) := by decide +kernel
theorem dX3_stamp_80 : decode cX3_stamp 80 = .ok (.aload_n 0, 1) := by decide +kernel
theorem dX3_stamp_81 : decode cX3_stamp 81 = .ok (.getfield 23, 3) := by decide +kernel
theorem dX3_stamp_84 : decode cX3_stamp 84 = .ok (.getfield 89, 3) := by decide +kernel
theorem dX3_stamp_87 : decode cX3_stamp 87 = .ok (.iload_n 1, 1) := by decide +kernel
theorem dX3_stamp_88 : decode cX3_stamp 88 = .ok (.iaload, 1) := by decide +kernel
theorem dX3_stamp_89 : decode cX3_stamp 89 = .ok (.ireturn, 1) := by decide +kernel
theorem dX3_stamp_90 : decode cX3_stamp 90 = .ok (.aload_n 0, 1) := by decide +kernel
theorem dX3_stamp_91 : decode cX3_stamp 91 = .ok (.getfield 23, 3) := by decide +kernel
theorem dX3_stamp_94 : decode cX3_stamp 94 = .ok (.iload_n 1, 1) := by decide +kernel
theorem dX3_stamp_95 : decode cX3_stamp 95 = .ok (.invokevirtual 92, 3) := by decide +kernel
theorem dX3_stamp_98 : decode cX3_stamp 98 = .ok (.ireturn, 1) := by decide +kernel
theorem dX3_stamp_99 : decode cX3_stamp 99 = .ok (.aload_n 0, 1) := by decide +kernel
theorem dX3_stamp_100 : decode cX3_stamp 100 = .ok (.getfield 23, 3) := by decide +kernel
theorem dX3_stamp_103 : decode cX3_stamp 103 = .ok (.iload_n 1, 1) := by decide +kernel
theorem dX3_stamp_104 : decode cX3_stamp 104 = .ok (.invokevirtual 96, 3) := by decide +kernel
theorem dX3_stamp_107 : decode cX3_stamp 107 = .ok (.ireturn, 1) := by decide +kernel
theorem dX3_stamp_108 : decode cX3_stamp 108 = .ok (.aload_n 0, 1) := by decide +kernel
theorem dX3_stamp_109 : decode cX3_stamp 109 = .ok (.getfield 23, 3) := by decide +kernel
theorem dX3_stamp_112 : decode cX3_stamp 112 = .ok (.iload_n 1, 1) := by decide +kernel
theorem dX3_stamp_113 : decode cX3_stamp 113 = .ok (.invokevirtual 99, 3) := by decide +kernel
theorem dX3_stamp_116 : decode cX3_stamp 116 = .ok (.ifCond .eq 7, 3) := by decide +kernel
theorem dX3_stamp_119 : decode cX3_stamp 119 = .ok (.iconst 1, 1) := by decide +kernel
theorem dX3_stamp_120 : decode cX3_stamp 120 = .ok (.goto 4, 3) := by decide +kernel
theorem dX3_stamp_123 : decode cX3_stamp 123 = .ok (.iconst 0, 1) := by decide +kernel
theorem dX3_stamp_124 : decode cX3_stamp 124 = .ok (.ireturn, 1) := by decide +kernel
theorem dX3_stamp_125 : decode cX3_stamp 125 = .ok (.aload_n 0, 1) := by decide +kernel
theorem dX3_stamp_126 : decode cX3_stamp 126 = .ok (.getfield 23, 3) := by decide +kernel
theorem dX3_stamp_129 : decode cX3_stamp 129 = .ok (.getfield 102, 3) := by decide +kernel
theorem dX3_stamp_132 : decode cX3_stamp 132 = .ok (.iload_n 1, 1) := by decide +kernel
theorem dX3_stamp_133 : decode cX3_stamp 133 = .ok (.iaload, 1) := by decide +kernel
theorem dX3_stamp_134 : decode cX3_stamp 134 = .ok (.ireturn, 1) := by decide +kernel
theorem dX3_stamp_135 : decode cX3_stamp 135 = .ok (.aload_n 0, 1) := by decide +kernel
theorem dX3_stamp_136 : decode cX3_stamp 136 = .ok (.getfield 23, 3) := by decide +kernel
theorem dX3_stamp_139 : decode cX3_stamp 139 = .ok (.getfield 105, 3) := by decide +kernel
theorem dX3_stamp_142 : decode cX3_stamp 142 = .ok (.iload_n 1, 1) := by decide +kernel
theorem dX3_stamp_143 : decode cX3_stamp 143 = .ok (.iaload, 1) := by decide +kernel
theorem dX3_stamp_144 : decode cX3_stamp 144 = .ok (.ireturn, 1) := by decide +kernel
theorem dX3_stamp_145 : decode cX3_stamp 145 = .ok (.bipush (-2), 2) := by decide +kernel
theorem dX3_stamp_147 : decode cX3_stamp 147 = .ok (.ireturn, 1) := by decide +kernel
theorem dX3_letter_0 : decode cX3_letter 0 = .ok (.aload_n 0, 1) := by decide +kernel
theorem dX3_letter_1 : decode cX3_letter 1 = .ok (.getfield 23, 3) := by decide +kernel
theorem dX3_letter_4 : decode cX3_letter 4 = .ok (.iload_n 1, 1) := by decide +kernel
theorem dX3_letter_5 : decode cX3_letter 5 = .ok (.invokevirtual 108, 3) := by decide +kernel
theorem dX3_letter_8 : decode cX3_letter 8 = .ok (.ifCond .ne 5, 3) := by decide +kernel
theorem dX3_letter_11 : decode cX3_letter 11 = .ok (.iconst (-1), 1) := by decide +kernel
theorem dX3_letter_12 : decode cX3_letter 12 = .ok (.ireturn, 1) := by decide +kernel
theorem dX3_letter_13 : decode cX3_letter 13 = .ok (.iload_n 2, 1) := by decide +kernel
theorem dX3_letter_14 : decode cX3_letter 14 = .ok (.tableswitch 89 0 4 #[34, 44, 54, 63, 79], 34) := by decide +kernel
theorem dX3_letter_48 : decode cX3_letter 48 = .ok (.aload_n 0, 1) := by decide +kernel
theorem dX3_letter_49 : decode cX3_letter 49 = .ok (.getfield 23, 3) := by decide +kernel
theorem dX3_letter_52 : decode cX3_letter 52 = .ok (.getfield 111, 3) := by decide +kernel
theorem dX3_letter_55 : decode cX3_letter 55 = .ok (.iload_n 1, 1) := by decide +kernel
theorem dX3_letter_56 : decode cX3_letter 56 = .ok (.iaload, 1) := by decide +kernel
theorem dX3_letter_57 : decode cX3_letter 57 = .ok (.ireturn, 1) := by decide +kernel
theorem dX3_letter_58 : decode cX3_letter 58 = .ok (.aload_n 0, 1) := by decide +kernel
theorem dX3_letter_59 : decode cX3_letter 59 = .ok (.getfield 23, 3) := by decide +kernel
theorem dX3_letter_62 : decode cX3_letter 62 = .ok (.getfield 114, 3) := by decide +kernel
theorem dX3_letter_65 : decode cX3_letter 65 = .ok (.iload_n 1, 1) := by decide +kernel
theorem dX3_letter_66 : decode cX3_letter 66 = .ok (.iaload, 1) := by decide +kernel
theorem dX3_letter_67 : decode cX3_letter 67 = .ok (.ireturn, 1) := by decide +kernel
theorem dX3_letter_68 : decode cX3_letter 68 = .ok (.aload_n 0, 1) := by decide +kernel
theorem dX3_letter_69 : decode cX3_letter 69 = .ok (.getfield 23, 3) := by decide +kernel
theorem dX3_letter_72 : decode cX3_letter 72 = .ok (.iload_n 1, 1) := by decide +kernel
theorem dX3_letter_73 : decode cX3_letter 73 = .ok (.invokevirtual 117, 3) := by decide +kernel
theorem dX3_letter_76 : decode cX3_letter 76 = .ok (.ireturn, 1) := by decide +kernel
theorem dX3_letter_77 : decode cX3_letter 77 = .ok (.aload_n 0, 1) := by decide +kernel
theorem dX3_letter_78 : decode cX3_letter 78 = .ok (.getfield 23, 3) := by decide +kernel
theorem dX3_letter_81 : decode cX3_letter 81 = .ok (.aload_n 0, 1) := by decide +kernel
theorem dX3_letter_82 : decode cX3_letter 82 = .ok (.getfield 23, 3) := by decide +kernel
theorem dX3_letter_85 : decode cX3_letter 85 = .ok (.iload_n 1, 1) := by decide +kernel
theorem dX3_letter_86 : decode cX3_letter 86 = .ok (.invokevirtual 117, 3) := by decide +kernel
theorem dX3_letter_89 : decode cX3_letter 89 = .ok (.invokevirtual 120, 3) := by decide +kernel
theorem dX3_letter_92 : decode cX3_letter 92 = .ok (.ireturn, 1) := by decide +kernel
theorem dX3_letter_93 : decode cX3_letter 93 = .ok (.aload_n 0, 1) := by decide +kernel
theorem dX3_letter_94 : decode cX3_letter 94 = .ok (.getfield 23, 3) := by decide +kernel
theorem dX3_letter_97 : decode cX3_letter 97 = .ok (.getfield 123, 3) := by decide +kernel
theorem dX3_letter_100 : decode cX3_letter 100 = .ok (.iload_n 1, 1) := by decide +kernel
theorem dX3_letter_101 : decode cX3_letter 101 = .ok (.iaload, 1) := by decide +kernel
theorem dX3_letter_102 : decode cX3_letter 102 = .ok (.ireturn, 1) := by decide +kernel
theorem dX3_letter_103 : decode cX3_letter 103 = .ok (.bipush (-2), 2) := by decide +kernel
theorem dX3_letter_105 : decode cX3_letter 105 = .ok (.ireturn, 1) := by decide +kernel
theorem dX3_week_0 : decode cX3_week 0 = .ok (.aload_n 0, 1) := by decide +kernel
theorem dX3_week_1 : decode cX3_week 1 = .ok (.invokevirtual 126, 3) := by decide +kernel
theorem dX3_week_4 : decode cX3_week 4 = .ok (.aload_n 0, 1) := by decide +kernel
theorem dX3_week_5 : decode cX3_week 5 = .ok (.getfield 23, 3) := by decide +kernel
theorem dX3_week_8 : decode cX3_week 8 = .ok (.invokevirtual 129, 3) := by decide +kernel
theorem dX3_week_11 : decode cX3_week 11 = .ok (.aload_n 0, 1) := by decide +kernel
theorem dX3_week_12 : decode cX3_week 12 = .ok (.getfield 23, 3) := by decide +kernel
theorem dX3_week_15 : decode cX3_week 15 = .ok (.invokevirtual 132, 3) := by decide +kernel
theorem dX3_week_18 : decode cX3_week 18 = .ok (.invokestatic 136, 3) := by decide +kernel
theorem dX3_week_21 : decode cX3_week 21 = .ok (.ireturn, 1) := by decide +kernel
theorem dX3_stick_0 : decode cX3_stick 0 = .ok (.aload_n 0, 1) := by decide +kernel
theorem dX3_stick_1 : decode cX3_stick 1 = .ok (.getfield 23, 3) := by decide +kernel
theorem dX3_stick_4 : decode cX3_stick 4 = .ok (.iload_n 1, 1) := by decide +kernel
theorem dX3_stick_5 : decode cX3_stick 5 = .ok (.invokevirtual 79, 3) := by decide +kernel
theorem dX3_stick_8 : decode cX3_stick 8 = .ok (.ifCond .eq 14, 3) := by decide +kernel
theorem dX3_stick_11 : decode cX3_stick 11 = .ok (.aload_n 0, 1) := by decide +kernel
theorem dX3_stick_12 : decode cX3_stick 12 = .ok (.getfield 23, 3) := by decide +kernel
theorem dX3_stick_15 : decode cX3_stick 15 = .ok (.iload_n 2, 1) := by decide +kernel
theorem dX3_stick_16 : decode cX3_stick 16 = .ok (.invokevirtual 108, 3) := by decide +kernel
theorem dX3_stick_19 : decode cX3_stick 19 = .ok (.ifCond .ne 5, 3) := by decide +kernel
theorem dX3_stick_22 : decode cX3_stick 22 = .ok (.iconst (-1), 1) := by decide +kernel
theorem dX3_stick_23 : decode cX3_stick 23 = .ok (.ireturn, 1) := by decide +kernel
theorem dX3_stick_24 : decode cX3_stick 24 = .ok (.aload_n 0, 1) := by decide +kernel
theorem dX3_stick_25 : decode cX3_stick 25 = .ok (.getfield 23, 3) := by decide +kernel
theorem dX3_stick_28 : decode cX3_stick 28 = .ok (.iload_n 1, 1) := by decide +kernel
theorem dX3_stick_29 : decode cX3_stick 29 = .ok (.iload_n 2, 1) := by decide +kernel
theorem dX3_stick_30 : decode cX3_stick 30 = .ok (.invokevirtual 141, 3) := by decide +kernel
theorem dX3_stick_33 : decode cX3_stick 33 = .ok (.ifCond .ne 6, 3) := by decide +kernel
theorem dX3_stick_36 : decode cX3_stick 36 = .ok (.bipush (-3), 2) := by decide +kernel
theorem dX3_stick_38 : decode cX3_stick 38 = .ok (.ireturn, 1) := by decide +kernel
theorem dX3_stick_39 : decode cX3_stick 39 = .ok (.aload_n 0, 1) := by decide +kernel
theorem dX3_stick_40 : decode cX3_stick 40 = .ok (.invokevirtual 126, 3) := by decide +kernel
theorem dX3_stick_43 : decode cX3_stick 43 = .ok (.aload_n 0, 1) := by decide +kernel
theorem dX3_stick_44 : decode cX3_stick 44 = .ok (.getfield 23, 3) := by decide +kernel
theorem dX3_stick_47 : decode cX3_stick 47 = .ok (.iload_n 1, 1) := by decide +kernel
theorem dX3_stick_48 : decode cX3_stick 48 = .ok (.iload_n 2, 1) := by decide +kernel
theorem dX3_stick_49 : decode cX3_stick 49 = .ok (.invokevirtual 145, 3) := by decide +kernel
theorem dX3_stick_52 : decode cX3_stick 52 = .ok (.aload_n 0, 1) := by decide +kernel
theorem dX3_stick_53 : decode cX3_stick 53 = .ok (.getfield 23, 3) := by decide +kernel
theorem dX3_stick_56 : decode cX3_stick 56 = .ok (.iload_n 2, 1) := by decide +kernel
theorem dX3_stick_57 : decode cX3_stick 57 = .ok (.invokevirtual 117, 3) := by decide +kernel
theorem dX3_stick_60 : decode cX3_stick 60 = .ok (.invokestatic 136, 3) := by decide +kernel
theorem dX3_stick_63 : decode cX3_stick 63 = .ok (.ireturn, 1) := by decide +kernel
theorem dX3_send_0 : decode cX3_send 0 = .ok (.aload_n 0, 1) := by decide +kernel
theorem dX3_send_1 : decode cX3_send 1 = .ok (.getfield 23, 3) := by decide +kernel
theorem dX3_send_4 : decode cX3_send 4 = .ok (.iload_n 1, 1) := by decide +kernel
theorem dX3_send_5 : decode cX3_send 5 = .ok (.invokevirtual 108, 3) := by decide +kernel
theorem dX3_send_8 : decode cX3_send 8 = .ok (.ifCond .ne 5, 3) := by decide +kernel
theorem dX3_send_11 : decode cX3_send 11 = .ok (.iconst (-1), 1) := by decide +kernel
theorem dX3_send_12 : decode cX3_send 12 = .ok (.ireturn, 1) := by decide +kernel
theorem dX3_send_13 : decode cX3_send 13 = .ok (.aload_n 0, 1) := by decide +kernel
theorem dX3_send_14 : decode cX3_send 14 = .ok (.getfield 23, 3) := by decide +kernel
theorem dX3_send_17 : decode cX3_send 17 = .ok (.iload_n 1, 1) := by decide +kernel
theorem dX3_send_18 : decode cX3_send 18 = .ok (.invokevirtual 149, 3) := by decide +kernel
theorem dX3_send_21 : decode cX3_send 21 = .ok (.ifCond .ne 6, 3) := by decide +kernel
theorem dX3_send_24 : decode cX3_send 24 = .ok (.bipush (-3), 2) := by decide +kernel
theorem dX3_send_26 : decode cX3_send 26 = .ok (.ireturn, 1) := by decide +kernel
theorem dX3_send_27 : decode cX3_send 27 = .ok (.aload_n 0, 1) := by decide +kernel
theorem dX3_send_28 : decode cX3_send 28 = .ok (.invokevirtual 126, 3) := by decide +kernel
theorem dX3_send_31 : decode cX3_send 31 = .ok (.aload_n 0, 1) := by decide +kernel
theorem dX3_send_32 : decode cX3_send 32 = .ok (.getfield 23, 3) := by decide +kernel
theorem dX3_send_35 : decode cX3_send 35 = .ok (.iload_n 1, 1) := by decide +kernel
theorem dX3_send_36 : decode cX3_send 36 = .ok (.invokevirtual 152, 3) := by decide +kernel
theorem dX3_send_39 : decode cX3_send 39 = .ok (.aload_n 0, 1) := by decide +kernel
theorem dX3_send_40 : decode cX3_send 40 = .ok (.getfield 23, 3) := by decide +kernel
theorem dX3_send_43 : decode cX3_send 43 = .ok (.getfield 111, 3) := by decide +kernel
theorem dX3_send_46 : decode cX3_send 46 = .ok (.iload_n 1, 1) := by decide +kernel
theorem dX3_send_47 : decode cX3_send 47 = .ok (.iaload, 1) := by decide +kernel
theorem dX3_send_48 : decode cX3_send 48 = .ok (.ireturn, 1) := by decide +kernel
theorem dX3_part_0 : decode cX3_part 0 = .ok (.aload_n 0, 1) := by decide +kernel
theorem dX3_part_1 : decode cX3_part 1 = .ok (.getfield 23, 3) := by decide +kernel
theorem dX3_part_4 : decode cX3_part 4 = .ok (.iload_n 1, 1) := by decide +kernel
theorem dX3_part_5 : decode cX3_part 5 = .ok (.invokevirtual 79, 3) := by decide +kernel
theorem dX3_part_8 : decode cX3_part 8 = .ok (.ifCond .eq 14, 3) := by decide +kernel
theorem dX3_part_11 : decode cX3_part 11 = .ok (.aload_n 0, 1) := by decide +kernel
theorem dX3_part_12 : decode cX3_part 12 = .ok (.getfield 23, 3) := by decide +kernel
theorem dX3_part_15 : decode cX3_part 15 = .ok (.iload_n 2, 1) := by decide +kernel
theorem dX3_part_16 : decode cX3_part 16 = .ok (.invokevirtual 79, 3) := by decide +kernel
theorem dX3_part_19 : decode cX3_part 19 = .ok (.ifCond .ne 5, 3) := by decide +kernel
theorem dX3_part_22 : decode cX3_part 22 = .ok (.iconst (-1), 1) := by decide +kernel
theorem dX3_part_23 : decode cX3_part 23 = .ok (.ireturn, 1) := by decide +kernel
theorem dX3_part_24 : decode cX3_part 24 = .ok (.aload_n 0, 1) := by decide +kernel
theorem dX3_part_25 : decode cX3_part 25 = .ok (.getfield 23, 3) := by decide +kernel
theorem dX3_part_28 : decode cX3_part 28 = .ok (.iload_n 1, 1) := by decide +kernel
theorem dX3_part_29 : decode cX3_part 29 = .ok (.iload_n 2, 1) := by decide +kernel
theorem dX3_part_30 : decode cX3_part 30 = .ok (.invokevirtual 155, 3) := by decide +kernel
theorem dX3_part_33 : decode cX3_part 33 = .ok (.ifCond .ne 6, 3) := by decide +kernel
theorem dX3_part_36 : decode cX3_part 36 = .ok (.bipush (-3), 2) := by decide +kernel
theorem dX3_part_38 : decode cX3_part 38 = .ok (.ireturn, 1) := by decide +kernel
theorem dX3_part_39 : decode cX3_part 39 = .ok (.aload_n 0, 1) := by decide +kernel
theorem dX3_part_40 : decode cX3_part 40 = .ok (.invokevirtual 126, 3) := by decide +kernel
theorem dX3_part_43 : decode cX3_part 43 = .ok (.aload_n 0, 1) := by decide +kernel
theorem dX3_part_44 : decode cX3_part 44 = .ok (.getfield 23, 3) := by decide +kernel
theorem dX3_part_47 : decode cX3_part 47 = .ok (.iload_n 1, 1) := by decide +kernel
theorem dX3_part_48 : decode cX3_part 48 = .ok (.iload_n 2, 1) := by decide +kernel
theorem dX3_part_49 : decode cX3_part 49 = .ok (.invokevirtual 158, 3) := by decide +kernel
theorem dX3_part_52 : decode cX3_part 52 = .ok (.aload_n 0, 1) := by decide +kernel
theorem dX3_part_53 : decode cX3_part 53 = .ok (.getfield 23, 3) := by decide +kernel
theorem dX3_part_56 : decode cX3_part 56 = .ok (.getfield 105, 3) := by decide +kernel
theorem dX3_part_59 : decode cX3_part 59 = .ok (.iload_n 1, 1) := by decide +kernel
theorem dX3_part_60 : decode cX3_part 60 = .ok (.iaload, 1) := by decide +kernel
theorem dX3_part_61 : decode cX3_part 61 = .ok (.invokestatic 136, 3) := by decide +kernel
theorem dX3_part_64 : decode cX3_part 64 = .ok (.ireturn, 1) := by decide +kernel
theorem dX3_damp_0 : decode cX3_damp 0 = .ok (.aload_n 0, 1) := by decide +kernel
theorem dX3_damp_1 : decode cX3_damp 1 = .ok (.invokevirtual 126, 3) := by decide +kernel
theorem dX3_damp_4 : decode cX3_damp 4 = .ok (.aload_n 0, 1) := by decide +kernel
theorem dX3_damp_5 : decode cX3_damp 5 = .ok (.getfield 23, 3) := by decide +kernel
theorem dX3_damp_8 : decode cX3_damp 8 = .ok (.aload_n 0, 1) := by decide +kernel
theorem dX3_damp_9 : decode cX3_damp 9 = .ok (.getfield 23, 3) := by decide +kernel
theorem dX3_damp_12 : decode cX3_damp 12 = .ok (.getfield 161, 3) := by decide +kernel
theorem dX3_damp_15 : decode cX3_damp 15 = .ok (.ifCond .ne 7, 3) := by decide +kernel
theorem dX3_damp_18 : decode cX3_damp 18 = .ok (.iconst 1, 1) := by decide +kernel
theorem dX3_damp_19 : decode cX3_damp 19 = .ok (.goto 4, 3) := by decide +kernel
theorem dX3_damp_22 : decode cX3_damp 22 = .ok (.iconst 0, 1) := by decide +kernel
theorem dX3_damp_23 : decode cX3_damp 23 = .ok (.putfield 161, 3) := by decide +kernel
theorem dX3_damp_26 : decode cX3_damp 26 = .ok (.aload_n 0, 1) := by decide +kernel
theorem dX3_damp_27 : decode cX3_damp 27 = .ok (.getfield 23, 3) := by decide +kernel
theorem dX3_damp_30 : decode cX3_damp 30 = .ok (.getfield 161, 3) := by decide +kernel
theorem dX3_damp_33 : decode cX3_damp 33 = .ok (.ifCond .eq 7, 3) := by decide +kernel
theorem dX3_damp_36 : decode cX3_damp 36 = .ok (.iconst 1, 1) := by decide +kernel
theorem dX3_damp_37 : decode cX3_damp 37 = .ok (.goto 4, 3) := by decide +kernel
theorem dX3_damp_40 : decode cX3_damp 40 = .ok (.iconst 0, 1) := by decide +kernel
theorem dX3_damp_41 : decode cX3_damp 41 = .ok (.ireturn, 1) := by decide +kernel
theorem dX3_undo_0 : decode cX3_undo 0 = .ok (.aload_n 0, 1) := by decide +kernel
theorem dX3_undo_1 : decode cX3_undo 1 = .ok (.getfield 70, 3) := by decide +kernel
theorem dX3_undo_4 : decode cX3_undo 4 = .ok (.iconst 1, 1) := by decide +kernel
theorem dX3_undo_5 : decode cX3_undo 5 = .ok (.if_icmp .ge 6, 3) := by decide +kernel
theorem dX3_undo_8 : decode cX3_undo 8 = .ok (.bipush (-3), 2) := by decide +kernel
theorem dX3_undo_10 : decode cX3_undo 10 = .ok (.ireturn, 1) := by decide +kernel
theorem dX3_undo_11 : decode cX3_undo 11 = .ok (.aload_n 0, 1) := by decide +kernel
theorem dX3_undo_12 : decode cX3_undo 12 = .ok (.dup, 1) := by decide +kernel
theorem dX3_undo_13 : decode cX3_undo 13 = .ok (.getfield 70, 3) := by decide +kernel
theorem dX3_undo_16 : decode cX3_undo 16 = .ok (.iconst 1, 1) := by decide +kernel
theorem dX3_undo_17 : decode cX3_undo 17 = .ok (.isub, 1) := by decide +kernel
theorem dX3_undo_18 : decode cX3_undo 18 = .ok (.putfield 70, 3) := by decide +kernel
theorem dX3_undo_21 : decode cX3_undo 21 = .ok (.aload_n 0, 1) := by decide +kernel
theorem dX3_undo_22 : decode cX3_undo 22 = .ok (.getfield 35, 3) := by decide +kernel
theorem dX3_undo_25 : decode cX3_undo 25 = .ok (.aload_n 0, 1) := by decide +kernel
theorem dX3_undo_26 : decode cX3_undo 26 = .ok (.getfield 70, 3) := by decide +kernel
theorem dX3_undo_29 : decode cX3_undo 29 = .ok (.aload_n 0, 1) := by decide +kernel
theorem dX3_undo_30 : decode cX3_undo 30 = .ok (.getfield 23, 3) := by decide +kernel
theorem dX3_undo_33 : decode cX3_undo 33 = .ok (.invokevirtual 165, 3) := by decide +kernel
theorem dX3_undo_36 : decode cX3_undo 36 = .ok (.aload_n 0, 1) := by decide +kernel
theorem dX3_undo_37 : decode cX3_undo 37 = .ok (.getfield 70, 3) := by decide +kernel
theorem dX3_undo_40 : decode cX3_undo 40 = .ok (.ireturn, 1) := by decide +kernel
theorem dX3_lives_0 : decode cX3_lives 0 = .ok (.aload_n 0, 1) := by decide +kernel
theorem dX3_lives_1 : decode cX3_lives 1 = .ok (.getfield 23, 3) := by decide +kernel
theorem dX3_lives_4 : decode cX3_lives 4 = .ok (.iload_n 1, 1) := by decide +kernel
theorem dX3_lives_5 : decode cX3_lives 5 = .ok (.invokevirtual 79, 3) := by decide +kernel
theorem dX3_lives_8 : decode cX3_lives 8 = .ok (.ifCond .ne 5, 3) := by decide +kernel
theorem dX3_lives_11 : decode cX3_lives 11 = .ok (.iconst (-1), 1) := by decide +kernel
theorem dX3_lives_12 : decode cX3_lives 12 = .ok (.ireturn, 1) := by decide +kernel
theorem dX3_lives_13 : decode cX3_lives 13 = .ok (.aload_n 0, 1) := by decide +kernel
theorem dX3_lives_14 : decode cX3_lives 14 = .ok (.getfield 27, 3) := by decide +kernel
theorem dX3_lives_17 : decode cX3_lives 17 = .ok (.aload_n 0, 1) := by decide +kernel
theorem dX3_lives_18 : decode cX3_lives 18 = .ok (.getfield 23, 3) := by decide +kernel
theorem dX3_lives_21 : decode cX3_lives 21 = .ok (.invokevirtual 66, 3) := by decide +kernel
theorem dX3_lives_24 : decode cX3_lives 24 = .ok (.iconst 0, 1) := by decide +kernel
theorem dX3_lives_25 : decode cX3_lives 25 = .ok (.istore_n 2, 1) := by decide +kernel
theorem dX3_lives_26 : decode cX3_lives 26 = .ok (.iload_n 2, 1) := by decide +kernel
theorem dX3_lives_27 : decode cX3_lives 27 = .ok (.bipush 99, 2) := by decide +kernel
theorem dX3_lives_29 : decode cX3_lives 29 = .ok (.if_icmp .gt 29, 3) := by decide +kernel
theorem dX3_lives_32 : decode cX3_lives 32 = .ok (.aload_n 0, 1) := by decide +kernel
theorem dX3_lives_33 : decode cX3_lives 33 = .ok (.getfield 27, 3) := by decide +kernel
theorem dX3_lives_36 : decode cX3_lives 36 = .ok (.iload_n 1, 1) := by decide +kernel
theorem dX3_lives_37 : decode cX3_lives 37 = .ok (.invokevirtual 99, 3) := by decide +kernel
theorem dX3_lives_40 : decode cX3_lives 40 = .ok (.ifCond .ne 5, 3) := by decide +kernel
theorem dX3_lives_43 : decode cX3_lives 43 = .ok (.iload_n 2, 1) := by decide +kernel
theorem dX3_lives_44 : decode cX3_lives 44 = .ok (.ireturn, 1) := by decide +kernel
theorem dX3_lives_45 : decode cX3_lives 45 = .ok (.aload_n 0, 1) := by decide +kernel
theorem dX3_lives_46 : decode cX3_lives 46 = .ok (.getfield 27, 3) := by decide +kernel
theorem dX3_lives_49 : decode cX3_lives 49 = .ok (.invokevirtual 129, 3) := by decide +kernel
theorem dX3_lives_52 : decode cX3_lives 52 = .ok (.iinc 2 1, 3) := by decide +kernel
theorem dX3_lives_55 : decode cX3_lives 55 = .ok (.goto (-29), 3) := by decide +kernel
theorem dX3_lives_58 : decode cX3_lives 58 = .ok (.bipush (-9), 2) := by decide +kernel
theorem dX3_lives_60 : decode cX3_lives 60 = .ok (.ireturn, 1) := by decide +kernel
theorem dX3_comes_0 : decode cX3_comes 0 = .ok (.aload_n 0, 1) := by decide +kernel
theorem dX3_comes_1 : decode cX3_comes 1 = .ok (.getfield 23, 3) := by decide +kernel
theorem dX3_comes_4 : decode cX3_comes 4 = .ok (.iload_n 1, 1) := by decide +kernel
theorem dX3_comes_5 : decode cX3_comes 5 = .ok (.invokevirtual 108, 3) := by decide +kernel
theorem dX3_comes_8 : decode cX3_comes 8 = .ok (.ifCond .ne 5, 3) := by decide +kernel
theorem dX3_comes_11 : decode cX3_comes 11 = .ok (.iconst (-1), 1) := by decide +kernel
theorem dX3_comes_12 : decode cX3_comes 12 = .ok (.ireturn, 1) := by decide +kernel
theorem dX3_comes_13 : decode cX3_comes 13 = .ok (.iload_n 2, 1) := by decide +kernel
theorem dX3_comes_14 : decode cX3_comes 14 = .ok (.ifCond .lt 14, 3) := by decide +kernel
theorem dX3_comes_17 : decode cX3_comes 17 = .ok (.iload_n 2, 1) := by decide +kernel
theorem dX3_comes_18 : decode cX3_comes 18 = .ok (.aload_n 0, 1) := by decide +kernel
theorem dX3_comes_19 : decode cX3_comes 19 = .ok (.getfield 23, 3) := by decide +kernel
theorem dX3_comes_22 : decode cX3_comes 22 = .ok (.invokevirtual 169, 3) := by decide +kernel
theorem dX3_comes_25 : decode cX3_comes 25 = .ok (.if_icmp .le 6, 3) := by decide +kernel
theorem dX3_comes_28 : decode cX3_comes 28 = .ok (.bipush (-2), 2) := by decide +kernel
theorem dX3_comes_30 : decode cX3_comes 30 = .ok (.ireturn, 1) := by decide +kernel
theorem dX3_comes_31 : decode cX3_comes 31 = .ok (.aload_n 0, 1) := by decide +kernel
theorem dX3_comes_32 : decode cX3_comes 32 = .ok (.getfield 23, 3) := by decide +kernel
theorem dX3_comes_35 : decode cX3_comes 35 = .ok (.getfield 123, 3) := by decide +kernel
theorem dX3_comes_38 : decode cX3_comes 38 = .ok (.iload_n 1, 1) := by decide +kernel
theorem dX3_comes_39 : decode cX3_comes 39 = .ok (.iaload, 1) := by decide +kernel
theorem dX3_comes_40 : decode cX3_comes 40 = .ok (.ifCond .ne 17, 3) := by decide +kernel
theorem dX3_comes_43 : decode cX3_comes 43 = .ok (.iload_n 2, 1) := by decide +kernel
theorem dX3_comes_44 : decode cX3_comes 44 = .ok (.aload_n 0, 1) := by decide +kernel
theorem dX3_comes_45 : decode cX3_comes 45 = .ok (.getfield 23, 3) := by decide +kernel
theorem dX3_comes_48 : decode cX3_comes 48 = .ok (.invokevirtual 172, 3) := by decide +kernel
theorem dX3_comes_51 : decode cX3_comes 51 = .ok (.iconst (-1), 1) := by decide +kernel
theorem dX3_comes_52 : decode cX3_comes 52 = .ok (.ixor, 1) := by decide +kernel
theorem dX3_comes_53 : decode cX3_comes 53 = .ok (.iand, 1) := by decide +kernel
theorem dX3_comes_54 : decode cX3_comes 54 = .ok (.ifCond .eq 6, 3) := by decide +kernel
theorem dX3_comes_57 : decode cX3_comes 57 = .ok (.bipush (-3), 2) := by decide +kernel
theorem dX3_comes_59 : decode cX3_comes 59 = .ok (.ireturn, 1) := by decide +kernel
theorem dX3_comes_60 : decode cX3_comes 60 = .ok (.aload_n 0, 1) := by decide +kernel
theorem dX3_comes_61 : decode cX3_comes 61 = .ok (.iload_n 1, 1) := by decide +kernel
theorem dX3_comes_62 : decode cX3_comes 62 = .ok (.iload_n 2, 1) := by decide +kernel
theorem dX3_comes_63 : decode cX3_comes 63 = .ok (.invokevirtual 175, 3) := by decide +kernel
theorem dX3_comes_66 : decode cX3_comes 66 = .ok (.ireturn, 1) := by decide +kernel
theorem dX3_fewest_0 : decode cX3_fewest 0 = .ok (.aload_n 0, 1) := by decide +kernel
theorem dX3_fewest_1 : decode cX3_fewest 1 = .ok (.getfield 23, 3) := by decide +kernel
theorem dX3_fewest_4 : decode cX3_fewest 4 = .ok (.iload_n 1, 1) := by decide +kernel
theorem dX3_fewest_5 : decode cX3_fewest 5 = .ok (.invokevirtual 108, 3) := by decide +kernel
theorem dX3_fewest_8 : decode cX3_fewest 8 = .ok (.ifCond .ne 5, 3) := by decide +kernel
theorem dX3_fewest_11 : decode cX3_fewest 11 = .ok (.iconst (-1), 1) := by decide +kernel
theorem dX3_fewest_12 : decode cX3_fewest 12 = .ok (.ireturn, 1) := by decide +kernel
theorem dX3_fewest_13 : decode cX3_fewest 13 = .ok (.aload_n 0, 1) := by decide +kernel
theorem dX3_fewest_14 : decode cX3_fewest 14 = .ok (.getfield 23, 3) := by decide +kernel
theorem dX3_fewest_17 : decode cX3_fewest 17 = .ok (.getfield 123, 3) := by decide +kernel
theorem dX3_fewest_20 : decode cX3_fewest 20 = .ok (.iload_n 1, 1) := by decide +kernel
theorem dX3_fewest_21 : decode cX3_fewest 21 = .ok (.iaload, 1) := by decide +kernel
theorem dX3_fewest_22 : decode cX3_fewest 22 = .ok (.ifCond .eq 6, 3) := by decide +kernel
theorem dX3_fewest_25 : decode cX3_fewest 25 = .ok (.bipush (-3), 2) := by decide +kernel
theorem dX3_fewest_27 : decode cX3_fewest 27 = .ok (.ireturn, 1) := by decide +kernel
theorem dX3_fewest_28 : decode cX3_fewest 28 = .ok (.aload_n 0, 1) := by decide +kernel
theorem dX3_fewest_29 : decode cX3_fewest 29 = .ok (.getfield 23, 3) := by decide +kernel
theorem dX3_fewest_32 : decode cX3_fewest 32 = .ok (.invokevirtual 172, 3) := by decide +kernel
theorem dX3_fewest_35 : decode cX3_fewest 35 = .ok (.istore_n 2, 1) := by decide +kernel
theorem dX3_fewest_36 : decode cX3_fewest 36 = .ok (.iconst 0, 1) := by decide +kernel
theorem dX3_fewest_37 : decode cX3_fewest 37 = .ok (.istore_n 3, 1) := by decide +kernel
theorem dX3_fewest_38 : decode cX3_fewest 38 = .ok (.iload_n 3, 1) := by decide +kernel
theorem dX3_fewest_39 : decode cX3_fewest 39 = .ok (.aload_n 0, 1) := by decide +kernel
theorem dX3_fewest_40 : decode cX3_fewest 40 = .ok (.getfield 23, 3) := by decide +kernel
theorem dX3_fewest_43 : decode cX3_fewest 43 = .ok (.getfield 73, 3) := by decide +kernel
theorem dX3_fewest_46 : decode cX3_fewest 46 = .ok (.if_icmp .gt 68, 3) := by decide +kernel
theorem dX3_fewest_49 : decode cX3_fewest 49 = .ok (.iconst 0, 1) := by decide +kernel
theorem dX3_fewest_50 : decode cX3_fewest 50 = .ok (.istore 4, 2) := by decide +kernel
theorem dX3_fewest_52 : decode cX3_fewest 52 = .ok (.iload 4, 2) := by decide +kernel
theorem dX3_fewest_54 : decode cX3_fewest 54 = .ok (.iload_n 2, 1) := by decide +kernel
theorem dX3_fewest_55 : decode cX3_fewest 55 = .ok (.if_icmp .gt 53, 3) := by decide +kernel
theorem dX3_fewest_58 : decode cX3_fewest 58 = .ok (.iload 4, 2) := by decide +kernel
theorem dX3_fewest_60 : decode cX3_fewest 60 = .ok (.iload_n 2, 1) := by decide +kernel
theorem dX3_fewest_61 : decode cX3_fewest 61 = .ok (.iconst (-1), 1) := by decide +kernel
theorem dX3_fewest_62 : decode cX3_fewest 62 = .ok (.ixor, 1) := by decide +kernel
theorem dX3_fewest_63 : decode cX3_fewest 63 = .ok (.iand, 1) := by decide +kernel
theorem dX3_fewest_64 : decode cX3_fewest 64 = .ok (.ifCond .ne 16, 3) := by decide +kernel
theorem dX3_fewest_67 : decode cX3_fewest 67 = .ok (.iload 4, 2) := by decide +kernel
theorem dX3_fewest_69 : decode cX3_fewest 69 = .ok (.invokestatic 136, 3) := by decide +kernel
theorem dX3_fewest_72 : decode cX3_fewest 72 = .ok (.iload_n 3, 1) := by decide +kernel
theorem dX3_fewest_73 : decode cX3_fewest 73 = .ok (.if_icmp .ne 7, 3) := by decide +kernel
theorem dX3_fewest_76 : decode cX3_fewest 76 = .ok (.iconst 1, 1) := by decide +kernel
theorem dX3_fewest_77 : decode cX3_fewest 77 = .ok (.goto 4, 3) := by decide +kernel
theorem dX3_fewest_80 : decode cX3_fewest 80 = .ok (.iconst 0, 1) := by decide +kernel
theorem dX3_fewest_81 : decode cX3_fewest 81 = .ok (.istore 5, 2) := by decide +kernel
theorem dX3_fewest_83 : decode cX3_fewest 83 = .ok (.iload 5, 2) := by decide +kernel
theorem dX3_fewest_85 : decode cX3_fewest 85 = .ok (.ifCond .eq 17, 3) := by decide +kernel
theorem dX3_fewest_88 : decode cX3_fewest 88 = .ok (.aload_n 0, 1) := by decide +kernel
theorem dX3_fewest_89 : decode cX3_fewest 89 = .ok (.iload_n 1, 1) := by decide +kernel
theorem dX3_fewest_90 : decode cX3_fewest 90 = .ok (.iload 4, 2) := by decide +kernel
theorem dX3_fewest_92 : decode cX3_fewest 92 = .ok (.invokevirtual 175, 3) := by decide +kernel
theorem dX3_fewest_95 : decode cX3_fewest 95 = .ok (.iconst 1, 1) := by decide +kernel
theorem dX3_fewest_96 : decode cX3_fewest 96 = .ok (.if_icmp .ne 6, 3) := by decide +kernel
theorem dX3_fewest_99 : decode cX3_fewest 99 = .ok (.iload 4, 2) := by decide +kernel
theorem dX3_fewest_101 : decode cX3_fewest 101 = .ok (.ireturn, 1) := by decide +kernel
theorem dX3_fewest_102 : decode cX3_fewest 102 = .ok (.iinc 4 1, 3) := by decide +kernel
theorem dX3_fewest_105 : decode cX3_fewest 105 = .ok (.goto (-53), 3) := by decide +kernel
theorem dX3_fewest_108 : decode cX3_fewest 108 = .ok (.iinc 3 1, 3) := by decide +kernel
theorem dX3_fewest_111 : decode cX3_fewest 111 = .ok (.goto (-73), 3) := by decide +kernel
theorem dX3_fewest_114 : decode cX3_fewest 114 = .ok (.bipush (-9), 2) := by decide +kernel
theorem dX3_fewest_116 : decode cX3_fewest 116 = .ok (.ireturn, 1) := by decide +kernel
theorem dX3_block_0 : decode cX3_block 0 = .ok (.aload_n 0, 1) := by decide +kernel
theorem dX3_block_1 : decode cX3_block 1 = .ok (.getfield 23, 3) := by decide +kernel
theorem dX3_block_4 : decode cX3_block 4 = .ok (.iload_n 1, 1) := by decide +kernel
theorem dX3_block_5 : decode cX3_block 5 = .ok (.invokevirtual 79, 3) := by decide +kernel
theorem dX3_block_8 : decode cX3_block 8 = .ok (.ifCond .ne 5, 3) := by decide +kernel
theorem dX3_block_11 : decode cX3_block 11 = .ok (.iconst (-1), 1) := by decide +kernel
theorem dX3_block_12 : decode cX3_block 12 = .ok (.ireturn, 1) := by decide +kernel
theorem dX3_block_13 : decode cX3_block 13 = .ok (.iconst 1, 1) := by decide +kernel
theorem dX3_block_14 : decode cX3_block 14 = .ok (.iload_n 1, 1) := by decide +kernel
theorem dX3_block_15 : decode cX3_block 15 = .ok (.ishl, 1) := by decide +kernel
theorem dX3_block_16 : decode cX3_block 16 = .ok (.istore_n 2, 1) := by decide +kernel
theorem dX3_block_17 : decode cX3_block 17 = .ok (.iconst 0, 1) := by decide +kernel
theorem dX3_block_18 : decode cX3_block 18 = .ok (.istore_n 3, 1) := by decide +kernel
theorem dX3_block_19 : decode cX3_block 19 = .ok (.iload_n 3, 1) := by decide +kernel
theorem dX3_block_20 : decode cX3_block 20 = .ok (.aload_n 0, 1) := by decide +kernel
theorem dX3_block_21 : decode cX3_block 21 = .ok (.getfield 23, 3) := by decide +kernel
theorem dX3_block_24 : decode cX3_block 24 = .ok (.getfield 73, 3) := by decide +kernel
theorem dX3_block_27 : decode cX3_block 27 = .ok (.if_icmp .ge 20, 3) := by decide +kernel
theorem dX3_block_30 : decode cX3_block 30 = .ok (.iload_n 2, 1) := by decide +kernel
theorem dX3_block_31 : decode cX3_block 31 = .ok (.aload_n 0, 1) := by decide +kernel
theorem dX3_block_32 : decode cX3_block 32 = .ok (.getfield 23, 3) := by decide +kernel
theorem dX3_block_35 : decode cX3_block 35 = .ok (.iload_n 2, 1) := by decide +kernel
theorem dX3_block_36 : decode cX3_block 36 = .ok (.invokevirtual 179, 3) := by decide +kernel
theorem dX3_block_39 : decode cX3_block 39 = .ok (.ior, 1) := by decide +kernel
theorem dX3_block_40 : decode cX3_block 40 = .ok (.istore_n 2, 1) := by decide +kernel
theorem dX3_block_41 : decode cX3_block 41 = .ok (.iinc 3 1, 3) := by decide +kernel
theorem dX3_block_44 : decode cX3_block 44 = .ok (.goto (-25), 3) := by decide +kernel
theorem dX3_block_47 : decode cX3_block 47 = .ok (.iload_n 2, 1) := by decide +kernel
theorem dX3_block_48 : decode cX3_block 48 = .ok (.ireturn, 1) := by decide +kernel
theorem dX3_judge_0 : decode cX3_judge 0 = .ok (.iload_n 1, 1) := by decide +kernel
theorem dX3_judge_1 : decode cX3_judge 1 = .ok (.iconst 1, 1) := by decide +kernel
theorem dX3_judge_2 : decode cX3_judge 2 = .ok (.if_icmp .lt 14, 3) := by decide +kernel
theorem dX3_judge_5 : decode cX3_judge 5 = .ok (.iload_n 1, 1) := by decide +kernel
theorem dX3_judge_6 : decode cX3_judge 6 = .ok (.iconst 4, 1) := by decide +kernel
theorem dX3_judge_7 : decode cX3_judge 7 = .ok (.if_icmp .gt 9, 3) := by decide +kernel
theorem dX3_judge_10 : decode cX3_judge 10 = .ok (.lload_n 2, 1) := by decide +kernel
theorem dX3_judge_11 : decode cX3_judge 11 = .ok (.lconst 0, 1) := by decide +kernel
theorem dX3_judge_12 : decode cX3_judge 12 = .ok (.lcmp, 1) := by decide +kernel
theorem dX3_judge_13 : decode cX3_judge 13 = .ok (.ifCond .ge 6, 3) := by decide +kernel
theorem dX3_judge_16 : decode cX3_judge 16 = .ok (.bipush (-2), 2) := by decide +kernel
theorem dX3_judge_18 : decode cX3_judge 18 = .ok (.ireturn, 1) := by decide +kernel
theorem dX3_judge_19 : decode cX3_judge 19 = .ok (.lload_n 2, 1) := by decide +kernel
theorem dX3_judge_20 : decode cX3_judge 20 = .ok (.lstore 4, 2) := by decide +kernel
theorem dX3_judge_22 : decode cX3_judge 22 = .ok (.iload_n 1, 1) := by decide +kernel
theorem dX3_judge_23 : decode cX3_judge 23 = .ok (.iconst 1, 1) := by decide +kernel
theorem dX3_judge_24 : decode cX3_judge 24 = .ok (.isub, 1) := by decide +kernel
theorem dX3_judge_25 : decode cX3_judge 25 = .ok (.istore 6, 2) := by decide +kernel
theorem dX3_judge_27 : decode cX3_judge 27 = .ok (.iload 6, 2) := by decide +kernel
theorem dX3_judge_29 : decode cX3_judge 29 = .ok (.ifCond .lt 31, 3) := by decide +kernel
theorem dX3_judge_32 : decode cX3_judge 32 = .ok (.aload_n 0, 1) := by decide +kernel
theorem dX3_judge_33 : decode cX3_judge 33 = .ok (.getfield 55, 3) := by decide +kernel
theorem dX3_judge_36 : decode cX3_judge 36 = .ok (.iload 6, 2) := by decide +kernel
theorem dX3_judge_38 : decode cX3_judge 38 = .ok (.lload 4, 2) := by decide +kernel
theorem dX3_judge_40 : decode cX3_judge 40 = .ok (.ldc2_w 182, 3) := by decide +kernel
theorem dX3_judge_43 : decode cX3_judge 43 = .ok (.lrem, 1) := by decide +kernel
theorem dX3_judge_44 : decode cX3_judge 44 = .ok (.l2i, 1) := by decide +kernel
theorem dX3_judge_45 : decode cX3_judge 45 = .ok (.iastore, 1) := by decide +kernel
theorem dX3_judge_46 : decode cX3_judge 46 = .ok (.lload 4, 2) := by decide +kernel
theorem dX3_judge_48 : decode cX3_judge 48 = .ok (.ldc2_w 182, 3) := by decide +kernel
theorem dX3_judge_51 : decode cX3_judge 51 = .ok (.ldiv, 1) := by decide +kernel
theorem dX3_judge_52 : decode cX3_judge 52 = .ok (.lstore 4, 2) := by decide +kernel
theorem dX3_judge_54 : decode cX3_judge 54 = .ok (.iinc 6 (-1), 3) := by decide +kernel
theorem dX3_judge_57 : decode cX3_judge 57 = .ok (.goto (-30), 3) := by decide +kernel
theorem dX3_judge_60 : decode cX3_judge 60 = .ok (.lload 4, 2) := by decide +kernel
theorem dX3_judge_62 : decode cX3_judge 62 = .ok (.lconst 0, 1) := by decide +kernel
theorem dX3_judge_63 : decode cX3_judge 63 = .ok (.lcmp, 1) := by decide +kernel
theorem dX3_judge_64 : decode cX3_judge 64 = .ok (.ifCond .eq 6, 3) := by decide +kernel
theorem dX3_judge_67 : decode cX3_judge 67 = .ok (.bipush (-2), 2) := by decide +kernel
theorem dX3_judge_69 : decode cX3_judge 69 = .ok (.ireturn, 1) := by decide +kernel
theorem dX3_judge_70 : decode cX3_judge 70 = .ok (.aload_n 0, 1) := by decide +kernel
theorem dX3_judge_71 : decode cX3_judge 71 = .ok (.getfield 27, 3) := by decide +kernel
theorem dX3_judge_74 : decode cX3_judge 74 = .ok (.aload_n 0, 1) := by decide +kernel
theorem dX3_judge_75 : decode cX3_judge 75 = .ok (.getfield 23, 3) := by decide +kernel
theorem dX3_judge_78 : decode cX3_judge 78 = .ok (.invokevirtual 66, 3) := by decide +kernel
theorem dX3_judge_81 : decode cX3_judge 81 = .ok (.iconst 0, 1) := by decide +kernel
theorem dX3_judge_82 : decode cX3_judge 82 = .ok (.istore 6, 2) := by decide +kernel
theorem dX3_judge_84 : decode cX3_judge 84 = .ok (.iload 6, 2) := by decide +kernel
theorem dX3_judge_86 : decode cX3_judge 86 = .ok (.iload_n 1, 1) := by decide +kernel
theorem dX3_judge_87 : decode cX3_judge 87 = .ok (.if_icmp .ge 29, 3) := by decide +kernel
theorem dX3_judge_90 : decode cX3_judge 90 = .ok (.aload_n 0, 1) := by decide +kernel
theorem dX3_judge_91 : decode cX3_judge 91 = .ok (.getfield 27, 3) := by decide +kernel
theorem dX3_judge_94 : decode cX3_judge 94 = .ok (.aload_n 0, 1) := by decide +kernel
theorem dX3_judge_95 : decode cX3_judge 95 = .ok (.getfield 55, 3) := by decide +kernel
theorem dX3_judge_98 : decode cX3_judge 98 = .ok (.iload 6, 2) := by decide +kernel
theorem dX3_judge_100 : decode cX3_judge 100 = .ok (.iaload, 1) := by decide +kernel
theorem dX3_judge_101 : decode cX3_judge 101 = .ok (.invokevirtual 184, 3) := by decide +kernel
theorem dX3_judge_104 : decode cX3_judge 104 = .ok (.ifCond .ne 6, 3) := by decide +kernel
theorem dX3_judge_107 : decode cX3_judge 107 = .ok (.iload 6, 2) := by decide +kernel
theorem dX3_judge_109 : decode cX3_judge 109 = .ok (.ireturn, 1) := by decide +kernel
theorem dX3_judge_110 : decode cX3_judge 110 = .ok (.iinc 6 1, 3) := by decide +kernel
theorem dX3_judge_113 : decode cX3_judge 113 = .ok (.goto (-29), 3) := by decide +kernel
theorem dX3_judge_116 : decode cX3_judge 116 = .ok (.bipush (-9), 2) := by decide +kernel
theorem dX3_judge_118 : decode cX3_judge 118 = .ok (.ireturn, 1) := by decide +kernel
theorem dX3_see_0 : decode cX3_see 0 = .ok (.aload_n 0, 1) := by decide +kernel
theorem dX3_see_1 : decode cX3_see 1 = .ok (.getfield 23, 3) := by decide +kernel
theorem dX3_see_4 : decode cX3_see 4 = .ok (.iload_n 1, 1) := by decide +kernel
theorem dX3_see_5 : decode cX3_see 5 = .ok (.invokevirtual 79, 3) := by decide +kernel
theorem dX3_see_8 : decode cX3_see 8 = .ok (.ifCond .ne 5, 3) := by decide +kernel
theorem dX3_see_11 : decode cX3_see 11 = .ok (.iconst (-1), 1) := by decide +kernel
theorem dX3_see_12 : decode cX3_see 12 = .ok (.ireturn, 1) := by decide +kernel
theorem dX3_see_13 : decode cX3_see 13 = .ok (.iload_n 2, 1) := by decide +kernel
theorem dX3_see_14 : decode cX3_see 14 = .ok (.ifCond .lt 18, 3) := by decide +kernel
theorem dX3_see_17 : decode cX3_see 17 = .ok (.iload_n 2, 1) := by decide +kernel
theorem dX3_see_18 : decode cX3_see 18 = .ok (.bipush 99, 2) := by decide +kernel
theorem dX3_see_20 : decode cX3_see 20 = .ok (.if_icmp .gt 12, 3) := by decide +kernel
theorem dX3_see_23 : decode cX3_see 23 = .ok (.iload_n 3, 1) := by decide +kernel
theorem dX3_see_24 : decode cX3_see 24 = .ok (.ifCond .lt 8, 3) := by decide +kernel
theorem dX3_see_27 : decode cX3_see 27 = .ok (.iload_n 3, 1) := by decide +kernel
theorem dX3_see_28 : decode cX3_see 28 = .ok (.iconst 1, 1) := by decide +kernel
theorem dX3_see_29 : decode cX3_see 29 = .ok (.if_icmp .le 6, 3) := by decide +kernel
theorem dX3_see_32 : decode cX3_see 32 = .ok (.bipush (-2), 2) := by decide +kernel
theorem dX3_see_34 : decode cX3_see 34 = .ok (.ireturn, 1) := by decide +kernel
theorem dX3_see_35 : decode cX3_see 35 = .ok (.aload_n 0, 1) := by decide +kernel
theorem dX3_see_36 : decode cX3_see 36 = .ok (.getfield 187, 3) := by decide +kernel
theorem dX3_see_39 : decode cX3_see 39 = .ok (.bipush 6, 2) := by decide +kernel
theorem dX3_see_41 : decode cX3_see 41 = .ok (.if_icmp .lt 6, 3) := by decide +kernel
theorem dX3_see_44 : decode cX3_see 44 = .ok (.bipush (-4), 2) := by decide +kernel
theorem dX3_see_46 : decode cX3_see 46 = .ok (.ireturn, 1) := by decide +kernel
theorem dX3_see_47 : decode cX3_see 47 = .ok (.aload_n 0, 1) := by decide +kernel
theorem dX3_see_48 : decode cX3_see 48 = .ok (.getfield 46, 3) := by decide +kernel
theorem dX3_see_51 : decode cX3_see 51 = .ok (.aload_n 0, 1) := by decide +kernel
theorem dX3_see_52 : decode cX3_see 52 = .ok (.getfield 187, 3) := by decide +kernel
theorem dX3_see_55 : decode cX3_see 55 = .ok (.iload_n 1, 1) := by decide +kernel
theorem dX3_see_56 : decode cX3_see 56 = .ok (.iastore, 1) := by decide +kernel
theorem dX3_see_57 : decode cX3_see 57 = .ok (.aload_n 0, 1) := by decide +kernel
theorem dX3_see_58 : decode cX3_see 58 = .ok (.getfield 49, 3) := by decide +kernel
theorem dX3_see_61 : decode cX3_see 61 = .ok (.aload_n 0, 1) := by decide +kernel
theorem dX3_see_62 : decode cX3_see 62 = .ok (.getfield 187, 3) := by decide +kernel
theorem dX3_see_65 : decode cX3_see 65 = .ok (.iload_n 2, 1) := by decide +kernel
theorem dX3_see_66 : decode cX3_see 66 = .ok (.iastore, 1) := by decide +kernel
theorem dX3_see_67 : decode cX3_see 67 = .ok (.aload_n 0, 1) := by decide +kernel
theorem dX3_see_68 : decode cX3_see 68 = .ok (.getfield 52, 3) := by decide +kernel
theorem dX3_see_71 : decode cX3_see 71 = .ok (.aload_n 0, 1) := by decide +kernel
theorem dX3_see_72 : decode cX3_see 72 = .ok (.getfield 187, 3) := by decide +kernel
theorem dX3_see_75 : decode cX3_see 75 = .ok (.iload_n 3, 1) := by decide +kernel
theorem dX3_see_76 : decode cX3_see 76 = .ok (.iconst 1, 1) := by decide +kernel
theorem dX3_see_77 : decode cX3_see 77 = .ok (.if_icmp .ne 7, 3) := by decide +kernel
theorem dX3_see_80 : decode cX3_see 80 = .ok (.iconst 1, 1) := by decide +kernel
theorem dX3_see_81 : decode cX3_see 81 = .ok (.goto 4, 3) := by decide +kernel
theorem dX3_see_84 : decode cX3_see 84 = .ok (.iconst 0, 1) := by decide +kernel
theorem dX3_see_85 : decode cX3_see 85 = .ok (.bastore, 1) := by decide +kernel
theorem dX3_see_86 : decode cX3_see 86 = .ok (.aload_n 0, 1) := by decide +kernel
theorem dX3_see_87 : decode cX3_see 87 = .ok (.dup, 1) := by decide +kernel
theorem dX3_see_88 : decode cX3_see 88 = .ok (.getfield 187, 3) := by decide +kernel
theorem dX3_see_91 : decode cX3_see 91 = .ok (.iconst 1, 1) := by decide +kernel
theorem dX3_see_92 : decode cX3_see 92 = .ok (.iadd, 1) := by decide +kernel
theorem dX3_see_93 : decode cX3_see 93 = .ok (.putfield 187, 3) := by decide +kernel
theorem dX3_see_96 : decode cX3_see 96 = .ok (.aload_n 0, 1) := by decide +kernel
theorem dX3_see_97 : decode cX3_see 97 = .ok (.getfield 187, 3) := by decide +kernel
theorem dX3_see_100 : decode cX3_see 100 = .ok (.ireturn, 1) := by decide +kernel
theorem dX3_unsee_0 : decode cX3_unsee 0 = .ok (.aload_n 0, 1) := by decide +kernel
theorem dX3_unsee_1 : decode cX3_unsee 1 = .ok (.getfield 187, 3) := by decide +kernel
theorem dX3_unsee_4 : decode cX3_unsee 4 = .ok (.istore_n 1, 1) := by decide +kernel
theorem dX3_unsee_5 : decode cX3_unsee 5 = .ok (.aload_n 0, 1) := by decide +kernel
theorem dX3_unsee_6 : decode cX3_unsee 6 = .ok (.iconst 0, 1) := by decide +kernel
theorem dX3_unsee_7 : decode cX3_unsee 7 = .ok (.putfield 187, 3) := by decide +kernel
theorem dX3_unsee_10 : decode cX3_unsee 10 = .ok (.iload_n 1, 1) := by decide +kernel
theorem dX3_unsee_11 : decode cX3_unsee 11 = .ok (.ireturn, 1) := by decide +kernel
theorem dX3_bought_0 : decode cX3_bought 0 = .ok (.aload_n 0, 1) := by decide +kernel
theorem dX3_bought_1 : decode cX3_bought 1 = .ok (.getfield 23, 3) := by decide +kernel
theorem dX3_bought_4 : decode cX3_bought 4 = .ok (.iload_n 1, 1) := by decide +kernel
theorem dX3_bought_5 : decode cX3_bought 5 = .ok (.invokevirtual 79, 3) := by decide +kernel
theorem dX3_bought_8 : decode cX3_bought 8 = .ok (.ifCond .ne 5, 3) := by decide +kernel
theorem dX3_bought_11 : decode cX3_bought 11 = .ok (.iconst (-1), 1) := by decide +kernel
theorem dX3_bought_12 : decode cX3_bought 12 = .ok (.ireturn, 1) := by decide +kernel
theorem dX3_bought_13 : decode cX3_bought 13 = .ok (.iconst 0, 1) := by decide +kernel
theorem dX3_bought_14 : decode cX3_bought 14 = .ok (.istore_n 2, 1) := by decide +kernel
theorem dX3_bought_15 : decode cX3_bought 15 = .ok (.iconst 0, 1) := by decide +kernel
theorem dX3_bought_16 : decode cX3_bought 16 = .ok (.istore_n 3, 1) := by decide +kernel
theorem dX3_bought_17 : decode cX3_bought 17 = .ok (.iload_n 3, 1) := by decide +kernel
theorem dX3_bought_18 : decode cX3_bought 18 = .ok (.bipush 9, 2) := by decide +kernel
theorem dX3_bought_20 : decode cX3_bought 20 = .ok (.if_icmp .gt 27, 3) := by decide +kernel
theorem dX3_bought_23 : decode cX3_bought 23 = .ok (.aload_n 0, 1) := by decide +kernel
theorem dX3_bought_24 : decode cX3_bought 24 = .ok (.iload_n 1, 1) := by decide +kernel
theorem dX3_bought_25 : decode cX3_bought 25 = .ok (.bipush 10, 2) := by decide +kernel
theorem dX3_bought_27 : decode cX3_bought 27 = .ok (.iload_n 3, 1) := by decide +kernel
theorem dX3_bought_28 : decode cX3_bought 28 = .ok (.imul, 1) := by decide +kernel
theorem dX3_bought_29 : decode cX3_bought 29 = .ok (.invokevirtual 190, 3) := by decide +kernel
theorem dX3_bought_32 : decode cX3_bought 32 = .ok (.ifCond .eq 9, 3) := by decide +kernel
theorem dX3_bought_35 : decode cX3_bought 35 = .ok (.iload_n 2, 1) := by decide +kernel
theorem dX3_bought_36 : decode cX3_bought 36 = .ok (.iconst 1, 1) := by decide +kernel
theorem dX3_bought_37 : decode cX3_bought 37 = .ok (.iload_n 3, 1) := by decide +kernel
theorem dX3_bought_38 : decode cX3_bought 38 = .ok (.ishl, 1) := by decide +kernel
theorem dX3_bought_39 : decode cX3_bought 39 = .ok (.ior, 1) := by decide +kernel
theorem dX3_bought_40 : decode cX3_bought 40 = .ok (.istore_n 2, 1) := by decide +kernel
theorem dX3_bought_41 : decode cX3_bought 41 = .ok (.iinc 3 1, 3) := by decide +kernel
theorem dX3_bought_44 : decode cX3_bought 44 = .ok (.goto (-27), 3) := by decide +kernel
theorem dX3_bought_47 : decode cX3_bought 47 = .ok (.iload_n 2, 1) := by decide +kernel
theorem dX3_bought_48 : decode cX3_bought 48 = .ok (.ireturn, 1) := by decide +kernel
theorem dX3_share_0 : decode cX3_share 0 = .ok (.aload_n 0, 1) := by decide +kernel
theorem dX3_share_1 : decode cX3_share 1 = .ok (.getfield 23, 3) := by decide +kernel
theorem dX3_share_4 : decode cX3_share 4 = .ok (.iload_n 1, 1) := by decide +kernel
theorem dX3_share_5 : decode cX3_share 5 = .ok (.invokevirtual 79, 3) := by decide +kernel
theorem dX3_share_8 : decode cX3_share 8 = .ok (.ifCond .ne 5, 3) := by decide +kernel
theorem dX3_share_11 : decode cX3_share 11 = .ok (.iconst (-1), 1) := by decide +kernel
theorem dX3_share_12 : decode cX3_share 12 = .ok (.ireturn, 1) := by decide +kernel
theorem dX3_share_13 : decode cX3_share 13 = .ok (.iconst 1, 1) := by decide +kernel
theorem dX3_share_14 : decode cX3_share 14 = .ok (.iload_n 1, 1) := by decide +kernel
theorem dX3_share_15 : decode cX3_share 15 = .ok (.ishl, 1) := by decide +kernel
theorem dX3_share_16 : decode cX3_share 16 = .ok (.istore_n 3, 1) := by decide +kernel
theorem dX3_share_17 : decode cX3_share 17 = .ok (.lconst 0, 1) := by decide +kernel
theorem dX3_share_18 : decode cX3_share 18 = .ok (.lstore 4, 2) := by decide +kernel
theorem dX3_share_20 : decode cX3_share 20 = .ok (.iconst 0, 1) := by decide +kernel
theorem dX3_share_21 : decode cX3_share 21 = .ok (.istore 6, 2) := by decide +kernel
theorem dX3_share_23 : decode cX3_share 23 = .ok (.iload 6, 2) := by decide +kernel
theorem dX3_share_25 : decode cX3_share 25 = .ok (.aload_n 0, 1) := by decide +kernel
theorem dX3_share_26 : decode cX3_share 26 = .ok (.getfield 23, 3) := by decide +kernel
theorem dX3_share_29 : decode cX3_share 29 = .ok (.invokevirtual 169, 3) := by decide +kernel
theorem dX3_share_32 : decode cX3_share 32 = .ok (.if_icmp .gt 76, 3) := by decide +kernel
theorem dX3_share_35 : decode cX3_share 35 = .ok (.iload 6, 2) := by decide +kernel
theorem dX3_share_37 : decode cX3_share 37 = .ok (.iload_n 3, 1) := by decide +kernel
theorem dX3_share_38 : decode cX3_share 38 = .ok (.iand, 1) := by decide +kernel
theorem dX3_share_39 : decode cX3_share 39 = .ok (.ifCond .ne 63, 3) := by decide +kernel
theorem dX3_share_42 : decode cX3_share 42 = .ok (.iload 6, 2) := by decide +kernel
theorem dX3_share_44 : decode cX3_share 44 = .ok (.invokestatic 136, 3) := by decide +kernel
theorem dX3_share_47 : decode cX3_share 47 = .ok (.istore 7, 2) := by decide +kernel
theorem dX3_share_49 : decode cX3_share 49 = .ok (.iload 7, 2) := by decide +kernel
theorem dX3_share_51 : decode cX3_share 51 = .ok (.invokestatic 193, 3) := by decide +kernel
theorem dX3_share_54 : decode cX3_share 54 = .ok (.aload_n 0, 1) := by decide +kernel
theorem dX3_share_55 : decode cX3_share 55 = .ok (.getfield 23, 3) := by decide +kernel
theorem dX3_share_58 : decode cX3_share 58 = .ok (.getfield 73, 3) := by decide +kernel
theorem dX3_share_61 : decode cX3_share 61 = .ok (.iconst 1, 1) := by decide +kernel
theorem dX3_share_62 : decode cX3_share 62 = .ok (.isub, 1) := by decide +kernel
theorem dX3_share_63 : decode cX3_share 63 = .ok (.iload 7, 2) := by decide +kernel
theorem dX3_share_65 : decode cX3_share 65 = .ok (.isub, 1) := by decide +kernel
theorem dX3_share_66 : decode cX3_share 66 = .ok (.invokestatic 193, 3) := by decide +kernel
theorem dX3_share_69 : decode cX3_share 69 = .ok (.lmul, 1) := by decide +kernel
theorem dX3_share_70 : decode cX3_share 70 = .ok (.lstore 8, 2) := by decide +kernel
theorem dX3_share_72 : decode cX3_share 72 = .ok (.lload 4, 2) := by decide +kernel
theorem dX3_share_74 : decode cX3_share 74 = .ok (.lload 8, 2) := by decide +kernel
theorem dX3_share_76 : decode cX3_share 76 = .ok (.aload_n 0, 1) := by decide +kernel
theorem dX3_share_77 : decode cX3_share 77 = .ok (.getfield 23, 3) := by decide +kernel
theorem dX3_share_80 : decode cX3_share 80 = .ok (.iload 6, 2) := by decide +kernel
theorem dX3_share_82 : decode cX3_share 82 = .ok (.iload_n 3, 1) := by decide +kernel
theorem dX3_share_83 : decode cX3_share 83 = .ok (.ior, 1) := by decide +kernel
theorem dX3_share_84 : decode cX3_share 84 = .ok (.invokevirtual 197, 3) := by decide +kernel
theorem dX3_share_87 : decode cX3_share 87 = .ok (.aload_n 0, 1) := by decide +kernel
theorem dX3_share_88 : decode cX3_share 88 = .ok (.getfield 23, 3) := by decide +kernel
theorem dX3_share_91 : decode cX3_share 91 = .ok (.iload 6, 2) := by decide +kernel
theorem dX3_share_93 : decode cX3_share 93 = .ok (.invokevirtual 197, 3) := by decide +kernel
theorem dX3_share_96 : decode cX3_share 96 = .ok (.isub, 1) := by decide +kernel
theorem dX3_share_97 : decode cX3_share 97 = .ok (.i2l, 1) := by decide +kernel
theorem dX3_share_98 : decode cX3_share 98 = .ok (.lmul, 1) := by decide +kernel
theorem dX3_share_99 : decode cX3_share 99 = .ok (.ladd, 1) := by decide +kernel
theorem dX3_share_100 : decode cX3_share 100 = .ok (.lstore 4, 2) := by decide +kernel
theorem dX3_share_102 : decode cX3_share 102 = .ok (.iinc 6 1, 3) := by decide +kernel
theorem dX3_share_105 : decode cX3_share 105 = .ok (.goto (-82), 3) := by decide +kernel
theorem dX3_share_108 : decode cX3_share 108 = .ok (.lload 4, 2) := by decide +kernel
theorem dX3_share_110 : decode cX3_share 110 = .ok (.aload_n 0, 1) := by decide +kernel
theorem dX3_share_111 : decode cX3_share 111 = .ok (.getfield 23, 3) := by decide +kernel
theorem dX3_share_114 : decode cX3_share 114 = .ok (.getfield 73, 3) := by decide +kernel
theorem dX3_share_117 : decode cX3_share 117 = .ok (.invokestatic 193, 3) := by decide +kernel
theorem dX3_share_120 : decode cX3_share 120 = .ok (.iload_n 2, 1) := by decide +kernel
theorem dX3_share_121 : decode cX3_share 121 = .ok (.invokestatic 200, 3) := by decide +kernel
theorem dX3_share_124 : decode cX3_share 124 = .ok (.ireturn, 1) := by decide +kernel
theorem dX3_rests_0 : decode cX3_rests 0 = .ok (.aload_n 0, 1) := by decide +kernel
theorem dX3_rests_1 : decode cX3_rests 1 = .ok (.getfield 23, 3) := by decide +kernel
theorem dX3_rests_4 : decode cX3_rests 4 = .ok (.iload_n 1, 1) := by decide +kernel
theorem dX3_rests_5 : decode cX3_rests 5 = .ok (.invokevirtual 108, 3) := by decide +kernel
theorem dX3_rests_8 : decode cX3_rests 8 = .ok (.ifCond .eq 25, 3) := by decide +kernel
theorem dX3_rests_11 : decode cX3_rests 11 = .ok (.aload_n 0, 1) := by decide +kernel
theorem dX3_rests_12 : decode cX3_rests 12 = .ok (.getfield 23, 3) := by decide +kernel
theorem dX3_rests_15 : decode cX3_rests 15 = .ok (.iload_n 2, 1) := by decide +kernel
theorem dX3_rests_16 : decode cX3_rests 16 = .ok (.invokevirtual 108, 3) := by decide +kernel
theorem dX3_rests_19 : decode cX3_rests 19 = .ok (.ifCond .eq 14, 3) := by decide +kernel
theorem dX3_rests_22 : decode cX3_rests 22 = .ok (.aload_n 0, 1) := by decide +kernel
theorem dX3_rests_23 : decode cX3_rests 23 = .ok (.getfield 23, 3) := by decide +kernel
theorem dX3_rests_26 : decode cX3_rests 26 = .ok (.iload_n 3, 1) := by decide +kernel
theorem dX3_rests_27 : decode cX3_rests 27 = .ok (.invokevirtual 79, 3) := by decide +kernel
theorem dX3_rests_30 : decode cX3_rests 30 = .ok (.ifCond .ne 5, 3) := by decide +kernel
theorem dX3_rests_33 : decode cX3_rests 33 = .ok (.iconst (-1), 1) := by decide +kernel
theorem dX3_rests_34 : decode cX3_rests 34 = .ok (.ireturn, 1) := by decide +kernel
theorem dX3_rests_35 : decode cX3_rests 35 = .ok (.iload_n 1, 1) := by decide +kernel
theorem dX3_rests_36 : decode cX3_rests 36 = .ok (.iload_n 2, 1) := by decide +kernel
theorem dX3_rests_37 : decode cX3_rests 37 = .ok (.if_icmp .eq 14, 3) := by decide +kernel
theorem dX3_rests_40 : decode cX3_rests 40 = .ok (.iload 4, 2) := by decide +kernel
theorem dX3_rests_42 : decode cX3_rests 42 = .ok (.ifCond .lt 9, 3) := by decide +kernel
theorem dX3_rests_45 : decode cX3_rests 45 = .ok (.iload 4, 2) := by decide +kernel
theorem dX3_rests_47 : decode cX3_rests 47 = .ok (.iconst 1, 1) := by decide +kernel
theorem dX3_rests_48 : decode cX3_rests 48 = .ok (.if_icmp .le 6, 3) := by decide +kernel
theorem dX3_rests_51 : decode cX3_rests 51 = .ok (.bipush (-2), 2) := by decide +kernel
theorem dX3_rests_53 : decode cX3_rests 53 = .ok (.ireturn, 1) := by decide +kernel
theorem dX3_rests_54 : decode cX3_rests 54 = .ok (.aload_n 0, 1) := by decide +kernel
theorem dX3_rests_55 : decode cX3_rests 55 = .ok (.getfield 23, 3) := by decide +kernel
theorem dX3_rests_58 : decode cX3_rests 58 = .ok (.getfield 123, 3) := by decide +kernel
theorem dX3_rests_61 : decode cX3_rests 61 = .ok (.iload_n 1, 1) := by decide +kernel
theorem dX3_rests_62 : decode cX3_rests 62 = .ok (.iaload, 1) := by decide +kernel
theorem dX3_rests_63 : decode cX3_rests 63 = .ok (.ifCond .ne 15, 3) := by decide +kernel
theorem dX3_rests_66 : decode cX3_rests 66 = .ok (.aload_n 0, 1) := by decide +kernel
theorem dX3_rests_67 : decode cX3_rests 67 = .ok (.getfield 23, 3) := by decide +kernel
theorem dX3_rests_70 : decode cX3_rests 70 = .ok (.getfield 123, 3) := by decide +kernel
theorem dX3_rests_73 : decode cX3_rests 73 = .ok (.iload_n 2, 1) := by decide +kernel
theorem dX3_rests_74 : decode cX3_rests 74 = .ok (.iaload, 1) := by decide +kernel
theorem dX3_rests_75 : decode cX3_rests 75 = .ok (.ifCond .eq 6, 3) := by decide +kernel
theorem dX3_rests_78 : decode cX3_rests 78 = .ok (.bipush (-3), 2) := by decide +kernel
theorem dX3_rests_80 : decode cX3_rests 80 = .ok (.ireturn, 1) := by decide +kernel
theorem dX3_rests_81 : decode cX3_rests 81 = .ok (.aload_n 0, 1) := by decide +kernel
theorem dX3_rests_82 : decode cX3_rests 82 = .ok (.getfield 23, 3) := by decide +kernel
theorem dX3_rests_85 : decode cX3_rests 85 = .ok (.iload_n 3, 1) := by decide +kernel
theorem dX3_rests_86 : decode cX3_rests 86 = .ok (.invokevirtual 96, 3) := by decide +kernel
theorem dX3_rests_89 : decode cX3_rests 89 = .ok (.aload_n 0, 1) := by decide +kernel
theorem dX3_rests_90 : decode cX3_rests 90 = .ok (.getfield 23, 3) := by decide +kernel
theorem dX3_rests_93 : decode cX3_rests 93 = .ok (.getfield 111, 3) := by decide +kernel
theorem dX3_rests_96 : decode cX3_rests 96 = .ok (.iload_n 1, 1) := by decide +kernel
theorem dX3_rests_97 : decode cX3_rests 97 = .ok (.iaload, 1) := by decide +kernel
theorem dX3_rests_98 : decode cX3_rests 98 = .ok (.iconst 3, 1) := by decide +kernel
theorem dX3_rests_99 : decode cX3_rests 99 = .ok (.idiv, 1) := by decide +kernel
theorem dX3_rests_100 : decode cX3_rests 100 = .ok (.isub, 1) := by decide +kernel
theorem dX3_rests_101 : decode cX3_rests 101 = .ok (.istore 5, 2) := by decide +kernel
theorem dX3_rests_103 : decode cX3_rests 103 = .ok (.aload_n 0, 1) := by decide +kernel
theorem dX3_rests_104 : decode cX3_rests 104 = .ok (.getfield 23, 3) := by decide +kernel
theorem dX3_rests_107 : decode cX3_rests 107 = .ok (.iload_n 3, 1) := by decide +kernel
theorem dX3_rests_108 : decode cX3_rests 108 = .ok (.invokevirtual 96, 3) := by decide +kernel
theorem dX3_rests_111 : decode cX3_rests 111 = .ok (.aload_n 0, 1) := by decide +kernel
theorem dX3_rests_112 : decode cX3_rests 112 = .ok (.getfield 23, 3) := by decide +kernel
theorem dX3_rests_115 : decode cX3_rests 115 = .ok (.getfield 111, 3) := by decide +kernel
theorem dX3_rests_118 : decode cX3_rests 118 = .ok (.iload_n 2, 1) := by decide +kernel
theorem dX3_rests_119 : decode cX3_rests 119 = .ok (.iaload, 1) := by decide +kernel
theorem dX3_rests_120 : decode cX3_rests 120 = .ok (.iconst 3, 1) := by decide +kernel
theorem dX3_rests_121 : decode cX3_rests 121 = .ok (.idiv, 1) := by decide +kernel
theorem dX3_rests_122 : decode cX3_rests 122 = .ok (.isub, 1) := by decide +kernel
theorem dX3_rests_123 : decode cX3_rests 123 = .ok (.istore 6, 2) := by decide +kernel
theorem dX3_rests_125 : decode cX3_rests 125 = .ok (.iconst 0, 1) := by decide +kernel
theorem dX3_rests_126 : decode cX3_rests 126 = .ok (.istore 7, 2) := by decide +kernel
theorem dX3_rests_128 : decode cX3_rests 128 = .ok (.bipush (-9), 2) := by decide +kernel
theorem dX3_rests_130 : decode cX3_rests 130 = .ok (.istore 8, 2) := by decide +kernel
theorem dX3_rests_132 : decode cX3_rests 132 = .ok (.iconst 0, 1) := by decide +kernel
