theorem dX0_init_0 : decode cX0_init 0 = .ok (.aload_n 0, 1) := by decide +kernel
theorem dX0_init_1 : decode cX0_init 1 = .ok (.invokespecial 5, 3) := by decide +kernel
theorem dX0_init_4 : decode cX0_init 4 = .ok (.aload_n 0, 1) := by decide +kernel
theorem dX0_init_5 : decode cX0_init 5 = .ok (.iconst 0, 1) := by decide +kernel
theorem dX0_init_6 : decode cX0_init 6 = .ok (.iload_n 1, 1) := by decide +kernel
theorem dX0_init_7 : decode cX0_init 7 = .ok (.invokestatic 11, 3) := by decide +kernel
theorem dX0_init_10 : decode cX0_init 10 = .ok (.bipush 30, 2) := by decide +kernel
theorem dX0_init_12 : decode cX0_init 12 = .ok (.imul, 1) := by decide +kernel
theorem dX0_init_13 : decode cX0_init 13 = .ok (.newarray .int, 2) := by decide +kernel
theorem dX0_init_15 : decode cX0_init 15 = .ok (.putfield 17, 3) := by decide +kernel
theorem dX0_init_18 : decode cX0_init 18 = .ok (.return_, 1) := by decide +kernel
theorem dX0_holds_0 : decode cX0_holds 0 = .ok (.iload_n 1, 1) := by decide +kernel
theorem dX0_holds_1 : decode cX0_holds 1 = .ok (.ifCond .lt 19, 3) := by decide +kernel
theorem dX0_holds_4 : decode cX0_holds 4 = .ok (.iload_n 1, 1) := by decide +kernel
theorem dX0_holds_5 : decode cX0_holds 5 = .ok (.aload_n 0, 1) := by decide +kernel
theorem dX0_holds_6 : decode cX0_holds 6 = .ok (.getfield 17, 3) := by decide +kernel
theorem dX0_holds_9 : decode cX0_holds 9 = .ok (.arraylength, 1) := by decide +kernel
theorem dX0_holds_10 : decode cX0_holds 10 = .ok (.bipush 30, 2) := by decide +kernel
theorem dX0_holds_12 : decode cX0_holds 12 = .ok (.idiv, 1) := by decide +kernel
theorem dX0_holds_13 : decode cX0_holds 13 = .ok (.if_icmp .ge 7, 3) := by decide +kernel
theorem dX0_holds_16 : decode cX0_holds 16 = .ok (.iconst 1, 1) := by decide +kernel
theorem dX0_holds_17 : decode cX0_holds 17 = .ok (.goto 4, 3) := by decide +kernel
theorem dX0_holds_20 : decode cX0_holds 20 = .ok (.iconst 0, 1) := by decide +kernel
theorem dX0_holds_21 : decode cX0_holds 21 = .ok (.ireturn, 1) := by decide +kernel
theorem dX0_store_0 : decode cX0_store 0 = .ok (.aload_n 0, 1) := by decide +kernel
theorem dX0_store_1 : decode cX0_store 1 = .ok (.iload_n 1, 1) := by decide +kernel
theorem dX0_store_2 : decode cX0_store 2 = .ok (.invokevirtual 21, 3) := by decide +kernel
theorem dX0_store_5 : decode cX0_store 5 = .ok (.ifCond .ne 4, 3) := by decide +kernel
theorem dX0_store_8 : decode cX0_store 8 = .ok (.return_, 1) := by decide +kernel
theorem dX0_store_9 : decode cX0_store 9 = .ok (.iload_n 1, 1) := by decide +kernel
theorem dX0_store_10 : decode cX0_store 10 = .ok (.bipush 30, 2) := by decide +kernel
theorem dX0_store_12 : decode cX0_store 12 = .ok (.imul, 1) := by decide +kernel
theorem dX0_store_13 : decode cX0_store 13 = .ok (.istore_n 3, 1) := by decide +kernel
theorem dX0_store_14 : decode cX0_store 14 = .ok (.aload_n 2, 1) := by decide +kernel
theorem dX0_store_15 : decode cX0_store 15 = .ok (.getfield 25, 3) := by decide +kernel
theorem dX0_store_18 : decode cX0_store 18 = .ok (.iconst 0, 1) := by decide +kernel
theorem dX0_store_19 : decode cX0_store 19 = .ok (.aload_n 0, 1) := by decide +kernel
theorem dX0_store_20 : decode cX0_store 20 = .ok (.getfield 17, 3) := by decide +kernel
theorem dX0_store_23 : decode cX0_store 23 = .ok (.iload_n 3, 1) := by decide +kernel
theorem dX0_store_24 : decode cX0_store 24 = .ok (.iconst 5, 1) := by decide +kernel
theorem dX0_store_25 : decode cX0_store 25 = .ok (.invokestatic 30, 3) := by decide +kernel
theorem dX0_store_28 : decode cX0_store 28 = .ok (.aload_n 2, 1) := by decide +kernel
theorem dX0_store_29 : decode cX0_store 29 = .ok (.getfield 36, 3) := by decide +kernel
theorem dX0_store_32 : decode cX0_store 32 = .ok (.iconst 0, 1) := by decide +kernel
theorem dX0_store_33 : decode cX0_store 33 = .ok (.aload_n 0, 1) := by decide +kernel
theorem dX0_store_34 : decode cX0_store 34 = .ok (.getfield 17, 3) := by decide +kernel
theorem dX0_store_37 : decode cX0_store 37 = .ok (.iload_n 3, 1) := by decide +kernel
theorem dX0_store_38 : decode cX0_store 38 = .ok (.iconst 5, 1) := by decide +kernel
theorem dX0_store_39 : decode cX0_store 39 = .ok (.iadd, 1) := by decide +kernel
theorem dX0_store_40 : decode cX0_store 40 = .ok (.iconst 5, 1) := by decide +kernel
theorem dX0_store_41 : decode cX0_store 41 = .ok (.invokestatic 30, 3) := by decide +kernel
theorem dX0_store_44 : decode cX0_store 44 = .ok (.aload_n 2, 1) := by decide +kernel
theorem dX0_store_45 : decode cX0_store 45 = .ok (.getfield 39, 3) := by decide +kernel
theorem dX0_store_48 : decode cX0_store 48 = .ok (.iconst 0, 1) := by decide +kernel
theorem dX0_store_49 : decode cX0_store 49 = .ok (.aload_n 0, 1) := by decide +kernel
theorem dX0_store_50 : decode cX0_store 50 = .ok (.getfield 17, 3) := by decide +kernel
theorem dX0_store_53 : decode cX0_store 53 = .ok (.iload_n 3, 1) := by decide +kernel
theorem dX0_store_54 : decode cX0_store 54 = .ok (.bipush 10, 2) := by decide +kernel
theorem dX0_store_56 : decode cX0_store 56 = .ok (.iadd, 1) := by decide +kernel
theorem dX0_store_57 : decode cX0_store 57 = .ok (.iconst 5, 1) := by decide +kernel
theorem dX0_store_58 : decode cX0_store 58 = .ok (.invokestatic 30, 3) := by decide +kernel
theorem dX0_store_61 : decode cX0_store 61 = .ok (.aload_n 2, 1) := by decide +kernel
theorem dX0_store_62 : decode cX0_store 62 = .ok (.getfield 42, 3) := by decide +kernel
theorem dX0_store_65 : decode cX0_store 65 = .ok (.iconst 0, 1) := by decide +kernel
theorem dX0_store_66 : decode cX0_store 66 = .ok (.aload_n 0, 1) := by decide +kernel
theorem dX0_store_67 : decode cX0_store 67 = .ok (.getfield 17, 3) := by decide +kernel
theorem dX0_store_70 : decode cX0_store 70 = .ok (.iload_n 3, 1) := by decide +kernel
theorem dX0_store_71 : decode cX0_store 71 = .ok (.bipush 15, 2) := by decide +kernel
theorem dX0_store_73 : decode cX0_store 73 = .ok (.iadd, 1) := by decide +kernel
theorem dX0_store_74 : decode cX0_store 74 = .ok (.iconst 5, 1) := by decide +kernel
theorem dX0_store_75 : decode cX0_store 75 = .ok (.invokestatic 30, 3) := by decide +kernel
theorem dX0_store_78 : decode cX0_store 78 = .ok (.aload_n 2, 1) := by decide +kernel
theorem dX0_store_79 : decode cX0_store 79 = .ok (.getfield 45, 3) := by decide +kernel
theorem dX0_store_82 : decode cX0_store 82 = .ok (.iconst 0, 1) := by decide +kernel
theorem dX0_store_83 : decode cX0_store 83 = .ok (.aload_n 0, 1) := by decide +kernel
theorem dX0_store_84 : decode cX0_store 84 = .ok (.getfield 17, 3) := by decide +kernel
theorem dX0_store_87 : decode cX0_store 87 = .ok (.iload_n 3, 1) := by decide +kernel
theorem dX0_store_88 : decode cX0_store 88 = .ok (.bipush 20, 2) := by decide +kernel
theorem dX0_store_90 : decode cX0_store 90 = .ok (.iadd, 1) := by decide +kernel
theorem dX0_store_91 : decode cX0_store 91 = .ok (.iconst 4, 1) := by decide +kernel
theorem dX0_store_92 : decode cX0_store 92 = .ok (.invokestatic 30, 3) := by decide +kernel
theorem dX0_store_95 : decode cX0_store 95 = .ok (.aload_n 2, 1) := by decide +kernel
theorem dX0_store_96 : decode cX0_store 96 = .ok (.getfield 48, 3) := by decide +kernel
theorem dX0_store_99 : decode cX0_store 99 = .ok (.iconst 0, 1) := by decide +kernel
theorem dX0_store_100 : decode cX0_store 100 = .ok (.aload_n 0, 1) := by decide +kernel
theorem dX0_store_101 : decode cX0_store 101 = .ok (.getfield 17, 3) := by decide +kernel
theorem dX0_store_104 : decode cX0_store 104 = .ok (.iload_n 3, 1) := by decide +kernel
theorem dX0_store_105 : decode cX0_store 105 = .ok (.bipush 24, 2) := by decide +kernel
theorem dX0_store_107 : decode cX0_store 107 = .ok (.iadd, 1) := by decide +kernel
theorem dX0_store_108 : decode cX0_store 108 = .ok (.iconst 4, 1) := by decide +kernel
theorem dX0_store_109 : decode cX0_store 109 = .ok (.invokestatic 30, 3) := by decide +kernel
theorem dX0_store_112 : decode cX0_store 112 = .ok (.aload_n 0, 1) := by decide +kernel
theorem dX0_store_113 : decode cX0_store 113 = .ok (.getfield 17, 3) := by decide +kernel
theorem dX0_store_116 : decode cX0_store 116 = .ok (.iload_n 3, 1) := by decide +kernel
theorem dX0_store_117 : decode cX0_store 117 = .ok (.bipush 28, 2) := by decide +kernel
theorem dX0_store_119 : decode cX0_store 119 = .ok (.iadd, 1) := by decide +kernel
theorem dX0_store_120 : decode cX0_store 120 = .ok (.aload_n 2, 1) := by decide +kernel
theorem dX0_store_121 : decode cX0_store 121 = .ok (.getfield 51, 3) := by decide +kernel
theorem dX0_store_124 : decode cX0_store 124 = .ok (.ifCond .eq 7, 3) := by decide +kernel
theorem dX0_store_127 : decode cX0_store 127 = .ok (.iconst 1, 1) := by decide +kernel
theorem dX0_store_128 : decode cX0_store 128 = .ok (.goto 4, 3) := by decide +kernel
theorem dX0_store_131 : decode cX0_store 131 = .ok (.iconst 0, 1) := by decide +kernel
theorem dX0_store_132 : decode cX0_store 132 = .ok (.iastore, 1) := by decide +kernel
theorem dX0_store_133 : decode cX0_store 133 = .ok (.aload_n 0, 1) := by decide +kernel
theorem dX0_store_134 : decode cX0_store 134 = .ok (.getfield 17, 3) := by decide +kernel
theorem dX0_store_137 : decode cX0_store 137 = .ok (.iload_n 3, 1) := by decide +kernel
theorem dX0_store_138 : decode cX0_store 138 = .ok (.bipush 29, 2) := by decide +kernel
theorem dX0_store_140 : decode cX0_store 140 = .ok (.iadd, 1) := by decide +kernel
theorem dX0_store_141 : decode cX0_store 141 = .ok (.aload_n 2, 1) := by decide +kernel
theorem dX0_store_142 : decode cX0_store 142 = .ok (.getfield 55, 3) := by decide +kernel
theorem dX0_store_145 : decode cX0_store 145 = .ok (.iastore, 1) := by decide +kernel
theorem dX0_store_146 : decode cX0_store 146 = .ok (.return_, 1) := by decide +kernel
theorem dX0_load_0 : decode cX0_load 0 = .ok (.aload_n 0, 1) := by decide +kernel
theorem dX0_load_1 : decode cX0_load 1 = .ok (.iload_n 1, 1) := by decide +kernel
theorem dX0_load_2 : decode cX0_load 2 = .ok (.invokevirtual 21, 3) := by decide +kernel
theorem dX0_load_5 : decode cX0_load 5 = .ok (.ifCond .ne 4, 3) := by decide +kernel
theorem dX0_load_8 : decode cX0_load 8 = .ok (.return_, 1) := by decide +kernel
theorem dX0_load_9 : decode cX0_load 9 = .ok (.iload_n 1, 1) := by decide +kernel
theorem dX0_load_10 : decode cX0_load 10 = .ok (.bipush 30, 2) := by decide +kernel
theorem dX0_load_12 : decode cX0_load 12 = .ok (.imul, 1) := by decide +kernel
theorem dX0_load_13 : decode cX0_load 13 = .ok (.istore_n 3, 1) := by decide +kernel
theorem dX0_load_14 : decode cX0_load 14 = .ok (.aload_n 0, 1) := by decide +kernel
theorem dX0_load_15 : decode cX0_load 15 = .ok (.getfield 17, 3) := by decide +kernel
theorem dX0_load_18 : decode cX0_load 18 = .ok (.iload_n 3, 1) := by decide +kernel
theorem dX0_load_19 : decode cX0_load 19 = .ok (.aload_n 2, 1) := by decide +kernel
theorem dX0_load_20 : decode cX0_load 20 = .ok (.getfield 25, 3) := by decide +kernel
theorem dX0_load_23 : decode cX0_load 23 = .ok (.iconst 0, 1) := by decide +kernel
theorem dX0_load_24 : decode cX0_load 24 = .ok (.iconst 5, 1) := by decide +kernel
theorem dX0_load_25 : decode cX0_load 25 = .ok (.invokestatic 30, 3) := by decide +kernel
theorem dX0_load_28 : decode cX0_load 28 = .ok (.aload_n 0, 1) := by decide +kernel
theorem dX0_load_29 : decode cX0_load 29 = .ok (.getfield 17, 3) := by decide +kernel
theorem dX0_load_32 : decode cX0_load 32 = .ok (.iload_n 3, 1) := by decide +kernel
theorem dX0_load_33 : decode cX0_load 33 = .ok (.iconst 5, 1) := by decide +kernel
theorem dX0_load_34 : decode cX0_load 34 = .ok (.iadd, 1) := by decide +kernel
theorem dX0_load_35 : decode cX0_load 35 = .ok (.aload_n 2, 1) := by decide +kernel
theorem dX0_load_36 : decode cX0_load 36 = .ok (.getfield 36, 3) := by decide +kernel
theorem dX0_load_39 : decode cX0_load 39 = .ok (.iconst 0, 1) := by decide +kernel
theorem dX0_load_40 : decode cX0_load 40 = .ok (.iconst 5, 1) := by decide +kernel
theorem dX0_load_41 : decode cX0_load 41 = .ok (.invokestatic 30, 3) := by decide +kernel
theorem dX0_load_44 : decode cX0_load 44 = .ok (.aload_n 0, 1) := by decide +kernel
theorem dX0_load_45 : decode cX0_load 45 = .ok (.getfield 17, 3) := by decide +kernel
theorem dX0_load_48 : decode cX0_load 48 = .ok (.iload_n 3, 1) := by decide +kernel
theorem dX0_load_49 : decode cX0_load 49 = .ok (.bipush 10, 2) := by decide +kernel
theorem dX0_load_51 : decode cX0_load 51 = .ok (.iadd, 1) := by decide +kernel
theorem dX0_load_52 : decode cX0_load 52 = .ok (.aload_n 2, 1) := by decide +kernel
theorem dX0_load_53 : decode cX0_load 53 = .ok (.getfield 39, 3) := by decide +kernel
theorem dX0_load_56 : decode cX0_load 56 = .ok (.iconst 0, 1) := by decide +kernel
theorem dX0_load_57 : decode cX0_load 57 = .ok (.iconst 5, 1) := by decide +kernel
theorem dX0_load_58 : decode cX0_load 58 = .ok (.invokestatic 30, 3) := by decide +kernel
theorem dX0_load_61 : decode cX0_load 61 = .ok (.aload_n 0, 1) := by decide +kernel
theorem dX0_load_62 : decode cX0_load 62 = .ok (.getfield 17, 3) := by decide +kernel
theorem dX0_load_65 : decode cX0_load 65 = .ok (.iload_n 3, 1) := by decide +kernel
theorem dX0_load_66 : decode cX0_load 66 = .ok (.bipush 15, 2) := by decide +kernel
theorem dX0_load_68 : decode cX0_load 68 = .ok (.iadd, 1) := by decide +kernel
theorem dX0_load_69 : decode cX0_load 69 = .ok (.aload_n 2, 1) := by decide +kernel
theorem dX0_load_70 : decode cX0_load 70 = .ok (.getfield 42, 3) := by decide +kernel
theorem dX0_load_73 : decode cX0_load 73 = .ok (.iconst 0, 1) := by decide +kernel
theorem dX0_load_74 : decode cX0_load 74 = .ok (.iconst 5, 1) := by decide +kernel
theorem dX0_load_75 : decode cX0_load 75 = .ok (.invokestatic 30, 3) := by decide +kernel
theorem dX0_load_78 : decode cX0_load 78 = .ok (.aload_n 0, 1) := by decide +kernel
theorem dX0_load_79 : decode cX0_load 79 = .ok (.getfield 17, 3) := by decide +kernel
theorem dX0_load_82 : decode cX0_load 82 = .ok (.iload_n 3, 1) := by decide +kernel
theorem dX0_load_83 : decode cX0_load 83 = .ok (.bipush 20, 2) := by decide +kernel
theorem dX0_load_85 : decode cX0_load 85 = .ok (.iadd, 1) := by decide +kernel
theorem dX0_load_86 : decode cX0_load 86 = .ok (.aload_n 2, 1) := by decide +kernel
theorem dX0_load_87 : decode cX0_load 87 = .ok (.getfield 45, 3) := by decide +kernel
theorem dX0_load_90 : decode cX0_load 90 = .ok (.iconst 0, 1) := by decide +kernel
theorem dX0_load_91 : decode cX0_load 91 = .ok (.iconst 4, 1) := by decide +kernel
theorem dX0_load_92 : decode cX0_load 92 = .ok (.invokestatic 30, 3) := by decide +kernel
theorem dX0_load_95 : decode cX0_load 95 = .ok (.aload_n 0, 1) := by decide +kernel
theorem dX0_load_96 : decode cX0_load 96 = .ok (.getfield 17, 3) := by decide +kernel
theorem dX0_load_99 : decode cX0_load 99 = .ok (.iload_n 3, 1) := by decide +kernel
theorem dX0_load_100 : decode cX0_load 100 = .ok (.bipush 24, 2) := by decide +kernel
theorem dX0_load_102 : decode cX0_load 102 = .ok (.iadd, 1) := by decide +kernel
theorem dX0_load_103 : decode cX0_load 103 = .ok (.aload_n 2, 1) := by decide +kernel
theorem dX0_load_104 : decode cX0_load 104 = .ok (.getfield 48, 3) := by decide +kernel
theorem dX0_load_107 : decode cX0_load 107 = .ok (.iconst 0, 1) := by decide +kernel
theorem dX0_load_108 : decode cX0_load 108 = .ok (.iconst 4, 1) := by decide +kernel
theorem dX0_load_109 : decode cX0_load 109 = .ok (.invokestatic 30, 3) := by decide +kernel
theorem dX0_load_112 : decode cX0_load 112 = .ok (.aload_n 2, 1) := by decide +kernel
theorem dX0_load_113 : decode cX0_load 113 = .ok (.aload_n 0, 1) := by decide +kernel
theorem dX0_load_114 : decode cX0_load 114 = .ok (.getfield 17, 3) := by decide +kernel
theorem dX0_load_117 : decode cX0_load 117 = .ok (.iload_n 3, 1) := by decide +kernel
theorem dX0_load_118 : decode cX0_load 118 = .ok (.bipush 28, 2) := by decide +kernel
theorem dX0_load_120 : decode cX0_load 120 = .ok (.iadd, 1) := by decide +kernel
theorem dX0_load_121 : decode cX0_load 121 = .ok (.iaload, 1) := by decide +kernel
theorem dX0_load_122 : decode cX0_load 122 = .ok (.iconst 1, 1) := by decide +kernel
theorem dX0_load_123 : decode cX0_load 123 = .ok (.if_icmp .ne 7, 3) := by decide +kernel
theorem dX0_load_126 : decode cX0_load 126 = .ok (.iconst 1, 1) := by decide +kernel
theorem dX0_load_127 : decode cX0_load 127 = .ok (.goto 4, 3) := by decide +kernel
theorem dX0_load_130 : decode cX0_load 130 = .ok (.iconst 0, 1) := by decide +kernel
theorem dX0_load_131 : decode cX0_load 131 = .ok (.putfield 51, 3) := by decide +kernel
theorem dX0_load_134 : decode cX0_load 134 = .ok (.aload_n 2, 1) := by decide +kernel
theorem dX0_load_135 : decode cX0_load 135 = .ok (.aload_n 0, 1) := by decide +kernel
theorem dX0_load_136 : decode cX0_load 136 = .ok (.getfield 17, 3) := by decide +kernel
theorem dX0_load_139 : decode cX0_load 139 = .ok (.iload_n 3, 1) := by decide +kernel
theorem dX0_load_140 : decode cX0_load 140 = .ok (.bipush 29, 2) := by decide +kernel
theorem dX0_load_142 : decode cX0_load 142 = .ok (.iadd, 1) := by decide +kernel
theorem dX0_load_143 : decode cX0_load 143 = .ok (.iaload, 1) := by decide +kernel
theorem dX0_load_144 : decode cX0_load 144 = .ok (.putfield 55, 3) := by decide +kernel
theorem dX0_load_147 : decode cX0_load 147 = .ok (.return_, 1) := by decide +kernel
theorem dX0_forgetFirst_0 : decode cX0_forgetFirst 0 = .ok (.aload_n 0, 1) := by decide +kernel
theorem dX0_forgetFirst_1 : decode cX0_forgetFirst 1 = .ok (.getfield 17, 3) := by decide +kernel
theorem dX0_forgetFirst_4 : decode cX0_forgetFirst 4 = .ok (.arraylength, 1) := by decide +kernel
theorem dX0_forgetFirst_5 : decode cX0_forgetFirst 5 = .ok (.bipush 30, 2) := by decide +kernel
theorem dX0_forgetFirst_7 : decode cX0_forgetFirst 7 = .ok (.if_icmp .lt 25, 3) := by decide +kernel
theorem dX0_forgetFirst_10 : decode cX0_forgetFirst 10 = .ok (.aload_n 0, 1) := by decide +kernel
theorem dX0_forgetFirst_11 : decode cX0_forgetFirst 11 = .ok (.getfield 17, 3) := by decide +kernel
theorem dX0_forgetFirst_14 : decode cX0_forgetFirst 14 = .ok (.bipush 30, 2) := by decide +kernel
theorem dX0_forgetFirst_16 : decode cX0_forgetFirst 16 = .ok (.aload_n 0, 1) := by decide +kernel
theorem dX0_forgetFirst_17 : decode cX0_forgetFirst 17 = .ok (.getfield 17, 3) := by decide +kernel
theorem dX0_forgetFirst_20 : decode cX0_forgetFirst 20 = .ok (.iconst 0, 1) := by decide +kernel
theorem dX0_forgetFirst_21 : decode cX0_forgetFirst 21 = .ok (.aload_n 0, 1) := by decide +kernel
theorem dX0_forgetFirst_22 : decode cX0_forgetFirst 22 = .ok (.getfield 17, 3) := by decide +kernel
theorem dX0_forgetFirst_25 : decode cX0_forgetFirst 25 = .ok (.arraylength, 1) := by decide +kernel
theorem dX0_forgetFirst_26 : decode cX0_forgetFirst 26 = .ok (.bipush 30, 2) := by decide +kernel
theorem dX0_forgetFirst_28 : decode cX0_forgetFirst 28 = .ok (.isub, 1) := by decide +kernel
theorem dX0_forgetFirst_29 : decode cX0_forgetFirst 29 = .ok (.invokestatic 30, 3) := by decide +kernel
theorem dX0_forgetFirst_32 : decode cX0_forgetFirst 32 = .ok (.return_, 1) := by decide +kernel
theorem dX1_init_0 : decode cX1_init 0 = .ok (.aload_n 0, 1) := by decide +kernel
theorem dX1_init_1 : decode cX1_init 1 = .ok (.invokespecial 3, 3) := by decide +kernel
theorem dX1_init_4 : decode cX1_init 4 = .ok (.aload_n 0, 1) := by decide +kernel
theorem dX1_init_5 : decode cX1_init 5 = .ok (.iconst 5, 1) := by decide +kernel
theorem dX1_init_6 : decode cX1_init 6 = .ok (.newarray .int, 2) := by decide +kernel
theorem dX1_init_8 : decode cX1_init 8 = .ok (.putfield 9, 3) := by decide +kernel
theorem dX1_init_11 : decode cX1_init 11 = .ok (.aload_n 0, 1) := by decide +kernel
theorem dX1_init_12 : decode cX1_init 12 = .ok (.iconst 5, 1) := by decide +kernel
theorem dX1_init_13 : decode cX1_init 13 = .ok (.newarray .int, 2) := by decide +kernel
theorem dX1_init_15 : decode cX1_init 15 = .ok (.putfield 15, 3) := by decide +kernel
theorem dX1_init_18 : decode cX1_init 18 = .ok (.aload_n 0, 1) := by decide +kernel
theorem dX1_init_19 : decode cX1_init 19 = .ok (.iconst 5, 1) := by decide +kernel
theorem dX1_init_20 : decode cX1_init 20 = .ok (.newarray .int, 2) := by decide +kernel
theorem dX1_init_22 : decode cX1_init 22 = .ok (.putfield 18, 3) := by decide +kernel
theorem dX1_init_25 : decode cX1_init 25 = .ok (.aload_n 0, 1) := by decide +kernel
theorem dX1_init_26 : decode cX1_init 26 = .ok (.iconst 5, 1) := by decide +kernel
theorem dX1_init_27 : decode cX1_init 27 = .ok (.newarray .int, 2) := by decide +kernel
theorem dX1_init_29 : decode cX1_init 29 = .ok (.putfield 21, 3) := by decide +kernel
theorem dX1_init_32 : decode cX1_init 32 = .ok (.aload_n 0, 1) := by decide +kernel
theorem dX1_init_33 : decode cX1_init 33 = .ok (.iconst 5, 1) := by decide +kernel
theorem dX1_init_34 : decode cX1_init 34 = .ok (.newarray .int, 2) := by decide +kernel
theorem dX1_init_36 : decode cX1_init 36 = .ok (.putfield 24, 3) := by decide +kernel
theorem dX1_init_39 : decode cX1_init 39 = .ok (.aload_n 0, 1) := by decide +kernel
theorem dX1_init_40 : decode cX1_init 40 = .ok (.iconst 4, 1) := by decide +kernel
theorem dX1_init_41 : decode cX1_init 41 = .ok (.newarray .int, 2) := by decide +kernel
theorem dX1_init_43 : decode cX1_init 43 = .ok (.putfield 27, 3) := by decide +kernel
theorem dX1_init_46 : decode cX1_init 46 = .ok (.aload_n 0, 1) := by decide +kernel
theorem dX1_init_47 : decode cX1_init 47 = .ok (.iconst 4, 1) := by decide +kernel
theorem dX1_init_48 : decode cX1_init 48 = .ok (.newarray .int, 2) := by decide +kernel
theorem dX1_init_50 : decode cX1_init 50 = .ok (.putfield 30, 3) := by decide +kernel
theorem dX1_init_53 : decode cX1_init 53 = .ok (.aload_n 0, 1) := by decide +kernel
theorem dX1_init_54 : decode cX1_init 54 = .ok (.iconst 4, 1) := by decide +kernel
theorem dX1_init_55 : decode cX1_init 55 = .ok (.newarray .int, 2) := by decide +kernel
theorem dX1_init_57 : decode cX1_init 57 = .ok (.putfield 33, 3) := by decide +kernel
theorem dX1_init_60 : decode cX1_init 60 = .ok (.return_, 1) := by decide +kernel
theorem dX1_clear_0 : decode cX1_clear 0 = .ok (.aload_n 0, 1) := by decide +kernel
theorem dX1_clear_1 : decode cX1_clear 1 = .ok (.iconst 0, 1) := by decide +kernel
theorem dX1_clear_2 : decode cX1_clear 2 = .ok (.putfield 36, 3) := by decide +kernel
theorem dX1_clear_5 : decode cX1_clear 5 = .ok (.aload_n 0, 1) := by decide +kernel
theorem dX1_clear_6 : decode cX1_clear 6 = .ok (.iconst 0, 1) := by decide +kernel
theorem dX1_clear_7 : decode cX1_clear 7 = .ok (.putfield 40, 3) := by decide +kernel
theorem dX1_clear_10 : decode cX1_clear 10 = .ok (.aload_n 0, 1) := by decide +kernel
theorem dX1_clear_11 : decode cX1_clear 11 = .ok (.iconst 0, 1) := by decide +kernel
theorem dX1_clear_12 : decode cX1_clear 12 = .ok (.putfield 43, 3) := by decide +kernel
theorem dX1_clear_15 : decode cX1_clear 15 = .ok (.aload_n 0, 1) := by decide +kernel
theorem dX1_clear_16 : decode cX1_clear 16 = .ok (.iconst 0, 1) := by decide +kernel
theorem dX1_clear_17 : decode cX1_clear 17 = .ok (.putfield 46, 3) := by decide +kernel
theorem dX1_clear_20 : decode cX1_clear 20 = .ok (.aload_n 0, 1) := by decide +kernel
theorem dX1_clear_21 : decode cX1_clear 21 = .ok (.getfield 21, 3) := by decide +kernel
theorem dX1_clear_24 : decode cX1_clear 24 = .ok (.iconst 0, 1) := by decide +kernel
theorem dX1_clear_25 : decode cX1_clear 25 = .ok (.invokestatic 50, 3) := by decide +kernel
theorem dX1_clear_28 : decode cX1_clear 28 = .ok (.aload_n 0, 1) := by decide +kernel
theorem dX1_clear_29 : decode cX1_clear 29 = .ok (.getfield 24, 3) := by decide +kernel
theorem dX1_clear_32 : decode cX1_clear 32 = .ok (.bipush (-9), 2) := by decide +kernel
theorem dX1_clear_34 : decode cX1_clear 34 = .ok (.invokestatic 50, 3) := by decide +kernel
theorem dX1_clear_37 : decode cX1_clear 37 = .ok (.aload_n 0, 1) := by decide +kernel
theorem dX1_clear_38 : decode cX1_clear 38 = .ok (.getfield 33, 3) := by decide +kernel
theorem dX1_clear_41 : decode cX1_clear 41 = .ok (.iconst 0, 1) := by decide +kernel
theorem dX1_clear_42 : decode cX1_clear 42 = .ok (.invokestatic 50, 3) := by decide +kernel
theorem dX1_clear_45 : decode cX1_clear 45 = .ok (.return_, 1) := by decide +kernel
theorem dX1_copyFrom_0 : decode cX1_copyFrom 0 = .ok (.aload_n 0, 1) := by decide +kernel
theorem dX1_copyFrom_1 : decode cX1_copyFrom 1 = .ok (.aload_n 1, 1) := by decide +kernel
theorem dX1_copyFrom_2 : decode cX1_copyFrom 2 = .ok (.getfield 36, 3) := by decide +kernel
theorem dX1_copyFrom_5 : decode cX1_copyFrom 5 = .ok (.putfield 36, 3) := by decide +kernel
theorem dX1_copyFrom_8 : decode cX1_copyFrom 8 = .ok (.aload_n 0, 1) := by decide +kernel
theorem dX1_copyFrom_9 : decode cX1_copyFrom 9 = .ok (.aload_n 1, 1) := by decide +kernel
theorem dX1_copyFrom_10 : decode cX1_copyFrom 10 = .ok (.getfield 40, 3) := by decide +kernel
theorem dX1_copyFrom_13 : decode cX1_copyFrom 13 = .ok (.putfield 40, 3) := by decide +kernel
theorem dX1_copyFrom_16 : decode cX1_copyFrom 16 = .ok (.aload_n 0, 1) := by decide +kernel
theorem dX1_copyFrom_17 : decode cX1_copyFrom 17 = .ok (.aload_n 1, 1) := by decide +kernel
theorem dX1_copyFrom_18 : decode cX1_copyFrom 18 = .ok (.getfield 43, 3) := by decide +kernel
theorem dX1_copyFrom_21 : decode cX1_copyFrom 21 = .ok (.putfield 43, 3) := by decide +kernel
theorem dX1_copyFrom_24 : decode cX1_copyFrom 24 = .ok (.aload_n 0, 1) := by decide +kernel
theorem dX1_copyFrom_25 : decode cX1_copyFrom 25 = .ok (.aload_n 1, 1) := by decide +kernel
theorem dX1_copyFrom_26 : decode cX1_copyFrom 26 = .ok (.getfield 46, 3) := by decide +kernel
theorem dX1_copyFrom_29 : decode cX1_copyFrom 29 = .ok (.putfield 46, 3) := by decide +kernel
theorem dX1_copyFrom_32 : decode cX1_copyFrom 32 = .ok (.aload_n 1, 1) := by decide +kernel
theorem dX1_copyFrom_33 : decode cX1_copyFrom 33 = .ok (.getfield 9, 3) := by decide +kernel
theorem dX1_copyFrom_36 : decode cX1_copyFrom 36 = .ok (.iconst 0, 1) := by decide +kernel
theorem dX1_copyFrom_37 : decode cX1_copyFrom 37 = .ok (.aload_n 0, 1) := by decide +kernel
theorem dX1_copyFrom_38 : decode cX1_copyFrom 38 = .ok (.getfield 9, 3) := by decide +kernel
theorem dX1_copyFrom_41 : decode cX1_copyFrom 41 = .ok (.iconst 0, 1) := by decide +kernel
theorem dX1_copyFrom_42 : decode cX1_copyFrom 42 = .ok (.iconst 5, 1) := by decide +kernel
theorem dX1_copyFrom_43 : decode cX1_copyFrom 43 = .ok (.invokestatic 56, 3) := by decide +kernel
theorem dX1_copyFrom_46 : decode cX1_copyFrom 46 = .ok (.aload_n 1, 1) := by decide +kernel
theorem dX1_copyFrom_47 : decode cX1_copyFrom 47 = .ok (.getfield 15, 3) := by decide +kernel
theorem dX1_copyFrom_50 : decode cX1_copyFrom 50 = .ok (.iconst 0, 1) := by decide +kernel
theorem dX1_copyFrom_51 : decode cX1_copyFrom 51 = .ok (.aload_n 0, 1) := by decide +kernel
theorem dX1_copyFrom_52 : decode cX1_copyFrom 52 = .ok (.getfield 15, 3) := by decide +kernel
theorem dX1_copyFrom_55 : decode cX1_copyFrom 55 = .ok (.iconst 0, 1) := by decide +kernel
theorem dX1_copyFrom_56 : decode cX1_copyFrom 56 = .ok (.iconst 5, 1) := by decide +kernel
theorem dX1_copyFrom_57 : decode cX1_copyFrom 57 = .ok (.invokestatic 56, 3) := by decide +kernel
theorem dX1_copyFrom_60 : decode cX1_copyFrom 60 = .ok (.aload_n 1, 1) := by decide +kernel
theorem dX1_copyFrom_61 : decode cX1_copyFrom 61 = .ok (.getfield 18, 3) := by decide +kernel
theorem dX1_copyFrom_64 : decode cX1_copyFrom 64 = .ok (.iconst 0, 1) := by decide +kernel
theorem dX1_copyFrom_65 : decode cX1_copyFrom 65 = .ok (.aload_n 0, 1) := by decide +kernel
theorem dX1_copyFrom_66 : decode cX1_copyFrom 66 = .ok (.getfield 18, 3) := by decide +kernel
theorem dX1_copyFrom_69 : decode cX1_copyFrom 69 = .ok (.iconst 0, 1) := by decide +kernel
theorem dX1_copyFrom_70 : decode cX1_copyFrom 70 = .ok (.iconst 5, 1) := by decide +kernel
theorem dX1_copyFrom_71 : decode cX1_copyFrom 71 = .ok (.invokestatic 56, 3) := by decide +kernel
theorem dX1_copyFrom_74 : decode cX1_copyFrom 74 = .ok (.aload_n 1, 1) := by decide +kernel
theorem dX1_copyFrom_75 : decode cX1_copyFrom 75 = .ok (.getfield 21, 3) := by decide +kernel
theorem dX1_copyFrom_78 : decode cX1_copyFrom 78 = .ok (.iconst 0, 1) := by decide +kernel
theorem dX1_copyFrom_79 : decode cX1_copyFrom 79 = .ok (.aload_n 0, 1) := by decide +kernel
theorem dX1_copyFrom_80 : decode cX1_copyFrom 80 = .ok (.getfield 21, 3) := by decide +kernel
theorem dX1_copyFrom_83 : decode cX1_copyFrom 83 = .ok (.iconst 0, 1) := by decide +kernel
theorem dX1_copyFrom_84 : decode cX1_copyFrom 84 = .ok (.iconst 5, 1) := by decide +kernel
theorem dX1_copyFrom_85 : decode cX1_copyFrom 85 = .ok (.invokestatic 56, 3) := by decide +kernel
theorem dX1_copyFrom_88 : decode cX1_copyFrom 88 = .ok (.aload_n 1, 1) := by decide +kernel
theorem dX1_copyFrom_89 : decode cX1_copyFrom 89 = .ok (.getfield 24, 3) := by decide +kernel
theorem dX1_copyFrom_92 : decode cX1_copyFrom 92 = .ok (.iconst 0, 1) := by decide +kernel
theorem dX1_copyFrom_93 : decode cX1_copyFrom 93 = .ok (.aload_n 0, 1) := by decide +kernel
theorem dX1_copyFrom_94 : decode cX1_copyFrom 94 = .ok (.getfield 24, 3) := by decide +kernel
theorem dX1_copyFrom_97 : decode cX1_copyFrom 97 = .ok (.iconst 0, 1) := by decide +kernel
theorem dX1_copyFrom_98 : decode cX1_copyFrom 98 = .ok (.iconst 5, 1) := by decide +kernel
theorem dX1_copyFrom_99 : decode cX1_copyFrom 99 = .ok (.invokestatic 56, 3) := by decide +kernel
theorem dX1_copyFrom_102 : decode cX1_copyFrom 102 = .ok (.aload_n 1, 1) := by decide +kernel
theorem dX1_copyFrom_103 : decode cX1_copyFrom 103 = .ok (.getfield 27, 3) := by decide +kernel
theorem dX1_copyFrom_106 : decode cX1_copyFrom 106 = .ok (.iconst 0, 1) := by decide +kernel
theorem dX1_copyFrom_107 : decode cX1_copyFrom 107 = .ok (.aload_n 0, 1) := by decide +kernel
theorem dX1_copyFrom_108 : decode cX1_copyFrom 108 = .ok (.getfield 27, 3) := by decide +kernel
theorem dX1_copyFrom_111 : decode cX1_copyFrom 111 = .ok (.iconst 0, 1) := by decide +kernel
theorem dX1_copyFrom_112 : decode cX1_copyFrom 112 = .ok (.iconst 4, 1) := by decide +kernel
theorem dX1_copyFrom_113 : decode cX1_copyFrom 113 = .ok (.invokestatic 56, 3) := by decide +kernel
theorem dX1_copyFrom_116 : decode cX1_copyFrom 116 = .ok (.aload_n 1, 1) := by decide +kernel
theorem dX1_copyFrom_117 : decode cX1_copyFrom 117 = .ok (.getfield 30, 3) := by decide +kernel
theorem dX1_copyFrom_120 : decode cX1_copyFrom 120 = .ok (.iconst 0, 1) := by decide +kernel
theorem dX1_copyFrom_121 : decode cX1_copyFrom 121 = .ok (.aload_n 0, 1) := by decide +kernel
theorem dX1_copyFrom_122 : decode cX1_copyFrom 122 = .ok (.getfield 30, 3) := by decide +kernel
theorem dX1_copyFrom_125 : decode cX1_copyFrom 125 = .ok (.iconst 0, 1) := by decide +kernel
theorem dX1_copyFrom_126 : decode cX1_copyFrom 126 = .ok (.iconst 4, 1) := by decide +kernel
theorem dX1_copyFrom_127 : decode cX1_copyFrom 127 = .ok (.invokestatic 56, 3) := by decide +kernel
theorem dX1_copyFrom_130 : decode cX1_copyFrom 130 = .ok (.aload_n 1, 1) := by decide +kernel
theorem dX1_copyFrom_131 : decode cX1_copyFrom 131 = .ok (.getfield 33, 3) := by decide +kernel
theorem dX1_copyFrom_134 : decode cX1_copyFrom 134 = .ok (.iconst 0, 1) := by decide +kernel
theorem dX1_copyFrom_135 : decode cX1_copyFrom 135 = .ok (.aload_n 0, 1) := by decide +kernel
theorem dX1_copyFrom_136 : decode cX1_copyFrom 136 = .ok (.getfield 33, 3) := by decide +kernel
theorem dX1_copyFrom_139 : decode cX1_copyFrom 139 = .ok (.iconst 0, 1) := by decide +kernel
theorem dX1_copyFrom_140 : decode cX1_copyFrom 140 = .ok (.iconst 4, 1) := by decide +kernel
theorem dX1_copyFrom_141 : decode cX1_copyFrom 141 = .ok (.invokestatic 56, 3) := by decide +kernel
theorem dX1_copyFrom_144 : decode cX1_copyFrom 144 = .ok (.return_, 1) := by decide +kernel
theorem dX1_hasStamp_0 : decode cX1_hasStamp 0 = .ok (.iload_n 1, 1) := by decide +kernel
theorem dX1_hasStamp_1 : decode cX1_hasStamp 1 = .ok (.ifCond .lt 15, 3) := by decide +kernel
theorem dX1_hasStamp_4 : decode cX1_hasStamp 4 = .ok (.iload_n 1, 1) := by decide +kernel
theorem dX1_hasStamp_5 : decode cX1_hasStamp 5 = .ok (.aload_n 0, 1) := by decide +kernel
theorem dX1_hasStamp_6 : decode cX1_hasStamp 6 = .ok (.getfield 36, 3) := by decide +kernel
theorem dX1_hasStamp_9 : decode cX1_hasStamp 9 = .ok (.if_icmp .ge 7, 3) := by decide +kernel
theorem dX1_hasStamp_12 : decode cX1_hasStamp 12 = .ok (.iconst 1, 1) := by decide +kernel
theorem dX1_hasStamp_13 : decode cX1_hasStamp 13 = .ok (.goto 4, 3) := by decide +kernel
theorem dX1_hasStamp_16 : decode cX1_hasStamp 16 = .ok (.iconst 0, 1) := by decide +kernel
theorem dX1_hasStamp_17 : decode cX1_hasStamp 17 = .ok (.ireturn, 1) := by decide +kernel
theorem dX1_hasLetter_0 : decode cX1_hasLetter 0 = .ok (.iload_n 1, 1) := by decide +kernel
theorem dX1_hasLetter_1 : decode cX1_hasLetter 1 = .ok (.ifCond .lt 15, 3) := by decide +kernel
theorem dX1_hasLetter_4 : decode cX1_hasLetter 4 = .ok (.iload_n 1, 1) := by decide +kernel
theorem dX1_hasLetter_5 : decode cX1_hasLetter 5 = .ok (.aload_n 0, 1) := by decide +kernel
theorem dX1_hasLetter_6 : decode cX1_hasLetter 6 = .ok (.getfield 40, 3) := by decide +kernel
theorem dX1_hasLetter_9 : decode cX1_hasLetter 9 = .ok (.if_icmp .ge 7, 3) := by decide +kernel
theorem dX1_hasLetter_12 : decode cX1_hasLetter 12 = .ok (.iconst 1, 1) := by decide +kernel
theorem dX1_hasLetter_13 : decode cX1_hasLetter 13 = .ok (.goto 4, 3) := by decide +kernel
theorem dX1_hasLetter_16 : decode cX1_hasLetter 16 = .ok (.iconst 0, 1) := by decide +kernel
theorem dX1_hasLetter_17 : decode cX1_hasLetter 17 = .ok (.ireturn, 1) := by decide +kernel
theorem dX1_allBits_0 : decode cX1_allBits 0 = .ok (.iconst 1, 1) := by decide +kernel
theorem dX1_allBits_1 : decode cX1_allBits 1 = .ok (.aload_n 0, 1) := by decide +kernel
theorem dX1_allBits_2 : decode cX1_allBits 2 = .ok (.getfield 36, 3) := by decide +kernel
theorem dX1_allBits_5 : decode cX1_allBits 5 = .ok (.ishl, 1) := by decide +kernel
theorem dX1_allBits_6 : decode cX1_allBits 6 = .ok (.iconst 1, 1) := by decide +kernel
theorem dX1_allBits_7 : decode cX1_allBits 7 = .ok (.isub, 1) := by decide +kernel
theorem dX1_allBits_8 : decode cX1_allBits 8 = .ok (.ireturn, 1) := by decide +kernel
theorem dX1_addStamp_0 : decode cX1_addStamp 0 = .ok (.aload_n 0, 1) := by decide +kernel
theorem dX1_addStamp_1 : decode cX1_addStamp 1 = .ok (.getfield 36, 3) := by decide +kernel
theorem dX1_addStamp_4 : decode cX1_addStamp 4 = .ok (.iconst 5, 1) := by decide +kernel
theorem dX1_addStamp_5 : decode cX1_addStamp 5 = .ok (.if_icmp .ge 46, 3) := by decide +kernel
theorem dX1_addStamp_8 : decode cX1_addStamp 8 = .ok (.aload_n 0, 1) := by decide +kernel
theorem dX1_addStamp_9 : decode cX1_addStamp 9 = .ok (.getfield 9, 3) := by decide +kernel
theorem dX1_addStamp_12 : decode cX1_addStamp 12 = .ok (.aload_n 0, 1) := by decide +kernel
theorem dX1_addStamp_13 : decode cX1_addStamp 13 = .ok (.getfield 36, 3) := by decide +kernel
theorem dX1_addStamp_16 : decode cX1_addStamp 16 = .ok (.bipush 10, 2) := by decide +kernel
theorem dX1_addStamp_18 : decode cX1_addStamp 18 = .ok (.iload_n 1, 1) := by decide +kernel
theorem dX1_addStamp_19 : decode cX1_addStamp 19 = .ok (.imul, 1) := by decide +kernel
theorem dX1_addStamp_20 : decode cX1_addStamp 20 = .ok (.iastore, 1) := by decide +kernel
theorem dX1_addStamp_21 : decode cX1_addStamp 21 = .ok (.aload_n 0, 1) := by decide +kernel
theorem dX1_addStamp_22 : decode cX1_addStamp 22 = .ok (.getfield 15, 3) := by decide +kernel
theorem dX1_addStamp_25 : decode cX1_addStamp 25 = .ok (.aload_n 0, 1) := by decide +kernel
theorem dX1_addStamp_26 : decode cX1_addStamp 26 = .ok (.getfield 36, 3) := by decide +kernel
theorem dX1_addStamp_29 : decode cX1_addStamp 29 = .ok (.iload_n 2, 1) := by decide +kernel
theorem dX1_addStamp_30 : decode cX1_addStamp 30 = .ok (.iastore, 1) := by decide +kernel
theorem dX1_addStamp_31 : decode cX1_addStamp 31 = .ok (.aload_n 0, 1) := by decide +kernel
theorem dX1_addStamp_32 : decode cX1_addStamp 32 = .ok (.getfield 18, 3) := by decide +kernel
theorem dX1_addStamp_35 : decode cX1_addStamp 35 = .ok (.aload_n 0, 1) := by decide +kernel
theorem dX1_addStamp_36 : decode cX1_addStamp 36 = .ok (.getfield 36, 3) := by decide +kernel
theorem dX1_addStamp_39 : decode cX1_addStamp 39 = .ok (.iload_n 3, 1) := by decide +kernel
theorem dX1_addStamp_40 : decode cX1_addStamp 40 = .ok (.iastore, 1) := by decide +kernel
theorem dX1_addStamp_41 : decode cX1_addStamp 41 = .ok (.aload_n 0, 1) := by decide +kernel
theorem dX1_addStamp_42 : decode cX1_addStamp 42 = .ok (.dup, 1) := by decide +kernel
theorem dX1_addStamp_43 : decode cX1_addStamp 43 = .ok (.getfield 36, 3) := by decide +kernel
theorem dX1_addStamp_46 : decode cX1_addStamp 46 = .ok (.iconst 1, 1) := by decide +kernel
theorem dX1_addStamp_47 : decode cX1_addStamp 47 = .ok (.iadd, 1) := by decide +kernel
theorem dX1_addStamp_48 : decode cX1_addStamp 48 = .ok (.putfield 36, 3) := by decide +kernel
theorem dX1_addStamp_51 : decode cX1_addStamp 51 = .ok (.return_, 1) := by decide +kernel
theorem dX1_addLetter_0 : decode cX1_addLetter 0 = .ok (.aload_n 0, 1) := by decide +kernel
theorem dX1_addLetter_1 : decode cX1_addLetter 1 = .ok (.getfield 40, 3) := by decide +kernel
theorem dX1_addLetter_4 : decode cX1_addLetter 4 = .ok (.iconst 4, 1) := by decide +kernel
theorem dX1_addLetter_5 : decode cX1_addLetter 5 = .ok (.if_icmp .ge 33, 3) := by decide +kernel
theorem dX1_addLetter_8 : decode cX1_addLetter 8 = .ok (.aload_n 0, 1) := by decide +kernel
theorem dX1_addLetter_9 : decode cX1_addLetter 9 = .ok (.getfield 27, 3) := by decide +kernel
theorem dX1_addLetter_12 : decode cX1_addLetter 12 = .ok (.aload_n 0, 1) := by decide +kernel
theorem dX1_addLetter_13 : decode cX1_addLetter 13 = .ok (.getfield 40, 3) := by decide +kernel
theorem dX1_addLetter_16 : decode cX1_addLetter 16 = .ok (.iload_n 1, 1) := by decide +kernel
theorem dX1_addLetter_17 : decode cX1_addLetter 17 = .ok (.iastore, 1) := by decide +kernel
theorem dX1_addLetter_18 : decode cX1_addLetter 18 = .ok (.aload_n 0, 1) := by decide +kernel
theorem dX1_addLetter_19 : decode cX1_addLetter 19 = .ok (.getfield 30, 3) := by decide +kernel
theorem dX1_addLetter_22 : decode cX1_addLetter 22 = .ok (.aload_n 0, 1) := by decide +kernel
theorem dX1_addLetter_23 : decode cX1_addLetter 23 = .ok (.getfield 40, 3) := by decide +kernel
theorem dX1_addLetter_26 : decode cX1_addLetter 26 = .ok (.iload_n 2, 1) := by decide +kernel
theorem dX1_addLetter_27 : decode cX1_addLetter 27 = .ok (.iastore, 1) := by decide +kernel
theorem dX1_addLetter_28 : decode cX1_addLetter 28 = .ok (.aload_n 0, 1) := by decide +kernel
theorem dX1_addLetter_29 : decode cX1_addLetter 29 = .ok (.dup, 1) := by decide +kernel
theorem dX1_addLetter_30 : decode cX1_addLetter 30 = .ok (.getfield 40, 3) := by decide +kernel
theorem dX1_addLetter_33 : decode cX1_addLetter 33 = .ok (.iconst 1, 1) := by decide +kernel
theorem dX1_addLetter_34 : decode cX1_addLetter 34 = .ok (.iadd, 1) := by decide +kernel
theorem dX1_addLetter_35 : decode cX1_addLetter 35 = .ok (.putfield 40, 3) := by decide +kernel
theorem dX1_addLetter_38 : decode cX1_addLetter 38 = .ok (.return_, 1) := by decide +kernel
theorem dX1_joinTwo_0 : decode cX1_joinTwo 0 = .ok (.aload_n 0, 1) := by decide +kernel
theorem dX1_joinTwo_1 : decode cX1_joinTwo 1 = .ok (.getfield 21, 3) := by decide +kernel
theorem dX1_joinTwo_4 : decode cX1_joinTwo 4 = .ok (.iload_n 1, 1) := by decide +kernel
theorem dX1_joinTwo_5 : decode cX1_joinTwo 5 = .ok (.dup2, 1) := by decide +kernel
theorem dX1_joinTwo_6 : decode cX1_joinTwo 6 = .ok (.iaload, 1) := by decide +kernel
theorem dX1_joinTwo_7 : decode cX1_joinTwo 7 = .ok (.iconst 1, 1) := by decide +kernel
theorem dX1_joinTwo_8 : decode cX1_joinTwo 8 = .ok (.iload_n 2, 1) := by decide +kernel
theorem dX1_joinTwo_9 : decode cX1_joinTwo 9 = .ok (.ishl, 1) := by decide +kernel
theorem dX1_joinTwo_10 : decode cX1_joinTwo 10 = .ok (.ior, 1) := by decide +kernel
theorem dX1_joinTwo_11 : decode cX1_joinTwo 11 = .ok (.iastore, 1) := by decide +kernel
theorem dX1_joinTwo_12 : decode cX1_joinTwo 12 = .ok (.aload_n 0, 1) := by decide +kernel
theorem dX1_joinTwo_13 : decode cX1_joinTwo 13 = .ok (.getfield 21, 3) := by decide +kernel
theorem dX1_joinTwo_16 : decode cX1_joinTwo 16 = .ok (.iload_n 2, 1) := by decide +kernel
theorem dX1_joinTwo_17 : decode cX1_joinTwo 17 = .ok (.dup2, 1) := by decide +kernel
theorem dX1_joinTwo_18 : decode cX1_joinTwo 18 = .ok (.iaload, 1) := by decide +kernel
theorem dX1_joinTwo_19 : decode cX1_joinTwo 19 = .ok (.iconst 1, 1) := by decide +kernel
theorem dX1_joinTwo_20 : decode cX1_joinTwo 20 = .ok (.iload_n 1, 1) := by decide +kernel
theorem dX1_joinTwo_21 : decode cX1_joinTwo 21 = .ok (.ishl, 1) := by decide +kernel
theorem dX1_joinTwo_22 : decode cX1_joinTwo 22 = .ok (.ior, 1) := by decide +kernel
theorem dX1_joinTwo_23 : decode cX1_joinTwo 23 = .ok (.iastore, 1) := by decide +kernel
theorem dX1_joinTwo_24 : decode cX1_joinTwo 24 = .ok (.return_, 1) := by decide +kernel
theorem dX1_areJoined_0 : decode cX1_areJoined 0 = .ok (.aload_n 0, 1) := by decide +kernel
theorem dX1_areJoined_1 : decode cX1_areJoined 1 = .ok (.iload_n 1, 1) := by decide +kernel
theorem dX1_areJoined_2 : decode cX1_areJoined 2 = .ok (.invokevirtual 62, 3) := by decide +kernel
theorem dX1_areJoined_5 : decode cX1_areJoined 5 = .ok (.ifCond .eq 29, 3) := by decide +kernel
theorem dX1_areJoined_8 : decode cX1_areJoined 8 = .ok (.aload_n 0, 1) := by decide +kernel
theorem dX1_areJoined_9 : decode cX1_areJoined 9 = .ok (.iload_n 2, 1) := by decide +kernel
theorem dX1_areJoined_10 : decode cX1_areJoined 10 = .ok (.invokevirtual 62, 3) := by decide +kernel
theorem dX1_areJoined_13 : decode cX1_areJoined 13 = .ok (.ifCond .eq 21, 3) := by decide +kernel
theorem dX1_areJoined_16 : decode cX1_areJoined 16 = .ok (.aload_n 0, 1) := by decide +kernel
theorem dX1_areJoined_17 : decode cX1_areJoined 17 = .ok (.getfield 21, 3) := by decide +kernel
theorem dX1_areJoined_20 : decode cX1_areJoined 20 = .ok (.iload_n 1, 1) := by decide +kernel
theorem dX1_areJoined_21 : decode cX1_areJoined 21 = .ok (.iaload, 1) := by decide +kernel
theorem dX1_areJoined_22 : decode cX1_areJoined 22 = .ok (.iload_n 2, 1) := by decide +kernel
theorem dX1_areJoined_23 : decode cX1_areJoined 23 = .ok (.ishr, 1) := by decide +kernel
theorem dX1_areJoined_24 : decode cX1_areJoined 24 = .ok (.iconst 1, 1) := by decide +kernel
theorem dX1_areJoined_25 : decode cX1_areJoined 25 = .ok (.iand, 1) := by decide +kernel
theorem dX1_areJoined_26 : decode cX1_areJoined 26 = .ok (.iconst 1, 1) := by decide +kernel
theorem dX1_areJoined_27 : decode cX1_areJoined 27 = .ok (.if_icmp .ne 7, 3) := by decide +kernel
theorem dX1_areJoined_30 : decode cX1_areJoined 30 = .ok (.iconst 1, 1) := by decide +kernel
theorem dX1_areJoined_31 : decode cX1_areJoined 31 = .ok (.goto 4, 3) := by decide +kernel
theorem dX1_areJoined_34 : decode cX1_areJoined 34 = .ok (.iconst 0, 1) := by decide +kernel
theorem dX1_areJoined_35 : decode cX1_areJoined 35 = .ok (.ireturn, 1) := by decide +kernel
theorem dX1_canJoin_0 : decode cX1_canJoin 0 = .ok (.aload_n 0, 1) := by decide +kernel
theorem dX1_canJoin_1 : decode cX1_canJoin 1 = .ok (.iload_n 1, 1) := by decide +kernel
theorem dX1_canJoin_2 : decode cX1_canJoin 2 = .ok (.invokevirtual 62, 3) := by decide +kernel
theorem dX1_canJoin_5 : decode cX1_canJoin 5 = .ok (.ifCond .eq 29, 3) := by decide +kernel
theorem dX1_canJoin_8 : decode cX1_canJoin 8 = .ok (.aload_n 0, 1) := by decide +kernel
theorem dX1_canJoin_9 : decode cX1_canJoin 9 = .ok (.iload_n 2, 1) := by decide +kernel
theorem dX1_canJoin_10 : decode cX1_canJoin 10 = .ok (.invokevirtual 62, 3) := by decide +kernel
theorem dX1_canJoin_13 : decode cX1_canJoin 13 = .ok (.ifCond .eq 21, 3) := by decide +kernel
theorem dX1_canJoin_16 : decode cX1_canJoin 16 = .ok (.iload_n 1, 1) := by decide +kernel
theorem dX1_canJoin_17 : decode cX1_canJoin 17 = .ok (.iload_n 2, 1) := by decide +kernel
theorem dX1_canJoin_18 : decode cX1_canJoin 18 = .ok (.if_icmp .eq 16, 3) := by decide +kernel
theorem dX1_canJoin_21 : decode cX1_canJoin 21 = .ok (.aload_n 0, 1) := by decide +kernel
theorem dX1_canJoin_22 : decode cX1_canJoin 22 = .ok (.iload_n 1, 1) := by decide +kernel
theorem dX1_canJoin_23 : decode cX1_canJoin 23 = .ok (.iload_n 2, 1) := by decide +kernel
theorem dX1_canJoin_24 : decode cX1_canJoin 24 = .ok (.invokevirtual 66, 3) := by decide +kernel
theorem dX1_canJoin_27 : decode cX1_canJoin 27 = .ok (.ifCond .ne 7, 3) := by decide +kernel
theorem dX1_canJoin_30 : decode cX1_canJoin 30 = .ok (.iconst 1, 1) := by decide +kernel
theorem dX1_canJoin_31 : decode cX1_canJoin 31 = .ok (.goto 4, 3) := by decide +kernel
theorem dX1_canJoin_34 : decode cX1_canJoin 34 = .ok (.iconst 0, 1) := by decide +kernel
theorem dX1_canJoin_35 : decode cX1_canJoin 35 = .ok (.ireturn, 1) := by decide +kernel
theorem dX1_canJoinSome_0 : decode cX1_canJoinSome 0 = .ok (.aload_n 0, 1) := by decide +kernel
theorem dX1_canJoinSome_1 : decode cX1_canJoinSome 1 = .ok (.iload_n 1, 1) := by decide +kernel
theorem dX1_canJoinSome_2 : decode cX1_canJoinSome 2 = .ok (.invokevirtual 62, 3) := by decide +kernel
theorem dX1_canJoinSome_5 : decode cX1_canJoinSome 5 = .ok (.ifCond .eq 24, 3) := by decide +kernel
theorem dX1_canJoinSome_8 : decode cX1_canJoinSome 8 = .ok (.aload_n 0, 1) := by decide +kernel
theorem dX1_canJoinSome_9 : decode cX1_canJoinSome 9 = .ok (.getfield 21, 3) := by decide +kernel
theorem dX1_canJoinSome_12 : decode cX1_canJoinSome 12 = .ok (.iload_n 1, 1) := by decide +kernel
theorem dX1_canJoinSome_13 : decode cX1_canJoinSome 13 = .ok (.iaload, 1) := by decide +kernel
theorem dX1_canJoinSome_14 : decode cX1_canJoinSome 14 = .ok (.iconst 1, 1) := by decide +kernel
theorem dX1_canJoinSome_15 : decode cX1_canJoinSome 15 = .ok (.iload_n 1, 1) := by decide +kernel
theorem dX1_canJoinSome_16 : decode cX1_canJoinSome 16 = .ok (.ishl, 1) := by decide +kernel
theorem dX1_canJoinSome_17 : decode cX1_canJoinSome 17 = .ok (.ior, 1) := by decide +kernel
theorem dX1_canJoinSome_18 : decode cX1_canJoinSome 18 = .ok (.aload_n 0, 1) := by decide +kernel
theorem dX1_canJoinSome_19 : decode cX1_canJoinSome 19 = .ok (.invokevirtual 70, 3) := by decide +kernel
theorem dX1_canJoinSome_22 : decode cX1_canJoinSome 22 = .ok (.if_icmp .eq 7, 3) := by decide +kernel
theorem dX1_canJoinSome_25 : decode cX1_canJoinSome 25 = .ok (.iconst 1, 1) := by decide +kernel
theorem dX1_canJoinSome_26 : decode cX1_canJoinSome 26 = .ok (.goto 4, 3) := by decide +kernel
theorem dX1_canJoinSome_29 : decode cX1_canJoinSome 29 = .ok (.iconst 0, 1) := by decide +kernel
theorem dX1_canJoinSome_30 : decode cX1_canJoinSome 30 = .ok (.ireturn, 1) := by decide +kernel
theorem dX1_canJoinAny_0 : decode cX1_canJoinAny 0 = .ok (.iconst 0, 1) := by decide +kernel
theorem dX1_canJoinAny_1 : decode cX1_canJoinAny 1 = .ok (.istore_n 1, 1) := by decide +kernel
theorem dX1_canJoinAny_2 : decode cX1_canJoinAny 2 = .ok (.iload_n 1, 1) := by decide +kernel
theorem dX1_canJoinAny_3 : decode cX1_canJoinAny 3 = .ok (.aload_n 0, 1) := by decide +kernel
theorem dX1_canJoinAny_4 : decode cX1_canJoinAny 4 = .ok (.getfield 36, 3) := by decide +kernel
theorem dX1_canJoinAny_7 : decode cX1_canJoinAny 7 = .ok (.if_icmp .ge 19, 3) := by decide +kernel
theorem dX1_canJoinAny_10 : decode cX1_canJoinAny 10 = .ok (.aload_n 0, 1) := by decide +kernel
theorem dX1_canJoinAny_11 : decode cX1_canJoinAny 11 = .ok (.iload_n 1, 1) := by decide +kernel
theorem dX1_canJoinAny_12 : decode cX1_canJoinAny 12 = .ok (.invokevirtual 74, 3) := by decide +kernel
theorem dX1_canJoinAny_15 : decode cX1_canJoinAny 15 = .ok (.ifCond .eq 5, 3) := by decide +kernel
theorem dX1_canJoinAny_18 : decode cX1_canJoinAny 18 = .ok (.iconst 1, 1) := by decide +kernel
theorem dX1_canJoinAny_19 : decode cX1_canJoinAny 19 = .ok (.ireturn, 1) := by decide +kernel
theorem dX1_canJoinAny_20 : decode cX1_canJoinAny 20 = .ok (.iinc 1 1, 3) := by decide +kernel
theorem dX1_canJoinAny_23 : decode cX1_canJoinAny 23 = .ok (.goto (-21), 3) := by decide +kernel
theorem dX1_canJoinAny_26 : decode cX1_canJoinAny 26 = .ok (.iconst 0, 1) := by decide +kernel
theorem dX1_canJoinAny_27 : decode cX1_canJoinAny 27 = .ok (.ireturn, 1) := by decide +kernel
theorem dX1_joinedToAny_0 : decode cX1_joinedToAny 0 = .ok (.iconst 0, 1) := by decide +kernel
theorem dX1_joinedToAny_1 : decode cX1_joinedToAny 1 = .ok (.istore_n 2, 1) := by decide +kernel
theorem dX1_joinedToAny_2 : decode cX1_joinedToAny 2 = .ok (.iconst 0, 1) := by decide +kernel
theorem dX1_joinedToAny_3 : decode cX1_joinedToAny 3 = .ok (.istore_n 3, 1) := by decide +kernel
theorem dX1_joinedToAny_4 : decode cX1_joinedToAny 4 = .ok (.iload_n 3, 1) := by decide +kernel
theorem dX1_joinedToAny_5 : decode cX1_joinedToAny 5 = .ok (.aload_n 0, 1) := by decide +kernel
theorem dX1_joinedToAny_6 : decode cX1_joinedToAny 6 = .ok (.getfield 36, 3) := by decide +kernel
theorem dX1_joinedToAny_9 : decode cX1_joinedToAny 9 = .ok (.if_icmp .ge 27, 3) := by decide +kernel
theorem dX1_joinedToAny_12 : decode cX1_joinedToAny 12 = .ok (.iload_n 1, 1) := by decide +kernel
theorem dX1_joinedToAny_13 : decode cX1_joinedToAny 13 = .ok (.iload_n 3, 1) := by decide +kernel
theorem dX1_joinedToAny_14 : decode cX1_joinedToAny 14 = .ok (.ishr, 1) := by decide +kernel
theorem dX1_joinedToAny_15 : decode cX1_joinedToAny 15 = .ok (.iconst 1, 1) := by decide +kernel
theorem dX1_joinedToAny_16 : decode cX1_joinedToAny 16 = .ok (.iand, 1) := by decide +kernel
theorem dX1_joinedToAny_17 : decode cX1_joinedToAny 17 = .ok (.iconst 1, 1) := by decide +kernel
theorem dX1_joinedToAny_18 : decode cX1_joinedToAny 18 = .ok (.if_icmp .ne 12, 3) := by decide +kernel
theorem dX1_joinedToAny_21 : decode cX1_joinedToAny 21 = .ok (.iload_n 2, 1) := by decide +kernel
theorem dX1_joinedToAny_22 : decode cX1_joinedToAny 22 = .ok (.aload_n 0, 1) := by decide +kernel
theorem dX1_joinedToAny_23 : decode cX1_joinedToAny 23 = .ok (.getfield 21, 3) := by decide +kernel
theorem dX1_joinedToAny_26 : decode cX1_joinedToAny 26 = .ok (.iload_n 3, 1) := by decide +kernel
theorem dX1_joinedToAny_27 : decode cX1_joinedToAny 27 = .ok (.iaload, 1) := by decide +kernel
theorem dX1_joinedToAny_28 : decode cX1_joinedToAny 28 = .ok (.ior, 1) := by decide +kernel
theorem dX1_joinedToAny_29 : decode cX1_joinedToAny 29 = .ok (.istore_n 2, 1) := by decide +kernel
theorem dX1_joinedToAny_30 : decode cX1_joinedToAny 30 = .ok (.iinc 3 1, 3) := by decide +kernel
theorem dX1_joinedToAny_33 : decode cX1_joinedToAny 33 = .ok (.goto (-29), 3) := by decide +kernel
theorem dX1_joinedToAny_36 : decode cX1_joinedToAny 36 = .ok (.iload_n 2, 1) := by decide +kernel
theorem dX1_joinedToAny_37 : decode cX1_joinedToAny 37 = .ok (.ireturn, 1) := by decide +kernel
theorem dX1_span_0 : decode cX1_span 0 = .ok (.aload_n 0, 1) := by decide +kernel
theorem dX1_span_1 : decode cX1_span 1 = .ok (.getfield 18, 3) := by decide +kernel
theorem dX1_span_4 : decode cX1_span 4 = .ok (.iload_n 1, 1) := by decide +kernel
theorem dX1_span_5 : decode cX1_span 5 = .ok (.iaload, 1) := by decide +kernel
theorem dX1_span_6 : decode cX1_span 6 = .ok (.iconst 1, 1) := by decide +kernel
theorem dX1_span_7 : decode cX1_span 7 = .ok (.if_icmp .ne 8, 3) := by decide +kernel
theorem dX1_span_10 : decode cX1_span 10 = .ok (.bipush 10, 2) := by decide +kernel
theorem dX1_span_12 : decode cX1_span 12 = .ok (.goto 19, 3) := by decide +kernel
theorem dX1_span_15 : decode cX1_span 15 = .ok (.aload_n 0, 1) := by decide +kernel
theorem dX1_span_16 : decode cX1_span 16 = .ok (.getfield 18, 3) := by decide +kernel
theorem dX1_span_19 : decode cX1_span 19 = .ok (.iload_n 1, 1) := by decide +kernel
theorem dX1_span_20 : decode cX1_span 20 = .ok (.iaload, 1) := by decide +kernel
theorem dX1_span_21 : decode cX1_span 21 = .ok (.iconst 2, 1) := by decide +kernel
theorem dX1_span_22 : decode cX1_span 22 = .ok (.if_icmp .ne 8, 3) := by decide +kernel
theorem dX1_span_25 : decode cX1_span 25 = .ok (.bipush 15, 2) := by decide +kernel
theorem dX1_span_27 : decode cX1_span 27 = .ok (.goto 4, 3) := by decide +kernel
theorem dX1_span_30 : decode cX1_span 30 = .ok (.iconst 0, 1) := by decide +kernel
theorem dX1_span_31 : decode cX1_span 31 = .ok (.istore_n 2, 1) := by decide +kernel
theorem dX1_span_32 : decode cX1_span 32 = .ok (.bipush 60, 2) := by decide +kernel
theorem dX1_span_34 : decode cX1_span 34 = .ok (.iconst 3, 1) := by decide +kernel
theorem dX1_span_35 : decode cX1_span 35 = .ok (.aload_n 0, 1) := by decide +kernel
theorem dX1_span_36 : decode cX1_span 36 = .ok (.getfield 15, 3) := by decide +kernel
theorem dX1_span_39 : decode cX1_span 39 = .ok (.iload_n 1, 1) := by decide +kernel
theorem dX1_span_40 : decode cX1_span 40 = .ok (.iaload, 1) := by decide +kernel
theorem dX1_span_41 : decode cX1_span 41 = .ok (.imul, 1) := by decide +kernel
theorem dX1_span_42 : decode cX1_span 42 = .ok (.iadd, 1) := by decide +kernel
theorem dX1_span_43 : decode cX1_span 43 = .ok (.iload_n 2, 1) := by decide +kernel
theorem dX1_span_44 : decode cX1_span 44 = .ok (.iadd, 1) := by decide +kernel
theorem dX1_span_45 : decode cX1_span 45 = .ok (.ireturn, 1) := by decide +kernel
theorem dX1_isAlive_0 : decode cX1_isAlive 0 = .ok (.aload_n 0, 1) := by decide +kernel
theorem dX1_isAlive_1 : decode cX1_isAlive 1 = .ok (.getfield 9, 3) := by decide +kernel
theorem dX1_isAlive_4 : decode cX1_isAlive 4 = .ok (.iload_n 1, 1) := by decide +kernel
theorem dX1_isAlive_5 : decode cX1_isAlive 5 = .ok (.iaload, 1) := by decide +kernel
theorem dX1_isAlive_6 : decode cX1_isAlive 6 = .ok (.aload_n 0, 1) := by decide +kernel
theorem dX1_isAlive_7 : decode cX1_isAlive 7 = .ok (.iload_n 1, 1) := by decide +kernel
theorem dX1_isAlive_8 : decode cX1_isAlive 8 = .ok (.invokevirtual 77, 3) := by decide +kernel
theorem dX1_isAlive_11 : decode cX1_isAlive 11 = .ok (.if_icmp .ge 7, 3) := by decide +kernel
theorem dX1_isAlive_14 : decode cX1_isAlive 14 = .ok (.iconst 1, 1) := by decide +kernel
theorem dX1_isAlive_15 : decode cX1_isAlive 15 = .ok (.goto 4, 3) := by decide +kernel
theorem dX1_isAlive_18 : decode cX1_isAlive 18 = .ok (.iconst 0, 1) := by decide +kernel
theorem dX1_isAlive_19 : decode cX1_isAlive 19 = .ok (.ireturn, 1) := by decide +kernel
theorem dX1_rate_0 : decode cX1_rate 0 = .ok (.aload_n 0, 1) := by decide +kernel
theorem dX1_rate_1 : decode cX1_rate 1 = .ok (.getfield 18, 3) := by decide +kernel
theorem dX1_rate_4 : decode cX1_rate 4 = .ok (.iload_n 1, 1) := by decide +kernel
theorem dX1_rate_5 : decode cX1_rate 5 = .ok (.iaload, 1) := by decide +kernel
theorem dX1_rate_6 : decode cX1_rate 6 = .ok (.tableswitch 62 0 2 #[26, 43, 45], 26) := by decide +kernel
theorem dX1_rate_32 : decode cX1_rate 32 = .ok (.bipush 9, 2) := by decide +kernel
theorem dX1_rate_34 : decode cX1_rate 34 = .ok (.iconst 2, 1) := by decide +kernel
theorem dX1_rate_35 : decode cX1_rate 35 = .ok (.aload_n 0, 1) := by decide +kernel
theorem dX1_rate_36 : decode cX1_rate 36 = .ok (.getfield 9, 3) := by decide +kernel
theorem dX1_rate_39 : decode cX1_rate 39 = .ok (.iload_n 1, 1) := by decide +kernel
theorem dX1_rate_40 : decode cX1_rate 40 = .ok (.iaload, 1) := by decide +kernel
theorem dX1_rate_41 : decode cX1_rate 41 = .ok (.bipush 20, 2) := by decide +kernel
theorem dX1_rate_43 : decode cX1_rate 43 = .ok (.idiv, 1) := by decide +kernel
theorem dX1_rate_44 : decode cX1_rate 44 = .ok (.iadd, 1) := by decide +kernel
theorem dX1_rate_45 : decode cX1_rate 45 = .ok (.invokestatic 81, 3) := by decide +kernel
theorem dX1_rate_48 : decode cX1_rate 48 = .ok (.ireturn, 1) := by decide +kernel
theorem dX1_rate_49 : decode cX1_rate 49 = .ok (.iconst 1, 1) := by decide +kernel
theorem dX1_rate_50 : decode cX1_rate 50 = .ok (.ireturn, 1) := by decide +kernel
theorem dX1_rate_51 : decode cX1_rate 51 = .ok (.bipush 9, 2) := by decide +kernel
theorem dX1_rate_53 : decode cX1_rate 53 = .ok (.iconst 2, 1) := by decide +kernel
theorem dX1_rate_54 : decode cX1_rate 54 = .ok (.aload_n 0, 1) := by decide +kernel
theorem dX1_rate_55 : decode cX1_rate 55 = .ok (.getfield 9, 3) := by decide +kernel
theorem dX1_rate_58 : decode cX1_rate 58 = .ok (.iload_n 1, 1) := by decide +kernel
theorem dX1_rate_59 : decode cX1_rate 59 = .ok (.iaload, 1) := by decide +kernel
theorem dX1_rate_60 : decode cX1_rate 60 = .ok (.bipush 10, 2) := by decide +kernel
theorem dX1_rate_62 : decode cX1_rate 62 = .ok (.idiv, 1) := by decide +kernel
theorem dX1_rate_63 : decode cX1_rate 63 = .ok (.iadd, 1) := by decide +kernel
theorem dX1_rate_64 : decode cX1_rate 64 = .ok (.invokestatic 81, 3) := by decide +kernel
theorem dX1_rate_67 : decode cX1_rate 67 = .ok (.ireturn, 1) := by decide +kernel
theorem dX1_rate_68 : decode cX1_rate 68 = .ok (.iconst 0, 1) := by decide +kernel
theorem dX1_rate_69 : decode cX1_rate 69 = .ok (.ireturn, 1) := by decide +kernel
theorem dX1_aliveBits_0 : decode cX1_aliveBits 0 = .ok (.iconst 0, 1) := by decide +kernel
theorem dX1_aliveBits_1 : decode cX1_aliveBits 1 = .ok (.istore_n 1, 1) := by decide +kernel
theorem dX1_aliveBits_2 : decode cX1_aliveBits 2 = .ok (.iconst 0, 1) := by decide +kernel
theorem dX1_aliveBits_3 : decode cX1_aliveBits 3 = .ok (.istore_n 2, 1) := by decide +kernel
theorem dX1_aliveBits_4 : decode cX1_aliveBits 4 = .ok (.iload_n 2, 1) := by decide +kernel
theorem dX1_aliveBits_5 : decode cX1_aliveBits 5 = .ok (.aload_n 0, 1) := by decide +kernel
theorem dX1_aliveBits_6 : decode cX1_aliveBits 6 = .ok (.getfield 36, 3) := by decide +kernel
theorem dX1_aliveBits_9 : decode cX1_aliveBits 9 = .ok (.if_icmp .ge 27, 3) := by decide +kernel
theorem dX1_aliveBits_12 : decode cX1_aliveBits 12 = .ok (.iload_n 1, 1) := by decide +kernel
theorem dX1_aliveBits_13 : decode cX1_aliveBits 13 = .ok (.aload_n 0, 1) := by decide +kernel
theorem dX1_aliveBits_14 : decode cX1_aliveBits 14 = .ok (.iload_n 2, 1) := by decide +kernel
theorem dX1_aliveBits_15 : decode cX1_aliveBits 15 = .ok (.invokevirtual 87, 3) := by decide +kernel
theorem dX1_aliveBits_18 : decode cX1_aliveBits 18 = .ok (.ifCond .eq 9, 3) := by decide +kernel
theorem dX1_aliveBits_21 : decode cX1_aliveBits 21 = .ok (.iconst 1, 1) := by decide +kernel
theorem dX1_aliveBits_22 : decode cX1_aliveBits 22 = .ok (.iload_n 2, 1) := by decide +kernel
theorem dX1_aliveBits_23 : decode cX1_aliveBits 23 = .ok (.ishl, 1) := by decide +kernel
theorem dX1_aliveBits_24 : decode cX1_aliveBits 24 = .ok (.goto 4, 3) := by decide +kernel
theorem dX1_aliveBits_27 : decode cX1_aliveBits 27 = .ok (.iconst 0, 1) := by decide +kernel
theorem dX1_aliveBits_28 : decode cX1_aliveBits 28 = .ok (.ior, 1) := by decide +kernel
theorem dX1_aliveBits_29 : decode cX1_aliveBits 29 = .ok (.istore_n 1, 1) := by decide +kernel
theorem dX1_aliveBits_30 : decode cX1_aliveBits 30 = .ok (.iinc 2 1, 3) := by decide +kernel
theorem dX1_aliveBits_33 : decode cX1_aliveBits 33 = .ok (.goto (-29), 3) := by decide +kernel
theorem dX1_aliveBits_36 : decode cX1_aliveBits 36 = .ok (.iload_n 1, 1) := by decide +kernel
theorem dX1_aliveBits_37 : decode cX1_aliveBits 37 = .ok (.ireturn, 1) := by decide +kernel
theorem dX1_widowBits_0 : decode cX1_widowBits 0 = .ok (.aload_n 0, 1) := by decide +kernel
theorem dX1_widowBits_1 : decode cX1_widowBits 1 = .ok (.invokevirtual 90, 3) := by decide +kernel
theorem dX1_widowBits_4 : decode cX1_widowBits 4 = .ok (.istore_n 1, 1) := by decide +kernel
theorem dX1_widowBits_5 : decode cX1_widowBits 5 = .ok (.iconst 0, 1) := by decide +kernel
theorem dX1_widowBits_6 : decode cX1_widowBits 6 = .ok (.istore_n 2, 1) := by decide +kernel
theorem dX1_widowBits_7 : decode cX1_widowBits 7 = .ok (.iconst 0, 1) := by decide +kernel
theorem dX1_widowBits_8 : decode cX1_widowBits 8 = .ok (.istore_n 3, 1) := by decide +kernel
theorem dX1_widowBits_9 : decode cX1_widowBits 9 = .ok (.iload_n 3, 1) := by decide +kernel
theorem dX1_widowBits_10 : decode cX1_widowBits 10 = .ok (.aload_n 0, 1) := by decide +kernel
theorem dX1_widowBits_11 : decode cX1_widowBits 11 = .ok (.getfield 36, 3) := by decide +kernel
theorem dX1_widowBits_14 : decode cX1_widowBits 14 = .ok (.if_icmp .ge 53, 3) := by decide +kernel
theorem dX1_widowBits_17 : decode cX1_widowBits 17 = .ok (.iload_n 1, 1) := by decide +kernel
theorem dX1_widowBits_18 : decode cX1_widowBits 18 = .ok (.iload_n 3, 1) := by decide +kernel
theorem dX1_widowBits_19 : decode cX1_widowBits 19 = .ok (.ishr, 1) := by decide +kernel
theorem dX1_widowBits_20 : decode cX1_widowBits 20 = .ok (.iconst 1, 1) := by decide +kernel
theorem dX1_widowBits_21 : decode cX1_widowBits 21 = .ok (.iand, 1) := by decide +kernel
theorem dX1_widowBits_22 : decode cX1_widowBits 22 = .ok (.iconst 1, 1) := by decide +kernel
theorem dX1_widowBits_23 : decode cX1_widowBits 23 = .ok (.if_icmp .ne 20, 3) := by decide +kernel
theorem dX1_widowBits_26 : decode cX1_widowBits 26 = .ok (.aload_n 0, 1) := by decide +kernel
theorem dX1_widowBits_27 : decode cX1_widowBits 27 = .ok (.getfield 21, 3) := by decide +kernel
theorem dX1_widowBits_30 : decode cX1_widowBits 30 = .ok (.iload_n 3, 1) := by decide +kernel
theorem dX1_widowBits_31 : decode cX1_widowBits 31 = .ok (.iaload, 1) := by decide +kernel
theorem dX1_widowBits_32 : decode cX1_widowBits 32 = .ok (.iload_n 1, 1) := by decide +kernel
theorem dX1_widowBits_33 : decode cX1_widowBits 33 = .ok (.iconst (-1), 1) := by decide +kernel
theorem dX1_widowBits_34 : decode cX1_widowBits 34 = .ok (.ixor, 1) := by decide +kernel
theorem dX1_widowBits_35 : decode cX1_widowBits 35 = .ok (.iand, 1) := by decide +kernel
theorem dX1_widowBits_36 : decode cX1_widowBits 36 = .ok (.ifCond .eq 7, 3) := by decide +kernel
theorem dX1_widowBits_39 : decode cX1_widowBits 39 = .ok (.iconst 1, 1) := by decide +kernel
theorem dX1_widowBits_40 : decode cX1_widowBits 40 = .ok (.goto 4, 3) := by decide +kernel
theorem dX1_widowBits_43 : decode cX1_widowBits 43 = .ok (.iconst 0, 1) := by decide +kernel
theorem dX1_widowBits_44 : decode cX1_widowBits 44 = .ok (.istore 4, 2) := by decide +kernel
theorem dX1_widowBits_46 : decode cX1_widowBits 46 = .ok (.iload_n 2, 1) := by decide +kernel
theorem dX1_widowBits_47 : decode cX1_widowBits 47 = .ok (.iload 4, 2) := by decide +kernel
theorem dX1_widowBits_49 : decode cX1_widowBits 49 = .ok (.ifCond .eq 9, 3) := by decide +kernel
theorem dX1_widowBits_52 : decode cX1_widowBits 52 = .ok (.iconst 1, 1) := by decide +kernel
theorem dX1_widowBits_53 : decode cX1_widowBits 53 = .ok (.iload_n 3, 1) := by decide +kernel
theorem dX1_widowBits_54 : decode cX1_widowBits 54 = .ok (.ishl, 1) := by decide +kernel
theorem dX1_widowBits_55 : decode cX1_widowBits 55 = .ok (.goto 4, 3) := by decide +kernel
theorem dX1_widowBits_58 : decode cX1_widowBits 58 = .ok (.iconst 0, 1) := by decide +kernel
theorem dX1_widowBits_59 : decode cX1_widowBits 59 = .ok (.ior, 1) := by decide +kernel
theorem dX1_widowBits_60 : decode cX1_widowBits 60 = .ok (.istore_n 2, 1) := by decide +kernel
theorem dX1_widowBits_61 : decode cX1_widowBits 61 = .ok (.iinc 3 1, 3) := by decide +kernel
theorem dX1_widowBits_64 : decode cX1_widowBits 64 = .ok (.goto (-55), 3) := by decide +kernel
theorem dX1_widowBits_67 : decode cX1_widowBits 67 = .ok (.iload_n 2, 1) := by decide +kernel
theorem dX1_widowBits_68 : decode cX1_widowBits 68 = .ok (.ireturn, 1) := by decide +kernel
theorem dX1_freeBits_0 : decode cX1_freeBits 0 = .ok (.iconst 0, 1) := by decide +kernel
theorem dX1_freeBits_1 : decode cX1_freeBits 1 = .ok (.istore_n 1, 1) := by decide +kernel
theorem dX1_freeBits_2 : decode cX1_freeBits 2 = .ok (.iconst 0, 1) := by decide +kernel
theorem dX1_freeBits_3 : decode cX1_freeBits 3 = .ok (.istore_n 2, 1) := by decide +kernel
theorem dX1_freeBits_4 : decode cX1_freeBits 4 = .ok (.iload_n 2, 1) := by decide +kernel
theorem dX1_freeBits_5 : decode cX1_freeBits 5 = .ok (.aload_n 0, 1) := by decide +kernel
theorem dX1_freeBits_6 : decode cX1_freeBits 6 = .ok (.getfield 36, 3) := by decide +kernel
theorem dX1_freeBits_9 : decode cX1_freeBits 9 = .ok (.if_icmp .ge 38, 3) := by decide +kernel
theorem dX1_freeBits_12 : decode cX1_freeBits 12 = .ok (.iload_n 1, 1) := by decide +kernel
theorem dX1_freeBits_13 : decode cX1_freeBits 13 = .ok (.aload_n 0, 1) := by decide +kernel
theorem dX1_freeBits_14 : decode cX1_freeBits 14 = .ok (.iload_n 2, 1) := by decide +kernel
theorem dX1_freeBits_15 : decode cX1_freeBits 15 = .ok (.invokevirtual 87, 3) := by decide +kernel
theorem dX1_freeBits_18 : decode cX1_freeBits 18 = .ok (.ifCond .eq 20, 3) := by decide +kernel
theorem dX1_freeBits_21 : decode cX1_freeBits 21 = .ok (.aload_n 0, 1) := by decide +kernel
theorem dX1_freeBits_22 : decode cX1_freeBits 22 = .ok (.getfield 24, 3) := by decide +kernel
theorem dX1_freeBits_25 : decode cX1_freeBits 25 = .ok (.iload_n 2, 1) := by decide +kernel
theorem dX1_freeBits_26 : decode cX1_freeBits 26 = .ok (.iaload, 1) := by decide +kernel
theorem dX1_freeBits_27 : decode cX1_freeBits 27 = .ok (.bipush (-9), 2) := by decide +kernel
theorem dX1_freeBits_29 : decode cX1_freeBits 29 = .ok (.if_icmp .ne 9, 3) := by decide +kernel
theorem dX1_freeBits_32 : decode cX1_freeBits 32 = .ok (.iconst 1, 1) := by decide +kernel
theorem dX1_freeBits_33 : decode cX1_freeBits 33 = .ok (.iload_n 2, 1) := by decide +kernel
theorem dX1_freeBits_34 : decode cX1_freeBits 34 = .ok (.ishl, 1) := by decide +kernel
theorem dX1_freeBits_35 : decode cX1_freeBits 35 = .ok (.goto 4, 3) := by decide +kernel
theorem dX1_freeBits_38 : decode cX1_freeBits 38 = .ok (.iconst 0, 1) := by decide +kernel
theorem dX1_freeBits_39 : decode cX1_freeBits 39 = .ok (.ior, 1) := by decide +kernel
theorem dX1_freeBits_40 : decode cX1_freeBits 40 = .ok (.istore_n 1, 1) := by decide +kernel
theorem dX1_freeBits_41 : decode cX1_freeBits 41 = .ok (.iinc 2 1, 3) := by decide +kernel
theorem dX1_freeBits_44 : decode cX1_freeBits 44 = .ok (.goto (-40), 3) := by decide +kernel
theorem dX1_freeBits_47 : decode cX1_freeBits 47 = .ok (.iload_n 1, 1) := by decide +kernel
theorem dX1_freeBits_48 : decode cX1_freeBits 48 = .ok (.ireturn, 1) := by decide +kernel
theorem dX1_stuckBits_0 : decode cX1_stuckBits 0 = .ok (.iconst 0, 1) := by decide +kernel
theorem dX1_stuckBits_1 : decode cX1_stuckBits 1 = .ok (.istore_n 2, 1) := by decide +kernel
theorem dX1_stuckBits_2 : decode cX1_stuckBits 2 = .ok (.iconst 0, 1) := by decide +kernel
theorem dX1_stuckBits_3 : decode cX1_stuckBits 3 = .ok (.istore_n 3, 1) := by decide +kernel
theorem dX1_stuckBits_4 : decode cX1_stuckBits 4 = .ok (.iload_n 3, 1) := by decide +kernel
theorem dX1_stuckBits_5 : decode cX1_stuckBits 5 = .ok (.aload_n 0, 1) := by decide +kernel
theorem dX1_stuckBits_6 : decode cX1_stuckBits 6 = .ok (.getfield 36, 3) := by decide +kernel
theorem dX1_stuckBits_9 : decode cX1_stuckBits 9 = .ok (.if_icmp .ge 29, 3) := by decide +kernel
theorem dX1_stuckBits_12 : decode cX1_stuckBits 12 = .ok (.iload_n 2, 1) := by decide +kernel
theorem dX1_stuckBits_13 : decode cX1_stuckBits 13 = .ok (.aload_n 0, 1) := by decide +kernel
theorem dX1_stuckBits_14 : decode cX1_stuckBits 14 = .ok (.getfield 24, 3) := by decide +kernel
theorem dX1_stuckBits_17 : decode cX1_stuckBits 17 = .ok (.iload_n 3, 1) := by decide +kernel
theorem dX1_stuckBits_18 : decode cX1_stuckBits 18 = .ok (.iaload, 1) := by decide +kernel
theorem dX1_stuckBits_19 : decode cX1_stuckBits 19 = .ok (.iload_n 1, 1) := by decide +kernel
theorem dX1_stuckBits_20 : decode cX1_stuckBits 20 = .ok (.if_icmp .ne 9, 3) := by decide +kernel
theorem dX1_stuckBits_23 : decode cX1_stuckBits 23 = .ok (.iconst 1, 1) := by decide +kernel
theorem dX1_stuckBits_24 : decode cX1_stuckBits 24 = .ok (.iload_n 3, 1) := by decide +kernel
theorem dX1_stuckBits_25 : decode cX1_stuckBits 25 = .ok (.ishl, 1) := by decide +kernel
theorem dX1_stuckBits_26 : decode cX1_stuckBits 26 = .ok (.goto 4, 3) := by decide +kernel
theorem dX1_stuckBits_29 : decode cX1_stuckBits 29 = .ok (.iconst 0, 1) := by decide +kernel
theorem dX1_stuckBits_30 : decode cX1_stuckBits 30 = .ok (.ior, 1) := by decide +kernel
theorem dX1_stuckBits_31 : decode cX1_stuckBits 31 = .ok (.istore_n 2, 1) := by decide +kernel
theorem dX1_stuckBits_32 : decode cX1_stuckBits 32 = .ok (.iinc 3 1, 3) := by decide +kernel
theorem dX1_stuckBits_35 : decode cX1_stuckBits 35 = .ok (.goto (-31), 3) := by decide +kernel
theorem dX1_stuckBits_38 : decode cX1_stuckBits 38 = .ok (.iload_n 2, 1) := by decide +kernel
theorem dX1_stuckBits_39 : decode cX1_stuckBits 39 = .ok (.ireturn, 1) := by decide +kernel
theorem dX1_fateBits_0 : decode cX1_fateBits 0 = .ok (.iconst 0, 1) := by decide +kernel
theorem dX1_fateBits_1 : decode cX1_fateBits 1 = .ok (.istore_n 2, 1) := by decide +kernel
theorem dX1_fateBits_2 : decode cX1_fateBits 2 = .ok (.iconst 0, 1) := by decide +kernel
theorem dX1_fateBits_3 : decode cX1_fateBits 3 = .ok (.istore_n 3, 1) := by decide +kernel
theorem dX1_fateBits_4 : decode cX1_fateBits 4 = .ok (.iload_n 3, 1) := by decide +kernel
theorem dX1_fateBits_5 : decode cX1_fateBits 5 = .ok (.aload_n 0, 1) := by decide +kernel
theorem dX1_fateBits_6 : decode cX1_fateBits 6 = .ok (.getfield 40, 3) := by decide +kernel
theorem dX1_fateBits_9 : decode cX1_fateBits 9 = .ok (.if_icmp .ge 29, 3) := by decide +kernel
theorem dX1_fateBits_12 : decode cX1_fateBits 12 = .ok (.iload_n 2, 1) := by decide +kernel
theorem dX1_fateBits_13 : decode cX1_fateBits 13 = .ok (.aload_n 0, 1) := by decide +kernel
theorem dX1_fateBits_14 : decode cX1_fateBits 14 = .ok (.getfield 33, 3) := by decide +kernel
theorem dX1_fateBits_17 : decode cX1_fateBits 17 = .ok (.iload_n 3, 1) := by decide +kernel
theorem dX1_fateBits_18 : decode cX1_fateBits 18 = .ok (.iaload, 1) := by decide +kernel
theorem dX1_fateBits_19 : decode cX1_fateBits 19 = .ok (.iload_n 1, 1) := by decide +kernel
theorem dX1_fateBits_20 : decode cX1_fateBits 20 = .ok (.if_icmp .ne 9, 3) := by decide +kernel
theorem dX1_fateBits_23 : decode cX1_fateBits 23 = .ok (.iconst 1, 1) := by decide +kernel
theorem dX1_fateBits_24 : decode cX1_fateBits 24 = .ok (.iload_n 3, 1) := by decide +kernel
theorem dX1_fateBits_25 : decode cX1_fateBits 25 = .ok (.ishl, 1) := by decide +kernel
theorem dX1_fateBits_26 : decode cX1_fateBits 26 = .ok (.goto 4, 3) := by decide +kernel
theorem dX1_fateBits_29 : decode cX1_fateBits 29 = .ok (.iconst 0, 1) := by decide +kernel
theorem dX1_fateBits_30 : decode cX1_fateBits 30 = .ok (.ior, 1) := by decide +kernel
theorem dX1_fateBits_31 : decode cX1_fateBits 31 = .ok (.istore_n 2, 1) := by decide +kernel
theorem dX1_fateBits_32 : decode cX1_fateBits 32 = .ok (.iinc 3 1, 3) := by decide +kernel
theorem dX1_fateBits_35 : decode cX1_fateBits 35 = .ok (.goto (-31), 3) := by decide +kernel
theorem dX1_fateBits_38 : decode cX1_fateBits 38 = .ok (.iload_n 2, 1) := by decide +kernel
theorem dX1_fateBits_39 : decode cX1_fateBits 39 = .ok (.ireturn, 1) := by decide +kernel
theorem dX1_goodFor_0 : decode cX1_goodFor 0 = .ok (.iconst 0, 1) := by decide +kernel
theorem dX1_goodFor_1 : decode cX1_goodFor 1 = .ok (.istore_n 2, 1) := by decide +kernel
theorem dX1_goodFor_2 : decode cX1_goodFor 2 = .ok (.iconst 0, 1) := by decide +kernel
theorem dX1_goodFor_3 : decode cX1_goodFor 3 = .ok (.istore_n 3, 1) := by decide +kernel
theorem dX1_goodFor_4 : decode cX1_goodFor 4 = .ok (.iload_n 3, 1) := by decide +kernel
theorem dX1_goodFor_5 : decode cX1_goodFor 5 = .ok (.aload_n 0, 1) := by decide +kernel
theorem dX1_goodFor_6 : decode cX1_goodFor 6 = .ok (.getfield 36, 3) := by decide +kernel
theorem dX1_goodFor_9 : decode cX1_goodFor 9 = .ok (.if_icmp .ge 38, 3) := by decide +kernel
theorem dX1_goodFor_12 : decode cX1_goodFor 12 = .ok (.iload_n 2, 1) := by decide +kernel
theorem dX1_goodFor_13 : decode cX1_goodFor 13 = .ok (.iload_n 1, 1) := by decide +kernel
theorem dX1_goodFor_14 : decode cX1_goodFor 14 = .ok (.iload_n 3, 1) := by decide +kernel
theorem dX1_goodFor_15 : decode cX1_goodFor 15 = .ok (.ishr, 1) := by decide +kernel
theorem dX1_goodFor_16 : decode cX1_goodFor 16 = .ok (.iconst 1, 1) := by decide +kernel
theorem dX1_goodFor_17 : decode cX1_goodFor 17 = .ok (.iand, 1) := by decide +kernel
theorem dX1_goodFor_18 : decode cX1_goodFor 18 = .ok (.iconst 1, 1) := by decide +kernel
theorem dX1_goodFor_19 : decode cX1_goodFor 19 = .ok (.if_icmp .ne 19, 3) := by decide +kernel
theorem dX1_goodFor_22 : decode cX1_goodFor 22 = .ok (.aload_n 0, 1) := by decide +kernel
theorem dX1_goodFor_23 : decode cX1_goodFor 23 = .ok (.iload_n 3, 1) := by decide +kernel
theorem dX1_goodFor_24 : decode cX1_goodFor 24 = .ok (.invokevirtual 87, 3) := by decide +kernel
theorem dX1_goodFor_27 : decode cX1_goodFor 27 = .ok (.ifCond .eq 11, 3) := by decide +kernel
theorem dX1_goodFor_30 : decode cX1_goodFor 30 = .ok (.aload_n 0, 1) := by decide +kernel
theorem dX1_goodFor_31 : decode cX1_goodFor 31 = .ok (.iload_n 3, 1) := by decide +kernel
theorem dX1_goodFor_32 : decode cX1_goodFor 32 = .ok (.invokevirtual 93, 3) := by decide +kernel
theorem dX1_goodFor_35 : decode cX1_goodFor 35 = .ok (.goto 4, 3) := by decide +kernel
theorem dX1_goodFor_38 : decode cX1_goodFor 38 = .ok (.iconst 0, 1) := by decide +kernel
theorem dX1_goodFor_39 : decode cX1_goodFor 39 = .ok (.iadd, 1) := by decide +kernel
theorem dX1_goodFor_40 : decode cX1_goodFor 40 = .ok (.istore_n 2, 1) := by decide +kernel
theorem dX1_goodFor_41 : decode cX1_goodFor 41 = .ok (.iinc 3 1, 3) := by decide +kernel
theorem dX1_goodFor_44 : decode cX1_goodFor 44 = .ok (.goto (-40), 3) := by decide +kernel
theorem dX1_goodFor_47 : decode cX1_goodFor 47 = .ok (.iload_n 2, 1) := by decide +kernel
theorem dX1_goodFor_48 : decode cX1_goodFor 48 = .ok (.ireturn, 1) := by decide +kernel
theorem dX1_affordable_0 : decode cX1_affordable 0 = .ok (.aload_n 0, 1) := by decide +kernel
theorem dX1_affordable_1 : decode cX1_affordable 1 = .ok (.iload_n 1, 1) := by decide +kernel
theorem dX1_affordable_2 : decode cX1_affordable 2 = .ok (.invokevirtual 96, 3) := by decide +kernel
theorem dX1_affordable_5 : decode cX1_affordable 5 = .ok (.istore_n 2, 1) := by decide +kernel
theorem dX1_affordable_6 : decode cX1_affordable 6 = .ok (.iconst 0, 1) := by decide +kernel
theorem dX1_affordable_7 : decode cX1_affordable 7 = .ok (.istore_n 3, 1) := by decide +kernel
theorem dX1_affordable_8 : decode cX1_affordable 8 = .ok (.iconst 0, 1) := by decide +kernel
theorem dX1_affordable_9 : decode cX1_affordable 9 = .ok (.istore 4, 2) := by decide +kernel
theorem dX1_affordable_11 : decode cX1_affordable 11 = .ok (.iload 4, 2) := by decide +kernel
theorem dX1_affordable_13 : decode cX1_affordable 13 = .ok (.aload_n 0, 1) := by decide +kernel
theorem dX1_affordable_14 : decode cX1_affordable 14 = .ok (.getfield 40, 3) := by decide +kernel
theorem dX1_affordable_17 : decode cX1_affordable 17 = .ok (.if_icmp .ge 38, 3) := by decide +kernel
theorem dX1_affordable_20 : decode cX1_affordable 20 = .ok (.iload_n 3, 1) := by decide +kernel
theorem dX1_affordable_21 : decode cX1_affordable 21 = .ok (.aload_n 0, 1) := by decide +kernel
theorem dX1_affordable_22 : decode cX1_affordable 22 = .ok (.getfield 33, 3) := by decide +kernel
theorem dX1_affordable_25 : decode cX1_affordable 25 = .ok (.iload 4, 2) := by decide +kernel
theorem dX1_affordable_27 : decode cX1_affordable 27 = .ok (.iaload, 1) := by decide +kernel
theorem dX1_affordable_28 : decode cX1_affordable 28 = .ok (.ifCond .ne 18, 3) := by decide +kernel
theorem dX1_affordable_31 : decode cX1_affordable 31 = .ok (.aload_n 0, 1) := by decide +kernel
theorem dX1_affordable_32 : decode cX1_affordable 32 = .ok (.getfield 30, 3) := by decide +kernel
theorem dX1_affordable_35 : decode cX1_affordable 35 = .ok (.iload 4, 2) := by decide +kernel
theorem dX1_affordable_37 : decode cX1_affordable 37 = .ok (.iaload, 1) := by decide +kernel
theorem dX1_affordable_38 : decode cX1_affordable 38 = .ok (.iload_n 2, 1) := by decide +kernel
theorem dX1_affordable_39 : decode cX1_affordable 39 = .ok (.if_icmp .gt 7, 3) := by decide +kernel
theorem dX1_affordable_42 : decode cX1_affordable 42 = .ok (.iconst 1, 1) := by decide +kernel
theorem dX1_affordable_43 : decode cX1_affordable 43 = .ok (.goto 4, 3) := by decide +kernel
theorem dX1_affordable_46 : decode cX1_affordable 46 = .ok (.iconst 0, 1) := by decide +kernel
theorem dX1_affordable_47 : decode cX1_affordable 47 = .ok (.iadd, 1) := by decide +kernel
theorem dX1_affordable_48 : decode cX1_affordable 48 = .ok (.istore_n 3, 1) := by decide +kernel
theorem dX1_affordable_49 : decode cX1_affordable 49 = .ok (.iinc 4 1, 3) := by decide +kernel
theorem dX1_affordable_52 : decode cX1_affordable 52 = .ok (.goto (-41), 3) := by decide +kernel
theorem dX1_affordable_55 : decode cX1_affordable 55 = .ok (.iload_n 3, 1) := by decide +kernel
theorem dX1_affordable_56 : decode cX1_affordable 56 = .ok (.ireturn, 1) := by decide +kernel
theorem dX1_livingPairs_0 : decode cX1_livingPairs 0 = .ok (.aload_n 0, 1) := by decide +kernel
theorem dX1_livingPairs_1 : decode cX1_livingPairs 1 = .ok (.invokevirtual 90, 3) := by decide +kernel
theorem dX1_livingPairs_4 : decode cX1_livingPairs 4 = .ok (.istore_n 1, 1) := by decide +kernel
theorem dX1_livingPairs_5 : decode cX1_livingPairs 5 = .ok (.iconst 0, 1) := by decide +kernel
theorem dX1_livingPairs_6 : decode cX1_livingPairs 6 = .ok (.istore_n 2, 1) := by decide +kernel
theorem dX1_livingPairs_7 : decode cX1_livingPairs 7 = .ok (.iconst 0, 1) := by decide +kernel
theorem dX1_livingPairs_8 : decode cX1_livingPairs 8 = .ok (.istore_n 3, 1) := by decide +kernel
theorem dX1_livingPairs_9 : decode cX1_livingPairs 9 = .ok (.iload_n 3, 1) := by decide +kernel
theorem dX1_livingPairs_10 : decode cX1_livingPairs 10 = .ok (.aload_n 0, 1) := by decide +kernel
theorem dX1_livingPairs_11 : decode cX1_livingPairs 11 = .ok (.getfield 36, 3) := by decide +kernel
theorem dX1_livingPairs_14 : decode cX1_livingPairs 14 = .ok (.if_icmp .ge 36, 3) := by decide +kernel
theorem dX1_livingPairs_17 : decode cX1_livingPairs 17 = .ok (.iload_n 2, 1) := by decide +kernel
theorem dX1_livingPairs_18 : decode cX1_livingPairs 18 = .ok (.iload_n 1, 1) := by decide +kernel
theorem dX1_livingPairs_19 : decode cX1_livingPairs 19 = .ok (.iload_n 3, 1) := by decide +kernel
theorem dX1_livingPairs_20 : decode cX1_livingPairs 20 = .ok (.ishr, 1) := by decide +kernel
theorem dX1_livingPairs_21 : decode cX1_livingPairs 21 = .ok (.iconst 1, 1) := by decide +kernel
theorem dX1_livingPairs_22 : decode cX1_livingPairs 22 = .ok (.iand, 1) := by decide +kernel
theorem dX1_livingPairs_23 : decode cX1_livingPairs 23 = .ok (.iconst 1, 1) := by decide +kernel
theorem dX1_livingPairs_24 : decode cX1_livingPairs 24 = .ok (.if_icmp .ne 17, 3) := by decide +kernel
theorem dX1_livingPairs_27 : decode cX1_livingPairs 27 = .ok (.aload_n 0, 1) := by decide +kernel
theorem dX1_livingPairs_28 : decode cX1_livingPairs 28 = .ok (.getfield 21, 3) := by decide +kernel
theorem dX1_livingPairs_31 : decode cX1_livingPairs 31 = .ok (.iload_n 3, 1) := by decide +kernel
theorem dX1_livingPairs_32 : decode cX1_livingPairs 32 = .ok (.iaload, 1) := by decide +kernel
theorem dX1_livingPairs_33 : decode cX1_livingPairs 33 = .ok (.iload_n 1, 1) := by decide +kernel
theorem dX1_livingPairs_34 : decode cX1_livingPairs 34 = .ok (.iand, 1) := by decide +kernel
theorem dX1_livingPairs_35 : decode cX1_livingPairs 35 = .ok (.invokestatic 99, 3) := by decide +kernel
theorem dX1_livingPairs_38 : decode cX1_livingPairs 38 = .ok (.goto 4, 3) := by decide +kernel
theorem dX1_livingPairs_41 : decode cX1_livingPairs 41 = .ok (.iconst 0, 1) := by decide +kernel
theorem dX1_livingPairs_42 : decode cX1_livingPairs 42 = .ok (.iadd, 1) := by decide +kernel
theorem dX1_livingPairs_43 : decode cX1_livingPairs 43 = .ok (.istore_n 2, 1) := by decide +kernel
theorem dX1_livingPairs_44 : decode cX1_livingPairs 44 = .ok (.iinc 3 1, 3) := by decide +kernel
theorem dX1_livingPairs_47 : decode cX1_livingPairs 47 = .ok (.goto (-38), 3) := by decide +kernel
theorem dX1_livingPairs_50 : decode cX1_livingPairs 50 = .ok (.iload_n 2, 1) := by decide +kernel
theorem dX1_livingPairs_51 : decode cX1_livingPairs 51 = .ok (.iconst 2, 1) := by decide +kernel
theorem dX1_livingPairs_52 : decode cX1_livingPairs 52 = .ok (.idiv, 1) := by decide +kernel
theorem dX1_livingPairs_53 : decode cX1_livingPairs 53 = .ok (.ireturn, 1) := by decide +kernel
theorem dX1_canStick_0 : decode cX1_canStick 0 = .ok (.aload_n 0, 1) := by decide +kernel
theorem dX1_canStick_1 : decode cX1_canStick 1 = .ok (.iload_n 1, 1) := by decide +kernel
theorem dX1_canStick_2 : decode cX1_canStick 2 = .ok (.invokevirtual 62, 3) := by decide +kernel
theorem dX1_canStick_5 : decode cX1_canStick 5 = .ok (.ifCond .eq 43, 3) := by decide +kernel
theorem dX1_canStick_8 : decode cX1_canStick 8 = .ok (.aload_n 0, 1) := by decide +kernel
theorem dX1_canStick_9 : decode cX1_canStick 9 = .ok (.iload_n 2, 1) := by decide +kernel
theorem dX1_canStick_10 : decode cX1_canStick 10 = .ok (.invokevirtual 104, 3) := by decide +kernel
theorem dX1_canStick_13 : decode cX1_canStick 13 = .ok (.ifCond .eq 35, 3) := by decide +kernel
theorem dX1_canStick_16 : decode cX1_canStick 16 = .ok (.aload_n 0, 1) := by decide +kernel
theorem dX1_canStick_17 : decode cX1_canStick 17 = .ok (.iload_n 1, 1) := by decide +kernel
theorem dX1_canStick_18 : decode cX1_canStick 18 = .ok (.invokevirtual 87, 3) := by decide +kernel
theorem dX1_canStick_21 : decode cX1_canStick 21 = .ok (.ifCond .eq 27, 3) := by decide +kernel
theorem dX1_canStick_24 : decode cX1_canStick 24 = .ok (.aload_n 0, 1) := by decide +kernel
theorem dX1_canStick_25 : decode cX1_canStick 25 = .ok (.getfield 24, 3) := by decide +kernel
theorem dX1_canStick_28 : decode cX1_canStick 28 = .ok (.iload_n 1, 1) := by decide +kernel
theorem dX1_canStick_29 : decode cX1_canStick 29 = .ok (.iaload, 1) := by decide +kernel
theorem dX1_canStick_30 : decode cX1_canStick 30 = .ok (.bipush (-9), 2) := by decide +kernel
theorem dX1_canStick_32 : decode cX1_canStick 32 = .ok (.if_icmp .ne 16, 3) := by decide +kernel
theorem dX1_canStick_35 : decode cX1_canStick 35 = .ok (.aload_n 0, 1) := by decide +kernel
theorem dX1_canStick_36 : decode cX1_canStick 36 = .ok (.getfield 33, 3) := by decide +kernel
theorem dX1_canStick_39 : decode cX1_canStick 39 = .ok (.iload_n 2, 1) := by decide +kernel
theorem dX1_canStick_40 : decode cX1_canStick 40 = .ok (.iaload, 1) := by decide +kernel
theorem dX1_canStick_41 : decode cX1_canStick 41 = .ok (.ifCond .ne 7, 3) := by decide +kernel
theorem dX1_canStick_44 : decode cX1_canStick 44 = .ok (.iconst 1, 1) := by decide +kernel
theorem dX1_canStick_45 : decode cX1_canStick 45 = .ok (.goto 4, 3) := by decide +kernel
theorem dX1_canStick_48 : decode cX1_canStick 48 = .ok (.iconst 0, 1) := by decide +kernel
theorem dX1_canStick_49 : decode cX1_canStick 49 = .ok (.ireturn, 1) := by decide +kernel
theorem dX1_stickOn_0 : decode cX1_stickOn 0 = .ok (.aload_n 0, 1) := by decide +kernel
theorem dX1_stickOn_1 : decode cX1_stickOn 1 = .ok (.getfield 24, 3) := by decide +kernel
theorem dX1_stickOn_4 : decode cX1_stickOn 4 = .ok (.iload_n 1, 1) := by decide +kernel
theorem dX1_stickOn_5 : decode cX1_stickOn 5 = .ok (.iload_n 2, 1) := by decide +kernel
theorem dX1_stickOn_6 : decode cX1_stickOn 6 = .ok (.iastore, 1) := by decide +kernel
theorem dX1_stickOn_7 : decode cX1_stickOn 7 = .ok (.aload_n 0, 1) := by decide +kernel
theorem dX1_stickOn_8 : decode cX1_stickOn 8 = .ok (.getfield 15, 3) := by decide +kernel
theorem dX1_stickOn_11 : decode cX1_stickOn 11 = .ok (.iload_n 1, 1) := by decide +kernel
theorem dX1_stickOn_12 : decode cX1_stickOn 12 = .ok (.iconst 0, 1) := by decide +kernel
theorem dX1_stickOn_13 : decode cX1_stickOn 13 = .ok (.aload_n 0, 1) := by decide +kernel
theorem dX1_stickOn_14 : decode cX1_stickOn 14 = .ok (.getfield 15, 3) := by decide +kernel
theorem dX1_stickOn_17 : decode cX1_stickOn 17 = .ok (.iload_n 1, 1) := by decide +kernel
theorem dX1_stickOn_18 : decode cX1_stickOn 18 = .ok (.iaload, 1) := by decide +kernel
theorem dX1_stickOn_19 : decode cX1_stickOn 19 = .ok (.iconst 1, 1) := by decide +kernel
theorem dX1_stickOn_20 : decode cX1_stickOn 20 = .ok (.isub, 1) := by decide +kernel
theorem dX1_stickOn_21 : decode cX1_stickOn 21 = .ok (.invokestatic 107, 3) := by decide +kernel
theorem dX1_stickOn_24 : decode cX1_stickOn 24 = .ok (.iastore, 1) := by decide +kernel
theorem dX1_stickOn_25 : decode cX1_stickOn 25 = .ok (.return_, 1) := by decide +kernel
theorem dX1_canSend_0 : decode cX1_canSend 0 = .ok (.aload_n 0, 1) := by decide +kernel
theorem dX1_canSend_1 : decode cX1_canSend 1 = .ok (.iload_n 1, 1) := by decide +kernel
theorem dX1_canSend_2 : decode cX1_canSend 2 = .ok (.invokevirtual 104, 3) := by decide +kernel
theorem dX1_canSend_5 : decode cX1_canSend 5 = .ok (.ifCond .eq 34, 3) := by decide +kernel
theorem dX1_canSend_8 : decode cX1_canSend 8 = .ok (.aload_n 0, 1) := by decide +kernel
theorem dX1_canSend_9 : decode cX1_canSend 9 = .ok (.getfield 33, 3) := by decide +kernel
theorem dX1_canSend_12 : decode cX1_canSend 12 = .ok (.iload_n 1, 1) := by decide +kernel
theorem dX1_canSend_13 : decode cX1_canSend 13 = .ok (.iaload, 1) := by decide +kernel
theorem dX1_canSend_14 : decode cX1_canSend 14 = .ok (.ifCond .ne 25, 3) := by decide +kernel
theorem dX1_canSend_17 : decode cX1_canSend 17 = .ok (.aload_n 0, 1) := by decide +kernel
theorem dX1_canSend_18 : decode cX1_canSend 18 = .ok (.aload_n 0, 1) := by decide +kernel
theorem dX1_canSend_19 : decode cX1_canSend 19 = .ok (.iload_n 1, 1) := by decide +kernel
theorem dX1_canSend_20 : decode cX1_canSend 20 = .ok (.invokevirtual 110, 3) := by decide +kernel
theorem dX1_canSend_23 : decode cX1_canSend 23 = .ok (.invokevirtual 96, 3) := by decide +kernel
theorem dX1_canSend_26 : decode cX1_canSend 26 = .ok (.aload_n 0, 1) := by decide +kernel
theorem dX1_canSend_27 : decode cX1_canSend 27 = .ok (.getfield 30, 3) := by decide +kernel
theorem dX1_canSend_30 : decode cX1_canSend 30 = .ok (.iload_n 1, 1) := by decide +kernel
theorem dX1_canSend_31 : decode cX1_canSend 31 = .ok (.iaload, 1) := by decide +kernel
theorem dX1_canSend_32 : decode cX1_canSend 32 = .ok (.if_icmp .lt 7, 3) := by decide +kernel
theorem dX1_canSend_35 : decode cX1_canSend 35 = .ok (.iconst 1, 1) := by decide +kernel
theorem dX1_canSend_36 : decode cX1_canSend 36 = .ok (.goto 4, 3) := by decide +kernel
theorem dX1_canSend_39 : decode cX1_canSend 39 = .ok (.iconst 0, 1) := by decide +kernel
theorem dX1_canSend_40 : decode cX1_canSend 40 = .ok (.ireturn, 1) := by decide +kernel
theorem dX1_sendOff_0 : decode cX1_sendOff 0 = .ok (.aload_n 0, 1) := by decide +kernel
theorem dX1_sendOff_1 : decode cX1_sendOff 1 = .ok (.getfield 33, 3) := by decide +kernel
theorem dX1_sendOff_4 : decode cX1_sendOff 4 = .ok (.iload_n 1, 1) := by decide +kernel
theorem dX1_sendOff_5 : decode cX1_sendOff 5 = .ok (.iconst 1, 1) := by decide +kernel
theorem dX1_sendOff_6 : decode cX1_sendOff 6 = .ok (.iastore, 1) := by decide +kernel
theorem dX1_sendOff_7 : decode cX1_sendOff 7 = .ok (.return_, 1) := by decide +kernel
theorem dX1_partTwo_0 : decode cX1_partTwo 0 = .ok (.aload_n 0, 1) := by decide +kernel
theorem dX1_partTwo_1 : decode cX1_partTwo 1 = .ok (.getfield 21, 3) := by decide +kernel
theorem dX1_partTwo_4 : decode cX1_partTwo 4 = .ok (.iload_n 1, 1) := by decide +kernel
theorem dX1_partTwo_5 : decode cX1_partTwo 5 = .ok (.dup2, 1) := by decide +kernel
theorem dX1_partTwo_6 : decode cX1_partTwo 6 = .ok (.iaload, 1) := by decide +kernel
theorem dX1_partTwo_7 : decode cX1_partTwo 7 = .ok (.iconst 1, 1) := by decide +kernel
theorem dX1_partTwo_8 : decode cX1_partTwo 8 = .ok (.iload_n 2, 1) := by decide +kernel
theorem dX1_partTwo_9 : decode cX1_partTwo 9 = .ok (.ishl, 1) := by decide +kernel
theorem dX1_partTwo_10 : decode cX1_partTwo 10 = .ok (.iconst (-1), 1) := by decide +kernel
theorem dX1_partTwo_11 : decode cX1_partTwo 11 = .ok (.ixor, 1) := by decide +kernel
theorem dX1_partTwo_12 : decode cX1_partTwo 12 = .ok (.iand, 1) := by decide +kernel
theorem dX1_partTwo_13 : decode cX1_partTwo 13 = .ok (.iastore, 1) := by decide +kernel
theorem dX1_partTwo_14 : decode cX1_partTwo 14 = .ok (.aload_n 0, 1) := by decide +kernel
theorem dX1_partTwo_15 : decode cX1_partTwo 15 = .ok (.getfield 21, 3) := by decide +kernel
theorem dX1_partTwo_18 : decode cX1_partTwo 18 = .ok (.iload_n 2, 1) := by decide +kernel
theorem dX1_partTwo_19 : decode cX1_partTwo 19 = .ok (.dup2, 1) := by decide +kernel
theorem dX1_partTwo_20 : decode cX1_partTwo 20 = .ok (.iaload, 1) := by decide +kernel
theorem dX1_partTwo_21 : decode cX1_partTwo 21 = .ok (.iconst 1, 1) := by decide +kernel
theorem dX1_partTwo_22 : decode cX1_partTwo 22 = .ok (.iload_n 1, 1) := by decide +kernel
theorem dX1_partTwo_23 : decode cX1_partTwo 23 = .ok (.ishl, 1) := by decide +kernel
theorem dX1_partTwo_24 : decode cX1_partTwo 24 = .ok (.iconst (-1), 1) := by decide +kernel
theorem dX1_partTwo_25 : decode cX1_partTwo 25 = .ok (.ixor, 1) := by decide +kernel
theorem dX1_partTwo_26 : decode cX1_partTwo 26 = .ok (.iand, 1) := by decide +kernel
theorem dX1_partTwo_27 : decode cX1_partTwo 27 = .ok (.iastore, 1) := by decide +kernel
theorem dX1_partTwo_28 : decode cX1_partTwo 28 = .ok (.aload_n 0, 1) := by decide +kernel
theorem dX1_partTwo_29 : decode cX1_partTwo 29 = .ok (.iconst 1, 1) := by decide +kernel
theorem dX1_partTwo_30 : decode cX1_partTwo 30 = .ok (.iload_n 1, 1) := by decide +kernel
theorem dX1_partTwo_31 : decode cX1_partTwo 31 = .ok (.ishl, 1) := by decide +kernel
theorem dX1_partTwo_32 : decode cX1_partTwo 32 = .ok (.iconst 1, 1) := by decide +kernel
theorem dX1_partTwo_33 : decode cX1_partTwo 33 = .ok (.iload_n 2, 1) := by decide +kernel
theorem dX1_partTwo_34 : decode cX1_partTwo 34 = .ok (.ishl, 1) := by decide +kernel
theorem dX1_partTwo_35 : decode cX1_partTwo 35 = .ok (.ior, 1) := by decide +kernel
theorem dX1_partTwo_36 : decode cX1_partTwo 36 = .ok (.iconst 1, 1) := by decide +kernel
theorem dX1_partTwo_37 : decode cX1_partTwo 37 = .ok (.invokevirtual 113, 3) := by decide +kernel
theorem dX1_partTwo_40 : decode cX1_partTwo 40 = .ok (.return_, 1) := by decide +kernel
theorem dX1_passWeek_0 : decode cX1_passWeek 0 = .ok (.aload_n 0, 1) := by decide +kernel
theorem dX1_passWeek_1 : decode cX1_passWeek 1 = .ok (.aload_n 0, 1) := by decide +kernel
theorem dX1_passWeek_2 : decode cX1_passWeek 2 = .ok (.invokevirtual 90, 3) := by decide +kernel
theorem dX1_passWeek_5 : decode cX1_passWeek 5 = .ok (.aload_n 0, 1) := by decide +kernel
theorem dX1_passWeek_6 : decode cX1_passWeek 6 = .ok (.getfield 46, 3) := by decide +kernel
theorem dX1_passWeek_9 : decode cX1_passWeek 9 = .ok (.ifCond .eq 7, 3) := by decide +kernel
theorem dX1_passWeek_12 : decode cX1_passWeek 12 = .ok (.iconst 2, 1) := by decide +kernel
theorem dX1_passWeek_13 : decode cX1_passWeek 13 = .ok (.goto 4, 3) := by decide +kernel
theorem dX1_passWeek_16 : decode cX1_passWeek 16 = .ok (.iconst 1, 1) := by decide +kernel
theorem dX1_passWeek_17 : decode cX1_passWeek 17 = .ok (.invokevirtual 113, 3) := by decide +kernel
theorem dX1_passWeek_20 : decode cX1_passWeek 20 = .ok (.aload_n 0, 1) := by decide +kernel
theorem dX1_passWeek_21 : decode cX1_passWeek 21 = .ok (.aload_n 0, 1) := by decide +kernel
theorem dX1_passWeek_22 : decode cX1_passWeek 22 = .ok (.invokevirtual 117, 3) := by decide +kernel
theorem dX1_passWeek_25 : decode cX1_passWeek 25 = .ok (.iconst 2, 1) := by decide +kernel
theorem dX1_passWeek_26 : decode cX1_passWeek 26 = .ok (.invokevirtual 113, 3) := by decide +kernel
theorem dX1_passWeek_29 : decode cX1_passWeek 29 = .ok (.iconst 0, 1) := by decide +kernel
theorem dX1_passWeek_30 : decode cX1_passWeek 30 = .ok (.istore_n 1, 1) := by decide +kernel
theorem dX1_passWeek_31 : decode cX1_passWeek 31 = .ok (.iload_n 1, 1) := by decide +kernel
theorem dX1_passWeek_32 : decode cX1_passWeek 32 = .ok (.aload_n 0, 1) := by decide +kernel
theorem dX1_passWeek_33 : decode cX1_passWeek 33 = .ok (.getfield 40, 3) := by decide +kernel
theorem dX1_passWeek_36 : decode cX1_passWeek 36 = .ok (.if_icmp .ge 24, 3) := by decide +kernel
theorem dX1_passWeek_39 : decode cX1_passWeek 39 = .ok (.aload_n 0, 1) := by decide +kernel
theorem dX1_passWeek_40 : decode cX1_passWeek 40 = .ok (.getfield 33, 3) := by decide +kernel
theorem dX1_passWeek_43 : decode cX1_passWeek 43 = .ok (.iload_n 1, 1) := by decide +kernel
theorem dX1_passWeek_44 : decode cX1_passWeek 44 = .ok (.iaload, 1) := by decide +kernel
theorem dX1_passWeek_45 : decode cX1_passWeek 45 = .ok (.iconst 1, 1) := by decide +kernel
theorem dX1_passWeek_46 : decode cX1_passWeek 46 = .ok (.if_icmp .ne 8, 3) := by decide +kernel
theorem dX1_passWeek_49 : decode cX1_passWeek 49 = .ok (.aload_n 0, 1) := by decide +kernel
theorem dX1_passWeek_50 : decode cX1_passWeek 50 = .ok (.iload_n 1, 1) := by decide +kernel
theorem dX1_passWeek_51 : decode cX1_passWeek 51 = .ok (.invokevirtual 120, 3) := by decide +kernel
theorem dX1_passWeek_54 : decode cX1_passWeek 54 = .ok (.iinc 1 1, 3) := by decide +kernel
theorem dX1_passWeek_57 : decode cX1_passWeek 57 = .ok (.goto (-26), 3) := by decide +kernel
theorem dX1_passWeek_60 : decode cX1_passWeek 60 = .ok (.aload_n 0, 1) := by decide +kernel
theorem dX1_passWeek_61 : decode cX1_passWeek 61 = .ok (.dup, 1) := by decide +kernel
theorem dX1_passWeek_62 : decode cX1_passWeek 62 = .ok (.getfield 43, 3) := by decide +kernel
theorem dX1_passWeek_65 : decode cX1_passWeek 65 = .ok (.iconst 1, 1) := by decide +kernel
theorem dX1_passWeek_66 : decode cX1_passWeek 66 = .ok (.iadd, 1) := by decide +kernel
theorem dX1_passWeek_67 : decode cX1_passWeek 67 = .ok (.putfield 43, 3) := by decide +kernel
theorem dX1_passWeek_70 : decode cX1_passWeek 70 = .ok (.return_, 1) := by decide +kernel
theorem dX1_growOlder_0 : decode cX1_growOlder 0 = .ok (.iconst 0, 1) := by decide +kernel
theorem dX1_growOlder_1 : decode cX1_growOlder 1 = .ok (.istore_n 3, 1) := by decide +kernel
theorem dX1_growOlder_2 : decode cX1_growOlder 2 = .ok (.iload_n 3, 1) := by decide +kernel
theorem dX1_growOlder_3 : decode cX1_growOlder 3 = .ok (.aload_n 0, 1) := by decide +kernel
theorem dX1_growOlder_4 : decode cX1_growOlder 4 = .ok (.getfield 36, 3) := by decide +kernel
theorem dX1_growOlder_7 : decode cX1_growOlder 7 = .ok (.if_icmp .ge 38, 3) := by decide +kernel
theorem dX1_growOlder_10 : decode cX1_growOlder 10 = .ok (.iload_n 1, 1) := by decide +kernel
theorem dX1_growOlder_11 : decode cX1_growOlder 11 = .ok (.iload_n 3, 1) := by decide +kernel
theorem dX1_growOlder_12 : decode cX1_growOlder 12 = .ok (.ishr, 1) := by decide +kernel
theorem dX1_growOlder_13 : decode cX1_growOlder 13 = .ok (.iconst 1, 1) := by decide +kernel
theorem dX1_growOlder_14 : decode cX1_growOlder 14 = .ok (.iand, 1) := by decide +kernel
theorem dX1_growOlder_15 : decode cX1_growOlder 15 = .ok (.iconst 1, 1) := by decide +kernel
theorem dX1_growOlder_16 : decode cX1_growOlder 16 = .ok (.if_icmp .ne 23, 3) := by decide +kernel
theorem dX1_growOlder_19 : decode cX1_growOlder 19 = .ok (.aload_n 0, 1) := by decide +kernel
theorem dX1_growOlder_20 : decode cX1_growOlder 20 = .ok (.getfield 18, 3) := by decide +kernel
theorem dX1_growOlder_23 : decode cX1_growOlder 23 = .ok (.iload_n 3, 1) := by decide +kernel
theorem dX1_growOlder_24 : decode cX1_growOlder 24 = .ok (.iaload, 1) := by decide +kernel
theorem dX1_growOlder_25 : decode cX1_growOlder 25 = .ok (.iconst 3, 1) := by decide +kernel
theorem dX1_growOlder_26 : decode cX1_growOlder 26 = .ok (.if_icmp .eq 13, 3) := by decide +kernel
theorem dX1_growOlder_29 : decode cX1_growOlder 29 = .ok (.aload_n 0, 1) := by decide +kernel
theorem dX1_growOlder_30 : decode cX1_growOlder 30 = .ok (.getfield 9, 3) := by decide +kernel
theorem dX1_growOlder_33 : decode cX1_growOlder 33 = .ok (.iload_n 3, 1) := by decide +kernel
theorem dX1_growOlder_34 : decode cX1_growOlder 34 = .ok (.dup2, 1) := by decide +kernel
theorem dX1_growOlder_35 : decode cX1_growOlder 35 = .ok (.iaload, 1) := by decide +kernel
theorem dX1_growOlder_36 : decode cX1_growOlder 36 = .ok (.iload_n 2, 1) := by decide +kernel
theorem dX1_growOlder_37 : decode cX1_growOlder 37 = .ok (.iadd, 1) := by decide +kernel
theorem dX1_growOlder_38 : decode cX1_growOlder 38 = .ok (.iastore, 1) := by decide +kernel
theorem dX1_growOlder_39 : decode cX1_growOlder 39 = .ok (.iinc 3 1, 3) := by decide +kernel
theorem dX1_growOlder_42 : decode cX1_growOlder 42 = .ok (.goto (-40), 3) := by decide +kernel
theorem dX1_growOlder_45 : decode cX1_growOlder 45 = .ok (.return_, 1) := by decide +kernel
theorem dX1_carry_0 : decode cX1_carry 0 = .ok (.aload_n 0, 1) := by decide +kernel
theorem dX1_carry_1 : decode cX1_carry 1 = .ok (.getfield 27, 3) := by decide +kernel
theorem dX1_carry_4 : decode cX1_carry 4 = .ok (.iload_n 1, 1) := by decide +kernel
theorem dX1_carry_5 : decode cX1_carry 5 = .ok (.dup2, 1) := by decide +kernel
theorem dX1_carry_6 : decode cX1_carry 6 = .ok (.iaload, 1) := by decide +kernel
theorem dX1_carry_7 : decode cX1_carry 7 = .ok (.iconst 1, 1) := by decide +kernel
theorem dX1_carry_8 : decode cX1_carry 8 = .ok (.isub, 1) := by decide +kernel
theorem dX1_carry_9 : decode cX1_carry 9 = .ok (.iastore, 1) := by decide +kernel
theorem dX1_carry_10 : decode cX1_carry 10 = .ok (.aload_n 0, 1) := by decide +kernel
theorem dX1_carry_11 : decode cX1_carry 11 = .ok (.getfield 27, 3) := by decide +kernel
theorem dX1_carry_14 : decode cX1_carry 14 = .ok (.iload_n 1, 1) := by decide +kernel
theorem dX1_carry_15 : decode cX1_carry 15 = .ok (.iaload, 1) := by decide +kernel
theorem dX1_carry_16 : decode cX1_carry 16 = .ok (.ifCond .gt 27, 3) := by decide +kernel
theorem dX1_carry_19 : decode cX1_carry 19 = .ok (.aload_n 0, 1) := by decide +kernel
theorem dX1_carry_20 : decode cX1_carry 20 = .ok (.getfield 33, 3) := by decide +kernel
theorem dX1_carry_23 : decode cX1_carry 23 = .ok (.iload_n 1, 1) := by decide +kernel
theorem dX1_carry_24 : decode cX1_carry 24 = .ok (.aload_n 0, 1) := by decide +kernel
theorem dX1_carry_25 : decode cX1_carry 25 = .ok (.iload_n 1, 1) := by decide +kernel
theorem dX1_carry_26 : decode cX1_carry 26 = .ok (.invokevirtual 110, 3) := by decide +kernel
theorem dX1_carry_29 : decode cX1_carry 29 = .ok (.aload_n 0, 1) := by decide +kernel
theorem dX1_carry_30 : decode cX1_carry 30 = .ok (.invokevirtual 90, 3) := by decide +kernel
theorem dX1_carry_33 : decode cX1_carry 33 = .ok (.iand, 1) := by decide +kernel
theorem dX1_carry_34 : decode cX1_carry 34 = .ok (.ifCond .eq 7, 3) := by decide +kernel
theorem dX1_carry_37 : decode cX1_carry 37 = .ok (.iconst 2, 1) := by decide +kernel
theorem dX1_carry_38 : decode cX1_carry 38 = .ok (.goto 4, 3) := by decide +kernel
theorem dX1_carry_41 : decode cX1_carry 41 = .ok (.iconst 3, 1) := by decide +kernel
theorem dX1_carry_42 : decode cX1_carry 42 = .ok (.iastore, 1) := by decide +kernel
theorem dX1_carry_43 : decode cX1_carry 43 = .ok (.return_, 1) := by decide +kernel
theorem dX1_does_0 : decode cX1_does 0 = .ok (.iload_n 1, 1) := by decide +kernel
theorem dX1_does_1 : decode cX1_does 1 = .ok (.bipush 10, 2) := by decide +kernel
theorem dX1_does_3 : decode cX1_does 3 = .ok (.idiv, 1) := by decide +kernel
theorem dX1_does_4 : decode cX1_does 4 = .ok (.bipush 10, 2) := by decide +kernel
theorem dX1_does_6 : decode cX1_does 6 = .ok (.irem, 1) := by decide +kernel
theorem dX1_does_7 : decode cX1_does 7 = .ok (.istore_n 2, 1) := by decide +kernel
