theorem dX4_album_122 : decode cX4_album 122 = .ok (.iload_n 1, 1) := by decide +kernel
theorem dX4_album_123 : decode cX4_album 123 = .ok (.iaload, 1) := by decide +kernel
theorem dX4_album_124 : decode cX4_album 124 = .ok (.iastore, 1) := by decide +kernel
theorem dX4_album_125 : decode cX4_album 125 = .ok (.aload_n 0, 1) := by decide +kernel
theorem dX4_album_126 : decode cX4_album 126 = .ok (.getfield 16, 3) := by decide +kernel
theorem dX4_album_129 : decode cX4_album 129 = .ok (.bipush 15, 2) := by decide +kernel
theorem dX4_album_131 : decode cX4_album 131 = .ok (.iload_n 1, 1) := by decide +kernel
theorem dX4_album_132 : decode cX4_album 132 = .ok (.iadd, 1) := by decide +kernel
theorem dX4_album_133 : decode cX4_album 133 = .ok (.bipush (-9), 2) := by decide +kernel
theorem dX4_album_135 : decode cX4_album 135 = .ok (.iastore, 1) := by decide +kernel
theorem dX4_album_136 : decode cX4_album 136 = .ok (.iinc 1 1, 3) := by decide +kernel
theorem dX4_album_139 : decode cX4_album 139 = .ok (.goto (-88), 3) := by decide +kernel
theorem dX4_album_142 : decode cX4_album 142 = .ok (.iconst 0, 1) := by decide +kernel
theorem dX4_album_143 : decode cX4_album 143 = .ok (.istore_n 1, 1) := by decide +kernel
theorem dX4_album_144 : decode cX4_album 144 = .ok (.iload_n 1, 1) := by decide +kernel
theorem dX4_album_145 : decode cX4_album 145 = .ok (.aload_n 0, 1) := by decide +kernel
theorem dX4_album_146 : decode cX4_album 146 = .ok (.getfield 99, 3) := by decide +kernel
theorem dX4_album_149 : decode cX4_album 149 = .ok (.if_icmp .ge 42, 3) := by decide +kernel
theorem dX4_album_152 : decode cX4_album 152 = .ok (.aload_n 0, 1) := by decide +kernel
theorem dX4_album_153 : decode cX4_album 153 = .ok (.getfield 16, 3) := by decide +kernel
theorem dX4_album_156 : decode cX4_album 156 = .ok (.bipush 20, 2) := by decide +kernel
theorem dX4_album_158 : decode cX4_album 158 = .ok (.iload_n 1, 1) := by decide +kernel
theorem dX4_album_159 : decode cX4_album 159 = .ok (.iadd, 1) := by decide +kernel
theorem dX4_album_160 : decode cX4_album 160 = .ok (.aload_n 0, 1) := by decide +kernel
theorem dX4_album_161 : decode cX4_album 161 = .ok (.getfield 25, 3) := by decide +kernel
theorem dX4_album_164 : decode cX4_album 164 = .ok (.iconst 2, 1) := by decide +kernel
theorem dX4_album_165 : decode cX4_album 165 = .ok (.iload_n 1, 1) := by decide +kernel
theorem dX4_album_166 : decode cX4_album 166 = .ok (.imul, 1) := by decide +kernel
theorem dX4_album_167 : decode cX4_album 167 = .ok (.iaload, 1) := by decide +kernel
theorem dX4_album_168 : decode cX4_album 168 = .ok (.iastore, 1) := by decide +kernel
theorem dX4_album_169 : decode cX4_album 169 = .ok (.aload_n 0, 1) := by decide +kernel
theorem dX4_album_170 : decode cX4_album 170 = .ok (.getfield 13, 3) := by decide +kernel
theorem dX4_album_173 : decode cX4_album 173 = .ok (.iload_n 1, 1) := by decide +kernel
theorem dX4_album_174 : decode cX4_album 174 = .ok (.aload_n 0, 1) := by decide +kernel
theorem dX4_album_175 : decode cX4_album 175 = .ok (.getfield 25, 3) := by decide +kernel
theorem dX4_album_178 : decode cX4_album 178 = .ok (.iconst 2, 1) := by decide +kernel
theorem dX4_album_179 : decode cX4_album 179 = .ok (.iload_n 1, 1) := by decide +kernel
theorem dX4_album_180 : decode cX4_album 180 = .ok (.imul, 1) := by decide +kernel
theorem dX4_album_181 : decode cX4_album 181 = .ok (.iconst 1, 1) := by decide +kernel
theorem dX4_album_182 : decode cX4_album 182 = .ok (.iadd, 1) := by decide +kernel
theorem dX4_album_183 : decode cX4_album 183 = .ok (.iaload, 1) := by decide +kernel
theorem dX4_album_184 : decode cX4_album 184 = .ok (.iastore, 1) := by decide +kernel
theorem dX4_album_185 : decode cX4_album 185 = .ok (.iinc 1 1, 3) := by decide +kernel
theorem dX4_album_188 : decode cX4_album 188 = .ok (.goto (-44), 3) := by decide +kernel
theorem dX4_album_191 : decode cX4_album 191 = .ok (.aload_n 0, 1) := by decide +kernel
theorem dX4_album_192 : decode cX4_album 192 = .ok (.iconst 0, 1) := by decide +kernel
theorem dX4_album_193 : decode cX4_album 193 = .ok (.putfield 102, 3) := by decide +kernel
theorem dX4_album_196 : decode cX4_album 196 = .ok (.aload_n 0, 1) := by decide +kernel
theorem dX4_album_197 : decode cX4_album 197 = .ok (.getfield 43, 3) := by decide +kernel
theorem dX4_album_200 : decode cX4_album 200 = .ok (.iconst 0, 1) := by decide +kernel
theorem dX4_album_201 : decode cX4_album 201 = .ok (.iconst 0, 1) := by decide +kernel
theorem dX4_album_202 : decode cX4_album 202 = .ok (.bastore, 1) := by decide +kernel
theorem dX4_album_203 : decode cX4_album 203 = .ok (.aload_n 0, 1) := by decide +kernel
theorem dX4_album_204 : decode cX4_album 204 = .ok (.getfield 43, 3) := by decide +kernel
theorem dX4_album_207 : decode cX4_album 207 = .ok (.iconst 1, 1) := by decide +kernel
theorem dX4_album_208 : decode cX4_album 208 = .ok (.iconst 0, 1) := by decide +kernel
theorem dX4_album_209 : decode cX4_album 209 = .ok (.bastore, 1) := by decide +kernel
theorem dX4_album_210 : decode cX4_album 210 = .ok (.bipush 10, 2) := by decide +kernel
theorem dX4_album_212 : decode cX4_album 212 = .ok (.aload_n 0, 1) := by decide +kernel
theorem dX4_album_213 : decode cX4_album 213 = .ok (.getfield 50, 3) := by decide +kernel
theorem dX4_album_216 : decode cX4_album 216 = .ok (.imul, 1) := by decide +kernel
theorem dX4_album_217 : decode cX4_album 217 = .ok (.aload_n 0, 1) := by decide +kernel
theorem dX4_album_218 : decode cX4_album 218 = .ok (.getfield 99, 3) := by decide +kernel
theorem dX4_album_221 : decode cX4_album 221 = .ok (.iadd, 1) := by decide +kernel
theorem dX4_album_222 : decode cX4_album 222 = .ok (.ireturn, 1) := by decide +kernel
theorem dX4_isStamp_0 : decode cX4_isStamp 0 = .ok (.iload_n 1, 1) := by decide +kernel
theorem dX4_isStamp_1 : decode cX4_isStamp 1 = .ok (.i2l, 1) := by decide +kernel
theorem dX4_isStamp_2 : decode cX4_isStamp 2 = .ok (.lconst 0, 1) := by decide +kernel
theorem dX4_isStamp_3 : decode cX4_isStamp 3 = .ok (.aload_n 0, 1) := by decide +kernel
theorem dX4_isStamp_4 : decode cX4_isStamp 4 = .ok (.getfield 50, 3) := by decide +kernel
theorem dX4_isStamp_7 : decode cX4_isStamp 7 = .ok (.iconst 1, 1) := by decide +kernel
theorem dX4_isStamp_8 : decode cX4_isStamp 8 = .ok (.isub, 1) := by decide +kernel
theorem dX4_isStamp_9 : decode cX4_isStamp 9 = .ok (.i2l, 1) := by decide +kernel
theorem dX4_isStamp_10 : decode cX4_isStamp 10 = .ok (.invokestatic 56, 3) := by decide +kernel
theorem dX4_isStamp_13 : decode cX4_isStamp 13 = .ok (.ireturn, 1) := by decide +kernel
theorem dX4_isLetter_0 : decode cX4_isLetter 0 = .ok (.iload_n 1, 1) := by decide +kernel
theorem dX4_isLetter_1 : decode cX4_isLetter 1 = .ok (.i2l, 1) := by decide +kernel
theorem dX4_isLetter_2 : decode cX4_isLetter 2 = .ok (.lconst 0, 1) := by decide +kernel
theorem dX4_isLetter_3 : decode cX4_isLetter 3 = .ok (.aload_n 0, 1) := by decide +kernel
theorem dX4_isLetter_4 : decode cX4_isLetter 4 = .ok (.getfield 99, 3) := by decide +kernel
theorem dX4_isLetter_7 : decode cX4_isLetter 7 = .ok (.iconst 1, 1) := by decide +kernel
theorem dX4_isLetter_8 : decode cX4_isLetter 8 = .ok (.isub, 1) := by decide +kernel
theorem dX4_isLetter_9 : decode cX4_isLetter 9 = .ok (.i2l, 1) := by decide +kernel
theorem dX4_isLetter_10 : decode cX4_isLetter 10 = .ok (.invokestatic 56, 3) := by decide +kernel
theorem dX4_isLetter_13 : decode cX4_isLetter 13 = .ok (.ireturn, 1) := by decide +kernel
theorem dX4_span_0 : decode cX4_span 0 = .ok (.bipush 60, 2) := by decide +kernel
theorem dX4_span_2 : decode cX4_span 2 = .ok (.iconst 3, 1) := by decide +kernel
theorem dX4_span_3 : decode cX4_span 3 = .ok (.aload_n 0, 1) := by decide +kernel
theorem dX4_span_4 : decode cX4_span 4 = .ok (.getfield 16, 3) := by decide +kernel
theorem dX4_span_7 : decode cX4_span 7 = .ok (.bipush 30, 2) := by decide +kernel
theorem dX4_span_9 : decode cX4_span 9 = .ok (.iload_n 1, 1) := by decide +kernel
theorem dX4_span_10 : decode cX4_span 10 = .ok (.imul, 1) := by decide +kernel
theorem dX4_span_11 : decode cX4_span 11 = .ok (.iconst 5, 1) := by decide +kernel
theorem dX4_span_12 : decode cX4_span 12 = .ok (.iadd, 1) := by decide +kernel
theorem dX4_span_13 : decode cX4_span 13 = .ok (.iload_n 2, 1) := by decide +kernel
theorem dX4_span_14 : decode cX4_span 14 = .ok (.iadd, 1) := by decide +kernel
theorem dX4_span_15 : decode cX4_span 15 = .ok (.iaload, 1) := by decide +kernel
theorem dX4_span_16 : decode cX4_span 16 = .ok (.imul, 1) := by decide +kernel
theorem dX4_span_17 : decode cX4_span 17 = .ok (.iadd, 1) := by decide +kernel
theorem dX4_span_18 : decode cX4_span 18 = .ok (.aload_n 0, 1) := by decide +kernel
theorem dX4_span_19 : decode cX4_span 19 = .ok (.getfield 7, 3) := by decide +kernel
theorem dX4_span_22 : decode cX4_span 22 = .ok (.iload_n 2, 1) := by decide +kernel
theorem dX4_span_23 : decode cX4_span 23 = .ok (.iaload, 1) := by decide +kernel
theorem dX4_span_24 : decode cX4_span 24 = .ok (.iconst 1, 1) := by decide +kernel
theorem dX4_span_25 : decode cX4_span 25 = .ok (.if_icmp .ne 8, 3) := by decide +kernel
theorem dX4_span_28 : decode cX4_span 28 = .ok (.bipush 10, 2) := by decide +kernel
theorem dX4_span_30 : decode cX4_span 30 = .ok (.goto 19, 3) := by decide +kernel
theorem dX4_span_33 : decode cX4_span 33 = .ok (.aload_n 0, 1) := by decide +kernel
theorem dX4_span_34 : decode cX4_span 34 = .ok (.getfield 7, 3) := by decide +kernel
theorem dX4_span_37 : decode cX4_span 37 = .ok (.iload_n 2, 1) := by decide +kernel
theorem dX4_span_38 : decode cX4_span 38 = .ok (.iaload, 1) := by decide +kernel
theorem dX4_span_39 : decode cX4_span 39 = .ok (.iconst 2, 1) := by decide +kernel
theorem dX4_span_40 : decode cX4_span 40 = .ok (.if_icmp .ne 8, 3) := by decide +kernel
theorem dX4_span_43 : decode cX4_span 43 = .ok (.bipush 15, 2) := by decide +kernel
theorem dX4_span_45 : decode cX4_span 45 = .ok (.goto 4, 3) := by decide +kernel
theorem dX4_span_48 : decode cX4_span 48 = .ok (.iconst 0, 1) := by decide +kernel
theorem dX4_span_49 : decode cX4_span 49 = .ok (.iadd, 1) := by decide +kernel
theorem dX4_span_50 : decode cX4_span 50 = .ok (.ireturn, 1) := by decide +kernel
theorem dX4_isAlive_0 : decode cX4_isAlive 0 = .ok (.aload_n 0, 1) := by decide +kernel
theorem dX4_isAlive_1 : decode cX4_isAlive 1 = .ok (.getfield 16, 3) := by decide +kernel
theorem dX4_isAlive_4 : decode cX4_isAlive 4 = .ok (.bipush 30, 2) := by decide +kernel
theorem dX4_isAlive_6 : decode cX4_isAlive 6 = .ok (.iload_n 1, 1) := by decide +kernel
theorem dX4_isAlive_7 : decode cX4_isAlive 7 = .ok (.imul, 1) := by decide +kernel
theorem dX4_isAlive_8 : decode cX4_isAlive 8 = .ok (.iload_n 2, 1) := by decide +kernel
theorem dX4_isAlive_9 : decode cX4_isAlive 9 = .ok (.iadd, 1) := by decide +kernel
theorem dX4_isAlive_10 : decode cX4_isAlive 10 = .ok (.iaload, 1) := by decide +kernel
theorem dX4_isAlive_11 : decode cX4_isAlive 11 = .ok (.aload_n 0, 1) := by decide +kernel
theorem dX4_isAlive_12 : decode cX4_isAlive 12 = .ok (.iload_n 1, 1) := by decide +kernel
theorem dX4_isAlive_13 : decode cX4_isAlive 13 = .ok (.iload_n 2, 1) := by decide +kernel
theorem dX4_isAlive_14 : decode cX4_isAlive 14 = .ok (.invokevirtual 105, 3) := by decide +kernel
theorem dX4_isAlive_17 : decode cX4_isAlive 17 = .ok (.if_icmp .ge 7, 3) := by decide +kernel
theorem dX4_isAlive_20 : decode cX4_isAlive 20 = .ok (.iconst 1, 1) := by decide +kernel
theorem dX4_isAlive_21 : decode cX4_isAlive 21 = .ok (.goto 4, 3) := by decide +kernel
theorem dX4_isAlive_24 : decode cX4_isAlive 24 = .ok (.iconst 0, 1) := by decide +kernel
theorem dX4_isAlive_25 : decode cX4_isAlive 25 = .ok (.ireturn, 1) := by decide +kernel
theorem dX4_living_0 : decode cX4_living 0 = .ok (.iconst 0, 1) := by decide +kernel
theorem dX4_living_1 : decode cX4_living 1 = .ok (.istore_n 2, 1) := by decide +kernel
theorem dX4_living_2 : decode cX4_living 2 = .ok (.iconst 0, 1) := by decide +kernel
theorem dX4_living_3 : decode cX4_living 3 = .ok (.istore_n 3, 1) := by decide +kernel
theorem dX4_living_4 : decode cX4_living 4 = .ok (.iload_n 3, 1) := by decide +kernel
theorem dX4_living_5 : decode cX4_living 5 = .ok (.aload_n 0, 1) := by decide +kernel
theorem dX4_living_6 : decode cX4_living 6 = .ok (.getfield 50, 3) := by decide +kernel
theorem dX4_living_9 : decode cX4_living 9 = .ok (.if_icmp .ge 28, 3) := by decide +kernel
theorem dX4_living_12 : decode cX4_living 12 = .ok (.iload_n 2, 1) := by decide +kernel
theorem dX4_living_13 : decode cX4_living 13 = .ok (.aload_n 0, 1) := by decide +kernel
theorem dX4_living_14 : decode cX4_living 14 = .ok (.iload_n 1, 1) := by decide +kernel
theorem dX4_living_15 : decode cX4_living 15 = .ok (.iload_n 3, 1) := by decide +kernel
theorem dX4_living_16 : decode cX4_living 16 = .ok (.invokevirtual 109, 3) := by decide +kernel
theorem dX4_living_19 : decode cX4_living 19 = .ok (.ifCond .eq 9, 3) := by decide +kernel
theorem dX4_living_22 : decode cX4_living 22 = .ok (.iconst 1, 1) := by decide +kernel
theorem dX4_living_23 : decode cX4_living 23 = .ok (.iload_n 3, 1) := by decide +kernel
theorem dX4_living_24 : decode cX4_living 24 = .ok (.ishl, 1) := by decide +kernel
theorem dX4_living_25 : decode cX4_living 25 = .ok (.goto 4, 3) := by decide +kernel
theorem dX4_living_28 : decode cX4_living 28 = .ok (.iconst 0, 1) := by decide +kernel
theorem dX4_living_29 : decode cX4_living 29 = .ok (.ior, 1) := by decide +kernel
theorem dX4_living_30 : decode cX4_living 30 = .ok (.istore_n 2, 1) := by decide +kernel
theorem dX4_living_31 : decode cX4_living 31 = .ok (.iinc 3 1, 3) := by decide +kernel
theorem dX4_living_34 : decode cX4_living 34 = .ok (.goto (-30), 3) := by decide +kernel
theorem dX4_living_37 : decode cX4_living 37 = .ok (.iload_n 2, 1) := by decide +kernel
theorem dX4_living_38 : decode cX4_living 38 = .ok (.ireturn, 1) := by decide +kernel
theorem dX4_rate_0 : decode cX4_rate 0 = .ok (.aload_n 0, 1) := by decide +kernel
theorem dX4_rate_1 : decode cX4_rate 1 = .ok (.getfield 16, 3) := by decide +kernel
theorem dX4_rate_4 : decode cX4_rate 4 = .ok (.bipush 30, 2) := by decide +kernel
theorem dX4_rate_6 : decode cX4_rate 6 = .ok (.iload_n 1, 1) := by decide +kernel
theorem dX4_rate_7 : decode cX4_rate 7 = .ok (.imul, 1) := by decide +kernel
theorem dX4_rate_8 : decode cX4_rate 8 = .ok (.iload_n 2, 1) := by decide +kernel
theorem dX4_rate_9 : decode cX4_rate 9 = .ok (.iadd, 1) := by decide +kernel
theorem dX4_rate_10 : decode cX4_rate 10 = .ok (.iaload, 1) := by decide +kernel
theorem dX4_rate_11 : decode cX4_rate 11 = .ok (.istore_n 3, 1) := by decide +kernel
theorem dX4_rate_12 : decode cX4_rate 12 = .ok (.aload_n 0, 1) := by decide +kernel
theorem dX4_rate_13 : decode cX4_rate 13 = .ok (.getfield 7, 3) := by decide +kernel
theorem dX4_rate_16 : decode cX4_rate 16 = .ok (.iload_n 2, 1) := by decide +kernel
theorem dX4_rate_17 : decode cX4_rate 17 = .ok (.iaload, 1) := by decide +kernel
theorem dX4_rate_18 : decode cX4_rate 18 = .ok (.iconst 3, 1) := by decide +kernel
theorem dX4_rate_19 : decode cX4_rate 19 = .ok (.if_icmp .ne 7, 3) := by decide +kernel
theorem dX4_rate_22 : decode cX4_rate 22 = .ok (.iconst 0, 1) := by decide +kernel
theorem dX4_rate_23 : decode cX4_rate 23 = .ok (.goto 38, 3) := by decide +kernel
theorem dX4_rate_26 : decode cX4_rate 26 = .ok (.aload_n 0, 1) := by decide +kernel
theorem dX4_rate_27 : decode cX4_rate 27 = .ok (.getfield 7, 3) := by decide +kernel
theorem dX4_rate_30 : decode cX4_rate 30 = .ok (.iload_n 2, 1) := by decide +kernel
theorem dX4_rate_31 : decode cX4_rate 31 = .ok (.iaload, 1) := by decide +kernel
theorem dX4_rate_32 : decode cX4_rate 32 = .ok (.iconst 1, 1) := by decide +kernel
theorem dX4_rate_33 : decode cX4_rate 33 = .ok (.if_icmp .ne 7, 3) := by decide +kernel
theorem dX4_rate_36 : decode cX4_rate 36 = .ok (.iconst 1, 1) := by decide +kernel
theorem dX4_rate_37 : decode cX4_rate 37 = .ok (.goto 24, 3) := by decide +kernel
theorem dX4_rate_40 : decode cX4_rate 40 = .ok (.iconst 2, 1) := by decide +kernel
theorem dX4_rate_41 : decode cX4_rate 41 = .ok (.iload_n 3, 1) := by decide +kernel
theorem dX4_rate_42 : decode cX4_rate 42 = .ok (.aload_n 0, 1) := by decide +kernel
theorem dX4_rate_43 : decode cX4_rate 43 = .ok (.getfield 7, 3) := by decide +kernel
theorem dX4_rate_46 : decode cX4_rate 46 = .ok (.iload_n 2, 1) := by decide +kernel
theorem dX4_rate_47 : decode cX4_rate 47 = .ok (.iaload, 1) := by decide +kernel
theorem dX4_rate_48 : decode cX4_rate 48 = .ok (.iconst 2, 1) := by decide +kernel
theorem dX4_rate_49 : decode cX4_rate 49 = .ok (.if_icmp .ne 8, 3) := by decide +kernel
theorem dX4_rate_52 : decode cX4_rate 52 = .ok (.bipush 10, 2) := by decide +kernel
theorem dX4_rate_54 : decode cX4_rate 54 = .ok (.goto 5, 3) := by decide +kernel
theorem dX4_rate_57 : decode cX4_rate 57 = .ok (.bipush 20, 2) := by decide +kernel
theorem dX4_rate_59 : decode cX4_rate 59 = .ok (.idiv, 1) := by decide +kernel
theorem dX4_rate_60 : decode cX4_rate 60 = .ok (.iadd, 1) := by decide +kernel
theorem dX4_rate_61 : decode cX4_rate 61 = .ok (.istore 4, 2) := by decide +kernel
theorem dX4_rate_63 : decode cX4_rate 63 = .ok (.iload 4, 2) := by decide +kernel
theorem dX4_rate_65 : decode cX4_rate 65 = .ok (.bipush 9, 2) := by decide +kernel
theorem dX4_rate_67 : decode cX4_rate 67 = .ok (.if_icmp .le 8, 3) := by decide +kernel
theorem dX4_rate_70 : decode cX4_rate 70 = .ok (.bipush 9, 2) := by decide +kernel
theorem dX4_rate_72 : decode cX4_rate 72 = .ok (.goto 5, 3) := by decide +kernel
theorem dX4_rate_75 : decode cX4_rate 75 = .ok (.iload 4, 2) := by decide +kernel
theorem dX4_rate_77 : decode cX4_rate 77 = .ok (.ireturn, 1) := by decide +kernel
theorem dX4_onLetter_0 : decode cX4_onLetter 0 = .ok (.iconst 0, 1) := by decide +kernel
theorem dX4_onLetter_1 : decode cX4_onLetter 1 = .ok (.istore_n 3, 1) := by decide +kernel
theorem dX4_onLetter_2 : decode cX4_onLetter 2 = .ok (.iconst 0, 1) := by decide +kernel
theorem dX4_onLetter_3 : decode cX4_onLetter 3 = .ok (.istore 4, 2) := by decide +kernel
theorem dX4_onLetter_5 : decode cX4_onLetter 5 = .ok (.iload 4, 2) := by decide +kernel
theorem dX4_onLetter_7 : decode cX4_onLetter 7 = .ok (.aload_n 0, 1) := by decide +kernel
theorem dX4_onLetter_8 : decode cX4_onLetter 8 = .ok (.getfield 50, 3) := by decide +kernel
theorem dX4_onLetter_11 : decode cX4_onLetter 11 = .ok (.if_icmp .ge 39, 3) := by decide +kernel
theorem dX4_onLetter_14 : decode cX4_onLetter 14 = .ok (.iload_n 3, 1) := by decide +kernel
theorem dX4_onLetter_15 : decode cX4_onLetter 15 = .ok (.aload_n 0, 1) := by decide +kernel
theorem dX4_onLetter_16 : decode cX4_onLetter 16 = .ok (.getfield 16, 3) := by decide +kernel
theorem dX4_onLetter_19 : decode cX4_onLetter 19 = .ok (.bipush 30, 2) := by decide +kernel
theorem dX4_onLetter_21 : decode cX4_onLetter 21 = .ok (.iload_n 1, 1) := by decide +kernel
theorem dX4_onLetter_22 : decode cX4_onLetter 22 = .ok (.imul, 1) := by decide +kernel
theorem dX4_onLetter_23 : decode cX4_onLetter 23 = .ok (.bipush 15, 2) := by decide +kernel
theorem dX4_onLetter_25 : decode cX4_onLetter 25 = .ok (.iadd, 1) := by decide +kernel
theorem dX4_onLetter_26 : decode cX4_onLetter 26 = .ok (.iload 4, 2) := by decide +kernel
theorem dX4_onLetter_28 : decode cX4_onLetter 28 = .ok (.iadd, 1) := by decide +kernel
theorem dX4_onLetter_29 : decode cX4_onLetter 29 = .ok (.iaload, 1) := by decide +kernel
theorem dX4_onLetter_30 : decode cX4_onLetter 30 = .ok (.iload_n 2, 1) := by decide +kernel
theorem dX4_onLetter_31 : decode cX4_onLetter 31 = .ok (.if_icmp .ne 10, 3) := by decide +kernel
theorem dX4_onLetter_34 : decode cX4_onLetter 34 = .ok (.iconst 1, 1) := by decide +kernel
theorem dX4_onLetter_35 : decode cX4_onLetter 35 = .ok (.iload 4, 2) := by decide +kernel
theorem dX4_onLetter_37 : decode cX4_onLetter 37 = .ok (.ishl, 1) := by decide +kernel
theorem dX4_onLetter_38 : decode cX4_onLetter 38 = .ok (.goto 4, 3) := by decide +kernel
theorem dX4_onLetter_41 : decode cX4_onLetter 41 = .ok (.iconst 0, 1) := by decide +kernel
theorem dX4_onLetter_42 : decode cX4_onLetter 42 = .ok (.ior, 1) := by decide +kernel
theorem dX4_onLetter_43 : decode cX4_onLetter 43 = .ok (.istore_n 3, 1) := by decide +kernel
theorem dX4_onLetter_44 : decode cX4_onLetter 44 = .ok (.iinc 4 1, 3) := by decide +kernel
theorem dX4_onLetter_47 : decode cX4_onLetter 47 = .ok (.goto (-42), 3) := by decide +kernel
theorem dX4_onLetter_50 : decode cX4_onLetter 50 = .ok (.iload_n 3, 1) := by decide +kernel
theorem dX4_onLetter_51 : decode cX4_onLetter 51 = .ok (.ireturn, 1) := by decide +kernel
theorem dX4_goodFor_0 : decode cX4_goodFor 0 = .ok (.iconst 0, 1) := by decide +kernel
theorem dX4_goodFor_1 : decode cX4_goodFor 1 = .ok (.istore_n 3, 1) := by decide +kernel
theorem dX4_goodFor_2 : decode cX4_goodFor 2 = .ok (.iconst 0, 1) := by decide +kernel
theorem dX4_goodFor_3 : decode cX4_goodFor 3 = .ok (.istore 4, 2) := by decide +kernel
theorem dX4_goodFor_5 : decode cX4_goodFor 5 = .ok (.iload 4, 2) := by decide +kernel
theorem dX4_goodFor_7 : decode cX4_goodFor 7 = .ok (.aload_n 0, 1) := by decide +kernel
theorem dX4_goodFor_8 : decode cX4_goodFor 8 = .ok (.getfield 50, 3) := by decide +kernel
theorem dX4_goodFor_11 : decode cX4_goodFor 11 = .ok (.if_icmp .ge 42, 3) := by decide +kernel
theorem dX4_goodFor_14 : decode cX4_goodFor 14 = .ok (.iload_n 3, 1) := by decide +kernel
theorem dX4_goodFor_15 : decode cX4_goodFor 15 = .ok (.iload_n 2, 1) := by decide +kernel
theorem dX4_goodFor_16 : decode cX4_goodFor 16 = .ok (.iload 4, 2) := by decide +kernel
theorem dX4_goodFor_18 : decode cX4_goodFor 18 = .ok (.invokestatic 71, 3) := by decide +kernel
theorem dX4_goodFor_21 : decode cX4_goodFor 21 = .ok (.ifCond .eq 23, 3) := by decide +kernel
theorem dX4_goodFor_24 : decode cX4_goodFor 24 = .ok (.aload_n 0, 1) := by decide +kernel
theorem dX4_goodFor_25 : decode cX4_goodFor 25 = .ok (.iload_n 1, 1) := by decide +kernel
theorem dX4_goodFor_26 : decode cX4_goodFor 26 = .ok (.iload 4, 2) := by decide +kernel
theorem dX4_goodFor_28 : decode cX4_goodFor 28 = .ok (.invokevirtual 109, 3) := by decide +kernel
theorem dX4_goodFor_31 : decode cX4_goodFor 31 = .ok (.ifCond .eq 13, 3) := by decide +kernel
theorem dX4_goodFor_34 : decode cX4_goodFor 34 = .ok (.aload_n 0, 1) := by decide +kernel
theorem dX4_goodFor_35 : decode cX4_goodFor 35 = .ok (.iload_n 1, 1) := by decide +kernel
theorem dX4_goodFor_36 : decode cX4_goodFor 36 = .ok (.iload 4, 2) := by decide +kernel
theorem dX4_goodFor_38 : decode cX4_goodFor 38 = .ok (.invokevirtual 112, 3) := by decide +kernel
theorem dX4_goodFor_41 : decode cX4_goodFor 41 = .ok (.goto 4, 3) := by decide +kernel
theorem dX4_goodFor_44 : decode cX4_goodFor 44 = .ok (.iconst 0, 1) := by decide +kernel
theorem dX4_goodFor_45 : decode cX4_goodFor 45 = .ok (.iadd, 1) := by decide +kernel
theorem dX4_goodFor_46 : decode cX4_goodFor 46 = .ok (.istore_n 3, 1) := by decide +kernel
theorem dX4_goodFor_47 : decode cX4_goodFor 47 = .ok (.iinc 4 1, 3) := by decide +kernel
theorem dX4_goodFor_50 : decode cX4_goodFor 50 = .ok (.goto (-45), 3) := by decide +kernel
theorem dX4_goodFor_53 : decode cX4_goodFor 53 = .ok (.iload_n 3, 1) := by decide +kernel
theorem dX4_goodFor_54 : decode cX4_goodFor 54 = .ok (.ireturn, 1) := by decide +kernel
theorem dX4_widows_0 : decode cX4_widows 0 = .ok (.aload_n 0, 1) := by decide +kernel
theorem dX4_widows_1 : decode cX4_widows 1 = .ok (.iload_n 1, 1) := by decide +kernel
theorem dX4_widows_2 : decode cX4_widows 2 = .ok (.invokevirtual 115, 3) := by decide +kernel
theorem dX4_widows_5 : decode cX4_widows 5 = .ok (.istore_n 2, 1) := by decide +kernel
theorem dX4_widows_6 : decode cX4_widows 6 = .ok (.iconst 0, 1) := by decide +kernel
theorem dX4_widows_7 : decode cX4_widows 7 = .ok (.istore_n 3, 1) := by decide +kernel
theorem dX4_widows_8 : decode cX4_widows 8 = .ok (.iconst 0, 1) := by decide +kernel
theorem dX4_widows_9 : decode cX4_widows 9 = .ok (.istore 4, 2) := by decide +kernel
theorem dX4_widows_11 : decode cX4_widows 11 = .ok (.iload 4, 2) := by decide +kernel
theorem dX4_widows_13 : decode cX4_widows 13 = .ok (.aload_n 0, 1) := by decide +kernel
theorem dX4_widows_14 : decode cX4_widows 14 = .ok (.getfield 50, 3) := by decide +kernel
theorem dX4_widows_17 : decode cX4_widows 17 = .ok (.if_icmp .ge 51, 3) := by decide +kernel
theorem dX4_widows_20 : decode cX4_widows 20 = .ok (.iload_n 3, 1) := by decide +kernel
theorem dX4_widows_21 : decode cX4_widows 21 = .ok (.iload_n 2, 1) := by decide +kernel
theorem dX4_widows_22 : decode cX4_widows 22 = .ok (.iload 4, 2) := by decide +kernel
theorem dX4_widows_24 : decode cX4_widows 24 = .ok (.invokestatic 71, 3) := by decide +kernel
theorem dX4_widows_27 : decode cX4_widows 27 = .ok (.ifCond .eq 32, 3) := by decide +kernel
theorem dX4_widows_30 : decode cX4_widows 30 = .ok (.aload_n 0, 1) := by decide +kernel
theorem dX4_widows_31 : decode cX4_widows 31 = .ok (.getfield 16, 3) := by decide +kernel
theorem dX4_widows_34 : decode cX4_widows 34 = .ok (.bipush 30, 2) := by decide +kernel
theorem dX4_widows_36 : decode cX4_widows 36 = .ok (.iload_n 1, 1) := by decide +kernel
theorem dX4_widows_37 : decode cX4_widows 37 = .ok (.imul, 1) := by decide +kernel
theorem dX4_widows_38 : decode cX4_widows 38 = .ok (.bipush 10, 2) := by decide +kernel
theorem dX4_widows_40 : decode cX4_widows 40 = .ok (.iadd, 1) := by decide +kernel
theorem dX4_widows_41 : decode cX4_widows 41 = .ok (.iload 4, 2) := by decide +kernel
theorem dX4_widows_43 : decode cX4_widows 43 = .ok (.iadd, 1) := by decide +kernel
theorem dX4_widows_44 : decode cX4_widows 44 = .ok (.iaload, 1) := by decide +kernel
theorem dX4_widows_45 : decode cX4_widows 45 = .ok (.iload_n 2, 1) := by decide +kernel
theorem dX4_widows_46 : decode cX4_widows 46 = .ok (.iconst (-1), 1) := by decide +kernel
theorem dX4_widows_47 : decode cX4_widows 47 = .ok (.ixor, 1) := by decide +kernel
theorem dX4_widows_48 : decode cX4_widows 48 = .ok (.iand, 1) := by decide +kernel
theorem dX4_widows_49 : decode cX4_widows 49 = .ok (.ifCond .eq 10, 3) := by decide +kernel
theorem dX4_widows_52 : decode cX4_widows 52 = .ok (.iconst 1, 1) := by decide +kernel
theorem dX4_widows_53 : decode cX4_widows 53 = .ok (.iload 4, 2) := by decide +kernel
theorem dX4_widows_55 : decode cX4_widows 55 = .ok (.ishl, 1) := by decide +kernel
theorem dX4_widows_56 : decode cX4_widows 56 = .ok (.goto 4, 3) := by decide +kernel
theorem dX4_widows_59 : decode cX4_widows 59 = .ok (.iconst 0, 1) := by decide +kernel
theorem dX4_widows_60 : decode cX4_widows 60 = .ok (.ior, 1) := by decide +kernel
theorem dX4_widows_61 : decode cX4_widows 61 = .ok (.istore_n 3, 1) := by decide +kernel
theorem dX4_widows_62 : decode cX4_widows 62 = .ok (.iinc 4 1, 3) := by decide +kernel
theorem dX4_widows_65 : decode cX4_widows 65 = .ok (.goto (-54), 3) := by decide +kernel
theorem dX4_widows_68 : decode cX4_widows 68 = .ok (.iload_n 3, 1) := by decide +kernel
theorem dX4_widows_69 : decode cX4_widows 69 = .ok (.ireturn, 1) := by decide +kernel
theorem dX4_age_0 : decode cX4_age 0 = .ok (.iconst 0, 1) := by decide +kernel
theorem dX4_age_1 : decode cX4_age 1 = .ok (.istore 4, 2) := by decide +kernel
theorem dX4_age_3 : decode cX4_age 3 = .ok (.iload 4, 2) := by decide +kernel
theorem dX4_age_5 : decode cX4_age 5 = .ok (.aload_n 0, 1) := by decide +kernel
theorem dX4_age_6 : decode cX4_age 6 = .ok (.getfield 50, 3) := by decide +kernel
theorem dX4_age_9 : decode cX4_age 9 = .ok (.if_icmp .ge 49, 3) := by decide +kernel
theorem dX4_age_12 : decode cX4_age 12 = .ok (.aload_n 0, 1) := by decide +kernel
theorem dX4_age_13 : decode cX4_age 13 = .ok (.getfield 16, 3) := by decide +kernel
theorem dX4_age_16 : decode cX4_age 16 = .ok (.bipush 30, 2) := by decide +kernel
theorem dX4_age_18 : decode cX4_age 18 = .ok (.iload_n 1, 1) := by decide +kernel
theorem dX4_age_19 : decode cX4_age 19 = .ok (.imul, 1) := by decide +kernel
theorem dX4_age_20 : decode cX4_age 20 = .ok (.iload 4, 2) := by decide +kernel
theorem dX4_age_22 : decode cX4_age 22 = .ok (.iadd, 1) := by decide +kernel
theorem dX4_age_23 : decode cX4_age 23 = .ok (.dup2, 1) := by decide +kernel
theorem dX4_age_24 : decode cX4_age 24 = .ok (.iaload, 1) := by decide +kernel
theorem dX4_age_25 : decode cX4_age 25 = .ok (.iload_n 2, 1) := by decide +kernel
theorem dX4_age_26 : decode cX4_age 26 = .ok (.iload 4, 2) := by decide +kernel
theorem dX4_age_28 : decode cX4_age 28 = .ok (.invokestatic 71, 3) := by decide +kernel
theorem dX4_age_31 : decode cX4_age 31 = .ok (.ifCond .eq 18, 3) := by decide +kernel
theorem dX4_age_34 : decode cX4_age 34 = .ok (.aload_n 0, 1) := by decide +kernel
theorem dX4_age_35 : decode cX4_age 35 = .ok (.getfield 7, 3) := by decide +kernel
theorem dX4_age_38 : decode cX4_age 38 = .ok (.iload 4, 2) := by decide +kernel
theorem dX4_age_40 : decode cX4_age 40 = .ok (.iaload, 1) := by decide +kernel
theorem dX4_age_41 : decode cX4_age 41 = .ok (.iconst 3, 1) := by decide +kernel
theorem dX4_age_42 : decode cX4_age 42 = .ok (.if_icmp .eq 7, 3) := by decide +kernel
theorem dX4_age_45 : decode cX4_age 45 = .ok (.iload_n 3, 1) := by decide +kernel
theorem dX4_age_46 : decode cX4_age 46 = .ok (.goto 4, 3) := by decide +kernel
theorem dX4_age_49 : decode cX4_age 49 = .ok (.iconst 0, 1) := by decide +kernel
theorem dX4_age_50 : decode cX4_age 50 = .ok (.iadd, 1) := by decide +kernel
theorem dX4_age_51 : decode cX4_age 51 = .ok (.iastore, 1) := by decide +kernel
theorem dX4_age_52 : decode cX4_age 52 = .ok (.iinc 4 1, 3) := by decide +kernel
theorem dX4_age_55 : decode cX4_age 55 = .ok (.goto (-52), 3) := by decide +kernel
theorem dX4_age_58 : decode cX4_age 58 = .ok (.return_, 1) := by decide +kernel
theorem dX4_passOn_0 : decode cX4_passOn 0 = .ok (.bipush 30, 2) := by decide +kernel
theorem dX4_passOn_2 : decode cX4_passOn 2 = .ok (.iload_n 1, 1) := by decide +kernel
theorem dX4_passOn_3 : decode cX4_passOn 3 = .ok (.imul, 1) := by decide +kernel
theorem dX4_passOn_4 : decode cX4_passOn 4 = .ok (.istore_n 2, 1) := by decide +kernel
theorem dX4_passOn_5 : decode cX4_passOn 5 = .ok (.aload_n 0, 1) := by decide +kernel
theorem dX4_passOn_6 : decode cX4_passOn 6 = .ok (.iload_n 1, 1) := by decide +kernel
theorem dX4_passOn_7 : decode cX4_passOn 7 = .ok (.aload_n 0, 1) := by decide +kernel
theorem dX4_passOn_8 : decode cX4_passOn 8 = .ok (.iload_n 1, 1) := by decide +kernel
theorem dX4_passOn_9 : decode cX4_passOn 9 = .ok (.invokevirtual 115, 3) := by decide +kernel
theorem dX4_passOn_12 : decode cX4_passOn 12 = .ok (.iconst 1, 1) := by decide +kernel
theorem dX4_passOn_13 : decode cX4_passOn 13 = .ok (.aload_n 0, 1) := by decide +kernel
theorem dX4_passOn_14 : decode cX4_passOn 14 = .ok (.getfield 16, 3) := by decide +kernel
theorem dX4_passOn_17 : decode cX4_passOn 17 = .ok (.iload_n 2, 1) := by decide +kernel
theorem dX4_passOn_18 : decode cX4_passOn 18 = .ok (.bipush 28, 2) := by decide +kernel
theorem dX4_passOn_20 : decode cX4_passOn 20 = .ok (.iadd, 1) := by decide +kernel
theorem dX4_passOn_21 : decode cX4_passOn 21 = .ok (.iaload, 1) := by decide +kernel
theorem dX4_passOn_22 : decode cX4_passOn 22 = .ok (.iadd, 1) := by decide +kernel
theorem dX4_passOn_23 : decode cX4_passOn 23 = .ok (.invokevirtual 118, 3) := by decide +kernel
theorem dX4_passOn_26 : decode cX4_passOn 26 = .ok (.aload_n 0, 1) := by decide +kernel
theorem dX4_passOn_27 : decode cX4_passOn 27 = .ok (.iload_n 1, 1) := by decide +kernel
theorem dX4_passOn_28 : decode cX4_passOn 28 = .ok (.aload_n 0, 1) := by decide +kernel
theorem dX4_passOn_29 : decode cX4_passOn 29 = .ok (.iload_n 1, 1) := by decide +kernel
theorem dX4_passOn_30 : decode cX4_passOn 30 = .ok (.invokevirtual 122, 3) := by decide +kernel
theorem dX4_passOn_33 : decode cX4_passOn 33 = .ok (.iconst 2, 1) := by decide +kernel
theorem dX4_passOn_34 : decode cX4_passOn 34 = .ok (.invokevirtual 118, 3) := by decide +kernel
theorem dX4_passOn_37 : decode cX4_passOn 37 = .ok (.aload_n 0, 1) := by decide +kernel
theorem dX4_passOn_38 : decode cX4_passOn 38 = .ok (.iload_n 1, 1) := by decide +kernel
theorem dX4_passOn_39 : decode cX4_passOn 39 = .ok (.invokevirtual 115, 3) := by decide +kernel
theorem dX4_passOn_42 : decode cX4_passOn 42 = .ok (.istore_n 3, 1) := by decide +kernel
theorem dX4_passOn_43 : decode cX4_passOn 43 = .ok (.iconst 0, 1) := by decide +kernel
theorem dX4_passOn_44 : decode cX4_passOn 44 = .ok (.istore 4, 2) := by decide +kernel
theorem dX4_passOn_46 : decode cX4_passOn 46 = .ok (.iload 4, 2) := by decide +kernel
theorem dX4_passOn_48 : decode cX4_passOn 48 = .ok (.aload_n 0, 1) := by decide +kernel
theorem dX4_passOn_49 : decode cX4_passOn 49 = .ok (.getfield 99, 3) := by decide +kernel
theorem dX4_passOn_52 : decode cX4_passOn 52 = .ok (.if_icmp .ge 101, 3) := by decide +kernel
theorem dX4_passOn_55 : decode cX4_passOn 55 = .ok (.aload_n 0, 1) := by decide +kernel
theorem dX4_passOn_56 : decode cX4_passOn 56 = .ok (.getfield 16, 3) := by decide +kernel
theorem dX4_passOn_59 : decode cX4_passOn 59 = .ok (.iload_n 2, 1) := by decide +kernel
theorem dX4_passOn_60 : decode cX4_passOn 60 = .ok (.bipush 24, 2) := by decide +kernel
theorem dX4_passOn_62 : decode cX4_passOn 62 = .ok (.iadd, 1) := by decide +kernel
theorem dX4_passOn_63 : decode cX4_passOn 63 = .ok (.iload 4, 2) := by decide +kernel
theorem dX4_passOn_65 : decode cX4_passOn 65 = .ok (.iadd, 1) := by decide +kernel
theorem dX4_passOn_66 : decode cX4_passOn 66 = .ok (.iaload, 1) := by decide +kernel
theorem dX4_passOn_67 : decode cX4_passOn 67 = .ok (.iconst 1, 1) := by decide +kernel
theorem dX4_passOn_68 : decode cX4_passOn 68 = .ok (.if_icmp .ne 79, 3) := by decide +kernel
theorem dX4_passOn_71 : decode cX4_passOn 71 = .ok (.aload_n 0, 1) := by decide +kernel
theorem dX4_passOn_72 : decode cX4_passOn 72 = .ok (.getfield 16, 3) := by decide +kernel
theorem dX4_passOn_75 : decode cX4_passOn 75 = .ok (.iload_n 2, 1) := by decide +kernel
theorem dX4_passOn_76 : decode cX4_passOn 76 = .ok (.bipush 20, 2) := by decide +kernel
theorem dX4_passOn_78 : decode cX4_passOn 78 = .ok (.iadd, 1) := by decide +kernel
theorem dX4_passOn_79 : decode cX4_passOn 79 = .ok (.iload 4, 2) := by decide +kernel
theorem dX4_passOn_81 : decode cX4_passOn 81 = .ok (.iadd, 1) := by decide +kernel
theorem dX4_passOn_82 : decode cX4_passOn 82 = .ok (.dup2, 1) := by decide +kernel
theorem dX4_passOn_83 : decode cX4_passOn 83 = .ok (.iaload, 1) := by decide +kernel
theorem dX4_passOn_84 : decode cX4_passOn 84 = .ok (.iconst 1, 1) := by decide +kernel
theorem dX4_passOn_85 : decode cX4_passOn 85 = .ok (.isub, 1) := by decide +kernel
theorem dX4_passOn_86 : decode cX4_passOn 86 = .ok (.iastore, 1) := by decide +kernel
theorem dX4_passOn_87 : decode cX4_passOn 87 = .ok (.aload_n 0, 1) := by decide +kernel
theorem dX4_passOn_88 : decode cX4_passOn 88 = .ok (.iload_n 1, 1) := by decide +kernel
theorem dX4_passOn_89 : decode cX4_passOn 89 = .ok (.iload 4, 2) := by decide +kernel
theorem dX4_passOn_91 : decode cX4_passOn 91 = .ok (.invokevirtual 125, 3) := by decide +kernel
theorem dX4_passOn_94 : decode cX4_passOn 94 = .ok (.iload_n 3, 1) := by decide +kernel
theorem dX4_passOn_95 : decode cX4_passOn 95 = .ok (.iand, 1) := by decide +kernel
theorem dX4_passOn_96 : decode cX4_passOn 96 = .ok (.ifCond .eq 7, 3) := by decide +kernel
theorem dX4_passOn_99 : decode cX4_passOn 99 = .ok (.iconst 1, 1) := by decide +kernel
theorem dX4_passOn_100 : decode cX4_passOn 100 = .ok (.goto 4, 3) := by decide +kernel
theorem dX4_passOn_103 : decode cX4_passOn 103 = .ok (.iconst 0, 1) := by decide +kernel
theorem dX4_passOn_104 : decode cX4_passOn 104 = .ok (.istore 5, 2) := by decide +kernel
theorem dX4_passOn_106 : decode cX4_passOn 106 = .ok (.aload_n 0, 1) := by decide +kernel
theorem dX4_passOn_107 : decode cX4_passOn 107 = .ok (.getfield 16, 3) := by decide +kernel
theorem dX4_passOn_110 : decode cX4_passOn 110 = .ok (.iload_n 2, 1) := by decide +kernel
theorem dX4_passOn_111 : decode cX4_passOn 111 = .ok (.bipush 24, 2) := by decide +kernel
theorem dX4_passOn_113 : decode cX4_passOn 113 = .ok (.iadd, 1) := by decide +kernel
theorem dX4_passOn_114 : decode cX4_passOn 114 = .ok (.iload 4, 2) := by decide +kernel
theorem dX4_passOn_116 : decode cX4_passOn 116 = .ok (.iadd, 1) := by decide +kernel
theorem dX4_passOn_117 : decode cX4_passOn 117 = .ok (.aload_n 0, 1) := by decide +kernel
theorem dX4_passOn_118 : decode cX4_passOn 118 = .ok (.getfield 16, 3) := by decide +kernel
theorem dX4_passOn_121 : decode cX4_passOn 121 = .ok (.iload_n 2, 1) := by decide +kernel
theorem dX4_passOn_122 : decode cX4_passOn 122 = .ok (.bipush 20, 2) := by decide +kernel
theorem dX4_passOn_124 : decode cX4_passOn 124 = .ok (.iadd, 1) := by decide +kernel
theorem dX4_passOn_125 : decode cX4_passOn 125 = .ok (.iload 4, 2) := by decide +kernel
theorem dX4_passOn_127 : decode cX4_passOn 127 = .ok (.iadd, 1) := by decide +kernel
theorem dX4_passOn_128 : decode cX4_passOn 128 = .ok (.iaload, 1) := by decide +kernel
theorem dX4_passOn_129 : decode cX4_passOn 129 = .ok (.ifCond .le 7, 3) := by decide +kernel
theorem dX4_passOn_132 : decode cX4_passOn 132 = .ok (.iconst 1, 1) := by decide +kernel
theorem dX4_passOn_133 : decode cX4_passOn 133 = .ok (.goto 13, 3) := by decide +kernel
theorem dX4_passOn_136 : decode cX4_passOn 136 = .ok (.iload 5, 2) := by decide +kernel
theorem dX4_passOn_138 : decode cX4_passOn 138 = .ok (.ifCond .eq 7, 3) := by decide +kernel
theorem dX4_passOn_141 : decode cX4_passOn 141 = .ok (.iconst 2, 1) := by decide +kernel
theorem dX4_passOn_142 : decode cX4_passOn 142 = .ok (.goto 4, 3) := by decide +kernel
theorem dX4_passOn_145 : decode cX4_passOn 145 = .ok (.iconst 3, 1) := by decide +kernel
theorem dX4_passOn_146 : decode cX4_passOn 146 = .ok (.iastore, 1) := by decide +kernel
theorem dX4_passOn_147 : decode cX4_passOn 147 = .ok (.iinc 4 1, 3) := by decide +kernel
theorem dX4_passOn_150 : decode cX4_passOn 150 = .ok (.goto (-104), 3) := by decide +kernel
theorem dX4_passOn_153 : decode cX4_passOn 153 = .ok (.aload_n 0, 1) := by decide +kernel
theorem dX4_passOn_154 : decode cX4_passOn 154 = .ok (.getfield 16, 3) := by decide +kernel
theorem dX4_passOn_157 : decode cX4_passOn 157 = .ok (.iload_n 2, 1) := by decide +kernel
theorem dX4_passOn_158 : decode cX4_passOn 158 = .ok (.bipush 29, 2) := by decide +kernel
theorem dX4_passOn_160 : decode cX4_passOn 160 = .ok (.iadd, 1) := by decide +kernel
theorem dX4_passOn_161 : decode cX4_passOn 161 = .ok (.dup2, 1) := by decide +kernel
theorem dX4_passOn_162 : decode cX4_passOn 162 = .ok (.iaload, 1) := by decide +kernel
theorem dX4_passOn_163 : decode cX4_passOn 163 = .ok (.iconst 1, 1) := by decide +kernel
theorem dX4_passOn_164 : decode cX4_passOn 164 = .ok (.iadd, 1) := by decide +kernel
theorem dX4_passOn_165 : decode cX4_passOn 165 = .ok (.iastore, 1) := by decide +kernel
theorem dX4_passOn_166 : decode cX4_passOn 166 = .ok (.return_, 1) := by decide +kernel
theorem dX4_stamp_0 : decode cX4_stamp 0 = .ok (.aload_n 0, 1) := by decide +kernel
theorem dX4_stamp_1 : decode cX4_stamp 1 = .ok (.iload_n 1, 1) := by decide +kernel
theorem dX4_stamp_2 : decode cX4_stamp 2 = .ok (.invokevirtual 128, 3) := by decide +kernel
theorem dX4_stamp_5 : decode cX4_stamp 5 = .ok (.ifCond .ne 5, 3) := by decide +kernel
theorem dX4_stamp_8 : decode cX4_stamp 8 = .ok (.iconst (-1), 1) := by decide +kernel
theorem dX4_stamp_9 : decode cX4_stamp 9 = .ok (.ireturn, 1) := by decide +kernel
theorem dX4_stamp_10 : decode cX4_stamp 10 = .ok (.iload_n 2, 1) := by decide +kernel
theorem dX4_stamp_11 : decode cX4_stamp 11 = .ok (.tableswitch 117 0 7 #[45, 52, 61, 68, 75, 82, 97, 107], 45) := by decide +kernel
theorem dX4_stamp_56 : decode cX4_stamp 56 = .ok (.aload_n 0, 1) := by decide +kernel
theorem dX4_stamp_57 : decode cX4_stamp 57 = .ok (.getfield 16, 3) := by decide +kernel
theorem dX4_stamp_60 : decode cX4_stamp 60 = .ok (.iload_n 1, 1) := by decide +kernel
theorem dX4_stamp_61 : decode cX4_stamp 61 = .ok (.iaload, 1) := by decide +kernel
theorem dX4_stamp_62 : decode cX4_stamp 62 = .ok (.ireturn, 1) := by decide +kernel
theorem dX4_stamp_63 : decode cX4_stamp 63 = .ok (.aload_n 0, 1) := by decide +kernel
theorem dX4_stamp_64 : decode cX4_stamp 64 = .ok (.getfield 16, 3) := by decide +kernel
theorem dX4_stamp_67 : decode cX4_stamp 67 = .ok (.iconst 5, 1) := by decide +kernel
theorem dX4_stamp_68 : decode cX4_stamp 68 = .ok (.iload_n 1, 1) := by decide +kernel
theorem dX4_stamp_69 : decode cX4_stamp 69 = .ok (.iadd, 1) := by decide +kernel
theorem dX4_stamp_70 : decode cX4_stamp 70 = .ok (.iaload, 1) := by decide +kernel
theorem dX4_stamp_71 : decode cX4_stamp 71 = .ok (.ireturn, 1) := by decide +kernel
theorem dX4_stamp_72 : decode cX4_stamp 72 = .ok (.aload_n 0, 1) := by decide +kernel
theorem dX4_stamp_73 : decode cX4_stamp 73 = .ok (.getfield 7, 3) := by decide +kernel
theorem dX4_stamp_76 : decode cX4_stamp 76 = .ok (.iload_n 1, 1) := by decide +kernel
theorem dX4_stamp_77 : decode cX4_stamp 77 = .ok (.iaload, 1) := by decide +kernel
theorem dX4_stamp_78 : decode cX4_stamp 78 = .ok (.ireturn, 1) := by decide +kernel
theorem dX4_stamp_79 : decode cX4_stamp 79 = .ok (.aload_n 0, 1) := by decide +kernel
theorem dX4_stamp_80 : decode cX4_stamp 80 = .ok (.iconst 0, 1) := by decide +kernel
theorem dX4_stamp_81 : decode cX4_stamp 81 = .ok (.iload_n 1, 1) := by decide +kernel
theorem dX4_stamp_82 : decode cX4_stamp 82 = .ok (.invokevirtual 105, 3) := by decide +kernel
theorem dX4_stamp_85 : decode cX4_stamp 85 = .ok (.ireturn, 1) := by decide +kernel
theorem dX4_stamp_86 : decode cX4_stamp 86 = .ok (.aload_n 0, 1) := by decide +kernel
theorem dX4_stamp_87 : decode cX4_stamp 87 = .ok (.iconst 0, 1) := by decide +kernel
theorem dX4_stamp_88 : decode cX4_stamp 88 = .ok (.iload_n 1, 1) := by decide +kernel
theorem dX4_stamp_89 : decode cX4_stamp 89 = .ok (.invokevirtual 112, 3) := by decide +kernel
theorem dX4_stamp_92 : decode cX4_stamp 92 = .ok (.ireturn, 1) := by decide +kernel
theorem dX4_stamp_93 : decode cX4_stamp 93 = .ok (.aload_n 0, 1) := by decide +kernel
theorem dX4_stamp_94 : decode cX4_stamp 94 = .ok (.iconst 0, 1) := by decide +kernel
theorem dX4_stamp_95 : decode cX4_stamp 95 = .ok (.iload_n 1, 1) := by decide +kernel
theorem dX4_stamp_96 : decode cX4_stamp 96 = .ok (.invokevirtual 109, 3) := by decide +kernel
theorem dX4_stamp_99 : decode cX4_stamp 99 = .ok (.ifCond .eq 7, 3) := by decide +kernel
theorem dX4_stamp_102 : decode cX4_stamp 102 = .ok (.iconst 1, 1) := by decide +kernel
theorem dX4_stamp_103 : decode cX4_stamp 103 = .ok (.goto 4, 3) := by decide +kernel
theorem dX4_stamp_106 : decode cX4_stamp 106 = .ok (.iconst 0, 1) := by decide +kernel
theorem dX4_stamp_107 : decode cX4_stamp 107 = .ok (.ireturn, 1) := by decide +kernel
theorem dX4_stamp_108 : decode cX4_stamp 108 = .ok (.aload_n 0, 1) := by decide +kernel
theorem dX4_stamp_109 : decode cX4_stamp 109 = .ok (.getfield 16, 3) := by decide +kernel
theorem dX4_stamp_112 : decode cX4_stamp 112 = .ok (.bipush 15, 2) := by decide +kernel
theorem dX4_stamp_114 : decode cX4_stamp 114 = .ok (.iload_n 1, 1) := by decide +kernel
theorem dX4_stamp_115 : decode cX4_stamp 115 = .ok (.iadd, 1) := by decide +kernel
theorem dX4_stamp_116 : decode cX4_stamp 116 = .ok (.iaload, 1) := by decide +kernel
theorem dX4_stamp_117 : decode cX4_stamp 117 = .ok (.ireturn, 1) := by decide +kernel
theorem dX4_stamp_118 : decode cX4_stamp 118 = .ok (.aload_n 0, 1) := by decide +kernel
theorem dX4_stamp_119 : decode cX4_stamp 119 = .ok (.getfield 16, 3) := by decide +kernel
theorem dX4_stamp_122 : decode cX4_stamp 122 = .ok (.bipush 10, 2) := by decide +kernel
theorem dX4_stamp_124 : decode cX4_stamp 124 = .ok (.iload_n 1, 1) := by decide +kernel
theorem dX4_stamp_125 : decode cX4_stamp 125 = .ok (.iadd, 1) := by decide +kernel
theorem dX4_stamp_126 : decode cX4_stamp 126 = .ok (.iaload, 1) := by decide +kernel
theorem dX4_stamp_127 : decode cX4_stamp 127 = .ok (.ireturn, 1) := by decide +kernel
theorem dX4_stamp_128 : decode cX4_stamp 128 = .ok (.bipush (-2), 2) := by decide +kernel
theorem dX4_stamp_130 : decode cX4_stamp 130 = .ok (.ireturn, 1) := by decide +kernel
theorem dX4_letter_0 : decode cX4_letter 0 = .ok (.aload_n 0, 1) := by decide +kernel
theorem dX4_letter_1 : decode cX4_letter 1 = .ok (.iload_n 1, 1) := by decide +kernel
theorem dX4_letter_2 : decode cX4_letter 2 = .ok (.invokevirtual 132, 3) := by decide +kernel
theorem dX4_letter_5 : decode cX4_letter 5 = .ok (.ifCond .ne 5, 3) := by decide +kernel
theorem dX4_letter_8 : decode cX4_letter 8 = .ok (.iconst (-1), 1) := by decide +kernel
theorem dX4_letter_9 : decode cX4_letter 9 = .ok (.ireturn, 1) := by decide +kernel
theorem dX4_letter_10 : decode cX4_letter 10 = .ok (.iload_n 2, 1) := by decide +kernel
theorem dX4_letter_11 : decode cX4_letter 11 = .ok (.tableswitch 79 0 4 #[33, 43, 50, 57, 69], 33) := by decide +kernel
theorem dX4_letter_44 : decode cX4_letter 44 = .ok (.aload_n 0, 1) := by decide +kernel
theorem dX4_letter_45 : decode cX4_letter 45 = .ok (.getfield 16, 3) := by decide +kernel
theorem dX4_letter_48 : decode cX4_letter 48 = .ok (.bipush 20, 2) := by decide +kernel
theorem dX4_letter_50 : decode cX4_letter 50 = .ok (.iload_n 1, 1) := by decide +kernel
theorem dX4_letter_51 : decode cX4_letter 51 = .ok (.iadd, 1) := by decide +kernel
theorem dX4_letter_52 : decode cX4_letter 52 = .ok (.iaload, 1) := by decide +kernel
theorem dX4_letter_53 : decode cX4_letter 53 = .ok (.ireturn, 1) := by decide +kernel
theorem dX4_letter_54 : decode cX4_letter 54 = .ok (.aload_n 0, 1) := by decide +kernel
theorem dX4_letter_55 : decode cX4_letter 55 = .ok (.getfield 13, 3) := by decide +kernel
theorem dX4_letter_58 : decode cX4_letter 58 = .ok (.iload_n 1, 1) := by decide +kernel
theorem dX4_letter_59 : decode cX4_letter 59 = .ok (.iaload, 1) := by decide +kernel
theorem dX4_letter_60 : decode cX4_letter 60 = .ok (.ireturn, 1) := by decide +kernel
theorem dX4_letter_61 : decode cX4_letter 61 = .ok (.aload_n 0, 1) := by decide +kernel
theorem dX4_letter_62 : decode cX4_letter 62 = .ok (.iconst 0, 1) := by decide +kernel
theorem dX4_letter_63 : decode cX4_letter 63 = .ok (.iload_n 1, 1) := by decide +kernel
theorem dX4_letter_64 : decode cX4_letter 64 = .ok (.invokevirtual 125, 3) := by decide +kernel
theorem dX4_letter_67 : decode cX4_letter 67 = .ok (.ireturn, 1) := by decide +kernel
theorem dX4_letter_68 : decode cX4_letter 68 = .ok (.aload_n 0, 1) := by decide +kernel
theorem dX4_letter_69 : decode cX4_letter 69 = .ok (.iconst 0, 1) := by decide +kernel
theorem dX4_letter_70 : decode cX4_letter 70 = .ok (.aload_n 0, 1) := by decide +kernel
theorem dX4_letter_71 : decode cX4_letter 71 = .ok (.iconst 0, 1) := by decide +kernel
theorem dX4_letter_72 : decode cX4_letter 72 = .ok (.iload_n 1, 1) := by decide +kernel
theorem dX4_letter_73 : decode cX4_letter 73 = .ok (.invokevirtual 125, 3) := by decide +kernel
theorem dX4_letter_76 : decode cX4_letter 76 = .ok (.invokevirtual 135, 3) := by decide +kernel
theorem dX4_letter_79 : decode cX4_letter 79 = .ok (.ireturn, 1) := by decide +kernel
theorem dX4_letter_80 : decode cX4_letter 80 = .ok (.aload_n 0, 1) := by decide +kernel
theorem dX4_letter_81 : decode cX4_letter 81 = .ok (.getfield 16, 3) := by decide +kernel
theorem dX4_letter_84 : decode cX4_letter 84 = .ok (.bipush 24, 2) := by decide +kernel
theorem dX4_letter_86 : decode cX4_letter 86 = .ok (.iload_n 1, 1) := by decide +kernel
theorem dX4_letter_87 : decode cX4_letter 87 = .ok (.iadd, 1) := by decide +kernel
theorem dX4_letter_88 : decode cX4_letter 88 = .ok (.iaload, 1) := by decide +kernel
theorem dX4_letter_89 : decode cX4_letter 89 = .ok (.ireturn, 1) := by decide +kernel
theorem dX4_letter_90 : decode cX4_letter 90 = .ok (.bipush (-2), 2) := by decide +kernel
theorem dX4_letter_92 : decode cX4_letter 92 = .ok (.ireturn, 1) := by decide +kernel
theorem dX4_keepAct_0 : decode cX4_keepAct 0 = .ok (.iconst 0, 1) := by decide +kernel
theorem dX4_keepAct_1 : decode cX4_keepAct 1 = .ok (.istore_n 1, 1) := by decide +kernel
theorem dX4_keepAct_2 : decode cX4_keepAct 2 = .ok (.iload_n 1, 1) := by decide +kernel
theorem dX4_keepAct_3 : decode cX4_keepAct 3 = .ok (.bipush 30, 2) := by decide +kernel
theorem dX4_keepAct_5 : decode cX4_keepAct 5 = .ok (.if_icmp .ge 29, 3) := by decide +kernel
theorem dX4_keepAct_8 : decode cX4_keepAct 8 = .ok (.aload_n 0, 1) := by decide +kernel
theorem dX4_keepAct_9 : decode cX4_keepAct 9 = .ok (.getfield 31, 3) := by decide +kernel
theorem dX4_keepAct_12 : decode cX4_keepAct 12 = .ok (.bipush 30, 2) := by decide +kernel
theorem dX4_keepAct_14 : decode cX4_keepAct 14 = .ok (.aload_n 0, 1) := by decide +kernel
theorem dX4_keepAct_15 : decode cX4_keepAct 15 = .ok (.getfield 138, 3) := by decide +kernel
theorem dX4_keepAct_18 : decode cX4_keepAct 18 = .ok (.imul, 1) := by decide +kernel
theorem dX4_keepAct_19 : decode cX4_keepAct 19 = .ok (.iload_n 1, 1) := by decide +kernel
theorem dX4_keepAct_20 : decode cX4_keepAct 20 = .ok (.iadd, 1) := by decide +kernel
theorem dX4_keepAct_21 : decode cX4_keepAct 21 = .ok (.aload_n 0, 1) := by decide +kernel
theorem dX4_keepAct_22 : decode cX4_keepAct 22 = .ok (.getfield 16, 3) := by decide +kernel
theorem dX4_keepAct_25 : decode cX4_keepAct 25 = .ok (.iload_n 1, 1) := by decide +kernel
theorem dX4_keepAct_26 : decode cX4_keepAct 26 = .ok (.iaload, 1) := by decide +kernel
theorem dX4_keepAct_27 : decode cX4_keepAct 27 = .ok (.iastore, 1) := by decide +kernel
theorem dX4_keepAct_28 : decode cX4_keepAct 28 = .ok (.iinc 1 1, 3) := by decide +kernel
theorem dX4_keepAct_31 : decode cX4_keepAct 31 = .ok (.goto (-29), 3) := by decide +kernel
theorem dX4_keepAct_34 : decode cX4_keepAct 34 = .ok (.aload_n 0, 1) := by decide +kernel
theorem dX4_keepAct_35 : decode cX4_keepAct 35 = .ok (.aload_n 0, 1) := by decide +kernel
theorem dX4_keepAct_36 : decode cX4_keepAct 36 = .ok (.getfield 138, 3) := by decide +kernel
theorem dX4_keepAct_39 : decode cX4_keepAct 39 = .ok (.iconst 1, 1) := by decide +kernel
theorem dX4_keepAct_40 : decode cX4_keepAct 40 = .ok (.iadd, 1) := by decide +kernel
theorem dX4_keepAct_41 : decode cX4_keepAct 41 = .ok (.bipush 14, 2) := by decide +kernel
theorem dX4_keepAct_43 : decode cX4_keepAct 43 = .ok (.irem, 1) := by decide +kernel
theorem dX4_keepAct_44 : decode cX4_keepAct 44 = .ok (.putfield 138, 3) := by decide +kernel
theorem dX4_keepAct_47 : decode cX4_keepAct 47 = .ok (.aload_n 0, 1) := by decide +kernel
theorem dX4_keepAct_48 : decode cX4_keepAct 48 = .ok (.aload_n 0, 1) := by decide +kernel
theorem dX4_keepAct_49 : decode cX4_keepAct 49 = .ok (.getfield 102, 3) := by decide +kernel
theorem dX4_keepAct_52 : decode cX4_keepAct 52 = .ok (.bipush 14, 2) := by decide +kernel
theorem dX4_keepAct_54 : decode cX4_keepAct 54 = .ok (.if_icmp .ge 12, 3) := by decide +kernel
theorem dX4_keepAct_57 : decode cX4_keepAct 57 = .ok (.aload_n 0, 1) := by decide +kernel
theorem dX4_keepAct_58 : decode cX4_keepAct 58 = .ok (.getfield 102, 3) := by decide +kernel
theorem dX4_keepAct_61 : decode cX4_keepAct 61 = .ok (.iconst 1, 1) := by decide +kernel
theorem dX4_keepAct_62 : decode cX4_keepAct 62 = .ok (.iadd, 1) := by decide +kernel
theorem dX4_keepAct_63 : decode cX4_keepAct 63 = .ok (.goto 5, 3) := by decide +kernel
theorem dX4_keepAct_66 : decode cX4_keepAct 66 = .ok (.bipush 14, 2) := by decide +kernel
theorem dX4_keepAct_68 : decode cX4_keepAct 68 = .ok (.putfield 102, 3) := by decide +kernel
theorem dX4_keepAct_71 : decode cX4_keepAct 71 = .ok (.return_, 1) := by decide +kernel
theorem dX4_week_0 : decode cX4_week 0 = .ok (.aload_n 0, 1) := by decide +kernel
theorem dX4_week_1 : decode cX4_week 1 = .ok (.invokevirtual 141, 3) := by decide +kernel
theorem dX4_week_4 : decode cX4_week 4 = .ok (.aload_n 0, 1) := by decide +kernel
theorem dX4_week_5 : decode cX4_week 5 = .ok (.iconst 0, 1) := by decide +kernel
theorem dX4_week_6 : decode cX4_week 6 = .ok (.invokevirtual 144, 3) := by decide +kernel
theorem dX4_week_9 : decode cX4_week 9 = .ok (.aload_n 0, 1) := by decide +kernel
theorem dX4_week_10 : decode cX4_week 10 = .ok (.iconst 0, 1) := by decide +kernel
theorem dX4_week_11 : decode cX4_week 11 = .ok (.invokevirtual 115, 3) := by decide +kernel
theorem dX4_week_14 : decode cX4_week 14 = .ok (.invokestatic 147, 3) := by decide +kernel
theorem dX4_week_17 : decode cX4_week 17 = .ok (.ireturn, 1) := by decide +kernel
theorem dX4_isFree_0 : decode cX4_isFree 0 = .ok (.aload_n 0, 1) := by decide +kernel
theorem dX4_isFree_1 : decode cX4_isFree 1 = .ok (.iload_n 1, 1) := by decide +kernel
theorem dX4_isFree_2 : decode cX4_isFree 2 = .ok (.iload_n 2, 1) := by decide +kernel
theorem dX4_isFree_3 : decode cX4_isFree 3 = .ok (.invokevirtual 109, 3) := by decide +kernel
theorem dX4_isFree_6 : decode cX4_isFree 6 = .ok (.ifCond .eq 26, 3) := by decide +kernel
theorem dX4_isFree_9 : decode cX4_isFree 9 = .ok (.aload_n 0, 1) := by decide +kernel
theorem dX4_isFree_10 : decode cX4_isFree 10 = .ok (.getfield 16, 3) := by decide +kernel
theorem dX4_isFree_13 : decode cX4_isFree 13 = .ok (.bipush 30, 2) := by decide +kernel
theorem dX4_isFree_15 : decode cX4_isFree 15 = .ok (.iload_n 1, 1) := by decide +kernel
theorem dX4_isFree_16 : decode cX4_isFree 16 = .ok (.imul, 1) := by decide +kernel
theorem dX4_isFree_17 : decode cX4_isFree 17 = .ok (.bipush 15, 2) := by decide +kernel
theorem dX4_isFree_19 : decode cX4_isFree 19 = .ok (.iadd, 1) := by decide +kernel
theorem dX4_isFree_20 : decode cX4_isFree 20 = .ok (.iload_n 2, 1) := by decide +kernel
theorem dX4_isFree_21 : decode cX4_isFree 21 = .ok (.iadd, 1) := by decide +kernel
theorem dX4_isFree_22 : decode cX4_isFree 22 = .ok (.iaload, 1) := by decide +kernel
theorem dX4_isFree_23 : decode cX4_isFree 23 = .ok (.bipush (-9), 2) := by decide +kernel
theorem dX4_isFree_25 : decode cX4_isFree 25 = .ok (.if_icmp .ne 7, 3) := by decide +kernel
theorem dX4_isFree_28 : decode cX4_isFree 28 = .ok (.iconst 1, 1) := by decide +kernel
theorem dX4_isFree_29 : decode cX4_isFree 29 = .ok (.goto 4, 3) := by decide +kernel
theorem dX4_isFree_32 : decode cX4_isFree 32 = .ok (.iconst 0, 1) := by decide +kernel
theorem dX4_isFree_33 : decode cX4_isFree 33 = .ok (.ireturn, 1) := by decide +kernel
theorem dX4_canStick_0 : decode cX4_canStick 0 = .ok (.aload_n 0, 1) := by decide +kernel
theorem dX4_canStick_1 : decode cX4_canStick 1 = .ok (.iload_n 2, 1) := by decide +kernel
theorem dX4_canStick_2 : decode cX4_canStick 2 = .ok (.invokevirtual 128, 3) := by decide +kernel
theorem dX4_canStick_5 : decode cX4_canStick 5 = .ok (.ifCond .eq 41, 3) := by decide +kernel
theorem dX4_canStick_8 : decode cX4_canStick 8 = .ok (.aload_n 0, 1) := by decide +kernel
theorem dX4_canStick_9 : decode cX4_canStick 9 = .ok (.iload_n 3, 1) := by decide +kernel
theorem dX4_canStick_10 : decode cX4_canStick 10 = .ok (.invokevirtual 132, 3) := by decide +kernel
theorem dX4_canStick_13 : decode cX4_canStick 13 = .ok (.ifCond .eq 33, 3) := by decide +kernel
theorem dX4_canStick_16 : decode cX4_canStick 16 = .ok (.aload_n 0, 1) := by decide +kernel
theorem dX4_canStick_17 : decode cX4_canStick 17 = .ok (.iload_n 1, 1) := by decide +kernel
theorem dX4_canStick_18 : decode cX4_canStick 18 = .ok (.iload_n 2, 1) := by decide +kernel
theorem dX4_canStick_19 : decode cX4_canStick 19 = .ok (.invokevirtual 150, 3) := by decide +kernel
theorem dX4_canStick_22 : decode cX4_canStick 22 = .ok (.ifCond .eq 24, 3) := by decide +kernel
theorem dX4_canStick_25 : decode cX4_canStick 25 = .ok (.aload_n 0, 1) := by decide +kernel
theorem dX4_canStick_26 : decode cX4_canStick 26 = .ok (.getfield 16, 3) := by decide +kernel
theorem dX4_canStick_29 : decode cX4_canStick 29 = .ok (.bipush 30, 2) := by decide +kernel
theorem dX4_canStick_31 : decode cX4_canStick 31 = .ok (.iload_n 1, 1) := by decide +kernel
theorem dX4_canStick_32 : decode cX4_canStick 32 = .ok (.imul, 1) := by decide +kernel
theorem dX4_canStick_33 : decode cX4_canStick 33 = .ok (.bipush 24, 2) := by decide +kernel
theorem dX4_canStick_35 : decode cX4_canStick 35 = .ok (.iadd, 1) := by decide +kernel
theorem dX4_canStick_36 : decode cX4_canStick 36 = .ok (.iload_n 3, 1) := by decide +kernel
theorem dX4_canStick_37 : decode cX4_canStick 37 = .ok (.iadd, 1) := by decide +kernel
theorem dX4_canStick_38 : decode cX4_canStick 38 = .ok (.iaload, 1) := by decide +kernel
theorem dX4_canStick_39 : decode cX4_canStick 39 = .ok (.ifCond .ne 7, 3) := by decide +kernel
theorem dX4_canStick_42 : decode cX4_canStick 42 = .ok (.iconst 1, 1) := by decide +kernel
theorem dX4_canStick_43 : decode cX4_canStick 43 = .ok (.goto 4, 3) := by decide +kernel
theorem dX4_canStick_46 : decode cX4_canStick 46 = .ok (.iconst 0, 1) := by decide +kernel
theorem dX4_canStick_47 : decode cX4_canStick 47 = .ok (.ireturn, 1) := by decide +kernel
theorem dX4_stickOn_0 : decode cX4_stickOn 0 = .ok (.bipush 30, 2) := by decide +kernel
theorem dX4_stickOn_2 : decode cX4_stickOn 2 = .ok (.iload_n 1, 1) := by decide +kernel
theorem dX4_stickOn_3 : decode cX4_stickOn 3 = .ok (.imul, 1) := by decide +kernel
theorem dX4_stickOn_4 : decode cX4_stickOn 4 = .ok (.istore 4, 2) := by decide +kernel
theorem dX4_stickOn_6 : decode cX4_stickOn 6 = .ok (.aload_n 0, 1) := by decide +kernel
theorem dX4_stickOn_7 : decode cX4_stickOn 7 = .ok (.getfield 16, 3) := by decide +kernel
theorem dX4_stickOn_10 : decode cX4_stickOn 10 = .ok (.iload 4, 2) := by decide +kernel
theorem dX4_stickOn_12 : decode cX4_stickOn 12 = .ok (.bipush 15, 2) := by decide +kernel
theorem dX4_stickOn_14 : decode cX4_stickOn 14 = .ok (.iadd, 1) := by decide +kernel
theorem dX4_stickOn_15 : decode cX4_stickOn 15 = .ok (.iload_n 2, 1) := by decide +kernel
theorem dX4_stickOn_16 : decode cX4_stickOn 16 = .ok (.iadd, 1) := by decide +kernel
theorem dX4_stickOn_17 : decode cX4_stickOn 17 = .ok (.iload_n 3, 1) := by decide +kernel
theorem dX4_stickOn_18 : decode cX4_stickOn 18 = .ok (.iastore, 1) := by decide +kernel
theorem dX4_stickOn_19 : decode cX4_stickOn 19 = .ok (.aload_n 0, 1) := by decide +kernel
theorem dX4_stickOn_20 : decode cX4_stickOn 20 = .ok (.getfield 16, 3) := by decide +kernel
theorem dX4_stickOn_23 : decode cX4_stickOn 23 = .ok (.iload 4, 2) := by decide +kernel
theorem dX4_stickOn_25 : decode cX4_stickOn 25 = .ok (.iconst 5, 1) := by decide +kernel
theorem dX4_stickOn_26 : decode cX4_stickOn 26 = .ok (.iadd, 1) := by decide +kernel
theorem dX4_stickOn_27 : decode cX4_stickOn 27 = .ok (.iload_n 2, 1) := by decide +kernel
theorem dX4_stickOn_28 : decode cX4_stickOn 28 = .ok (.iadd, 1) := by decide +kernel
theorem dX4_stickOn_29 : decode cX4_stickOn 29 = .ok (.dup2, 1) := by decide +kernel
theorem dX4_stickOn_30 : decode cX4_stickOn 30 = .ok (.iaload, 1) := by decide +kernel
theorem dX4_stickOn_31 : decode cX4_stickOn 31 = .ok (.aload_n 0, 1) := by decide +kernel
theorem dX4_stickOn_32 : decode cX4_stickOn 32 = .ok (.getfield 16, 3) := by decide +kernel
theorem dX4_stickOn_35 : decode cX4_stickOn 35 = .ok (.iload 4, 2) := by decide +kernel
theorem dX4_stickOn_37 : decode cX4_stickOn 37 = .ok (.iconst 5, 1) := by decide +kernel
theorem dX4_stickOn_38 : decode cX4_stickOn 38 = .ok (.iadd, 1) := by decide +kernel
theorem dX4_stickOn_39 : decode cX4_stickOn 39 = .ok (.iload_n 2, 1) := by decide +kernel
theorem dX4_stickOn_40 : decode cX4_stickOn 40 = .ok (.iadd, 1) := by decide +kernel
theorem dX4_stickOn_41 : decode cX4_stickOn 41 = .ok (.iaload, 1) := by decide +kernel
theorem dX4_stickOn_42 : decode cX4_stickOn 42 = .ok (.ifCond .le 7, 3) := by decide +kernel
theorem dX4_stickOn_45 : decode cX4_stickOn 45 = .ok (.iconst 1, 1) := by decide +kernel
theorem dX4_stickOn_46 : decode cX4_stickOn 46 = .ok (.goto 4, 3) := by decide +kernel
theorem dX4_stickOn_49 : decode cX4_stickOn 49 = .ok (.iconst 0, 1) := by decide +kernel
theorem dX4_stickOn_50 : decode cX4_stickOn 50 = .ok (.isub, 1) := by decide +kernel
theorem dX4_stickOn_51 : decode cX4_stickOn 51 = .ok (.iastore, 1) := by decide +kernel
theorem dX4_stickOn_52 : decode cX4_stickOn 52 = .ok (.return_, 1) := by decide +kernel
theorem dX4_stick_0 : decode cX4_stick 0 = .ok (.aload_n 0, 1) := by decide +kernel
theorem dX4_stick_1 : decode cX4_stick 1 = .ok (.iload_n 1, 1) := by decide +kernel
theorem dX4_stick_2 : decode cX4_stick 2 = .ok (.invokevirtual 128, 3) := by decide +kernel
theorem dX4_stick_5 : decode cX4_stick 5 = .ok (.ifCond .eq 11, 3) := by decide +kernel
theorem dX4_stick_8 : decode cX4_stick 8 = .ok (.aload_n 0, 1) := by decide +kernel
theorem dX4_stick_9 : decode cX4_stick 9 = .ok (.iload_n 2, 1) := by decide +kernel
theorem dX4_stick_10 : decode cX4_stick 10 = .ok (.invokevirtual 132, 3) := by decide +kernel
theorem dX4_stick_13 : decode cX4_stick 13 = .ok (.ifCond .ne 5, 3) := by decide +kernel
theorem dX4_stick_16 : decode cX4_stick 16 = .ok (.iconst (-1), 1) := by decide +kernel
theorem dX4_stick_17 : decode cX4_stick 17 = .ok (.ireturn, 1) := by decide +kernel
theorem dX4_stick_18 : decode cX4_stick 18 = .ok (.aload_n 0, 1) := by decide +kernel
theorem dX4_stick_19 : decode cX4_stick 19 = .ok (.iconst 0, 1) := by decide +kernel
theorem dX4_stick_20 : decode cX4_stick 20 = .ok (.iload_n 1, 1) := by decide +kernel
theorem dX4_stick_21 : decode cX4_stick 21 = .ok (.iload_n 2, 1) := by decide +kernel
theorem dX4_stick_22 : decode cX4_stick 22 = .ok (.invokevirtual 153, 3) := by decide +kernel
theorem dX4_stick_25 : decode cX4_stick 25 = .ok (.ifCond .ne 6, 3) := by decide +kernel
theorem dX4_stick_28 : decode cX4_stick 28 = .ok (.bipush (-3), 2) := by decide +kernel
theorem dX4_stick_30 : decode cX4_stick 30 = .ok (.ireturn, 1) := by decide +kernel
theorem dX4_stick_31 : decode cX4_stick 31 = .ok (.aload_n 0, 1) := by decide +kernel
theorem dX4_stick_32 : decode cX4_stick 32 = .ok (.invokevirtual 141, 3) := by decide +kernel
theorem dX4_stick_35 : decode cX4_stick 35 = .ok (.aload_n 0, 1) := by decide +kernel
theorem dX4_stick_36 : decode cX4_stick 36 = .ok (.iconst 0, 1) := by decide +kernel
theorem dX4_stick_37 : decode cX4_stick 37 = .ok (.iload_n 1, 1) := by decide +kernel
theorem dX4_stick_38 : decode cX4_stick 38 = .ok (.iload_n 2, 1) := by decide +kernel
theorem dX4_stick_39 : decode cX4_stick 39 = .ok (.invokevirtual 157, 3) := by decide +kernel
theorem dX4_stick_42 : decode cX4_stick 42 = .ok (.aload_n 0, 1) := by decide +kernel
theorem dX4_stick_43 : decode cX4_stick 43 = .ok (.iconst 0, 1) := by decide +kernel
theorem dX4_stick_44 : decode cX4_stick 44 = .ok (.iload_n 2, 1) := by decide +kernel
theorem dX4_stick_45 : decode cX4_stick 45 = .ok (.invokevirtual 125, 3) := by decide +kernel
theorem dX4_stick_48 : decode cX4_stick 48 = .ok (.invokestatic 147, 3) := by decide +kernel
theorem dX4_stick_51 : decode cX4_stick 51 = .ok (.ireturn, 1) := by decide +kernel
theorem dX4_canSend_0 : decode cX4_canSend 0 = .ok (.aload_n 0, 1) := by decide +kernel
theorem dX4_canSend_1 : decode cX4_canSend 1 = .ok (.iload_n 2, 1) := by decide +kernel
theorem dX4_canSend_2 : decode cX4_canSend 2 = .ok (.invokevirtual 132, 3) := by decide +kernel
theorem dX4_canSend_5 : decode cX4_canSend 5 = .ok (.ifCond .eq 44, 3) := by decide +kernel
theorem dX4_canSend_8 : decode cX4_canSend 8 = .ok (.aload_n 0, 1) := by decide +kernel
theorem dX4_canSend_9 : decode cX4_canSend 9 = .ok (.getfield 16, 3) := by decide +kernel
theorem dX4_canSend_12 : decode cX4_canSend 12 = .ok (.bipush 30, 2) := by decide +kernel
theorem dX4_canSend_14 : decode cX4_canSend 14 = .ok (.iload_n 1, 1) := by decide +kernel
theorem dX4_canSend_15 : decode cX4_canSend 15 = .ok (.imul, 1) := by decide +kernel
theorem dX4_canSend_16 : decode cX4_canSend 16 = .ok (.bipush 24, 2) := by decide +kernel
theorem dX4_canSend_18 : decode cX4_canSend 18 = .ok (.iadd, 1) := by decide +kernel
theorem dX4_canSend_19 : decode cX4_canSend 19 = .ok (.iload_n 2, 1) := by decide +kernel
theorem dX4_canSend_20 : decode cX4_canSend 20 = .ok (.iadd, 1) := by decide +kernel
theorem dX4_canSend_21 : decode cX4_canSend 21 = .ok (.iaload, 1) := by decide +kernel
theorem dX4_canSend_22 : decode cX4_canSend 22 = .ok (.ifCond .ne 27, 3) := by decide +kernel
theorem dX4_canSend_25 : decode cX4_canSend 25 = .ok (.aload_n 0, 1) := by decide +kernel
theorem dX4_canSend_26 : decode cX4_canSend 26 = .ok (.iload_n 1, 1) := by decide +kernel
theorem dX4_canSend_27 : decode cX4_canSend 27 = .ok (.aload_n 0, 1) := by decide +kernel
theorem dX4_canSend_28 : decode cX4_canSend 28 = .ok (.iload_n 1, 1) := by decide +kernel
theorem dX4_canSend_29 : decode cX4_canSend 29 = .ok (.iload_n 2, 1) := by decide +kernel
theorem dX4_canSend_30 : decode cX4_canSend 30 = .ok (.invokevirtual 125, 3) := by decide +kernel
theorem dX4_canSend_33 : decode cX4_canSend 33 = .ok (.invokevirtual 135, 3) := by decide +kernel
theorem dX4_canSend_36 : decode cX4_canSend 36 = .ok (.aload_n 0, 1) := by decide +kernel
theorem dX4_canSend_37 : decode cX4_canSend 37 = .ok (.getfield 13, 3) := by decide +kernel
theorem dX4_canSend_40 : decode cX4_canSend 40 = .ok (.iload_n 2, 1) := by decide +kernel
theorem dX4_canSend_41 : decode cX4_canSend 41 = .ok (.iaload, 1) := by decide +kernel
theorem dX4_canSend_42 : decode cX4_canSend 42 = .ok (.if_icmp .lt 7, 3) := by decide +kernel
theorem dX4_canSend_45 : decode cX4_canSend 45 = .ok (.iconst 1, 1) := by decide +kernel
theorem dX4_canSend_46 : decode cX4_canSend 46 = .ok (.goto 4, 3) := by decide +kernel
theorem dX4_canSend_49 : decode cX4_canSend 49 = .ok (.iconst 0, 1) := by decide +kernel
theorem dX4_canSend_50 : decode cX4_canSend 50 = .ok (.ireturn, 1) := by decide +kernel
theorem dX4_send_0 : decode cX4_send 0 = .ok (.aload_n 0, 1) := by decide +kernel
theorem dX4_send_1 : decode cX4_send 1 = .ok (.iload_n 1, 1) := by decide +kernel
theorem dX4_send_2 : decode cX4_send 2 = .ok (.invokevirtual 132, 3) := by decide +kernel
theorem dX4_send_5 : decode cX4_send 5 = .ok (.ifCond .ne 5, 3) := by decide +kernel
theorem dX4_send_8 : decode cX4_send 8 = .ok (.iconst (-1), 1) := by decide +kernel
theorem dX4_send_9 : decode cX4_send 9 = .ok (.ireturn, 1) := by decide +kernel
theorem dX4_send_10 : decode cX4_send 10 = .ok (.aload_n 0, 1) := by decide +kernel
theorem dX4_send_11 : decode cX4_send 11 = .ok (.iconst 0, 1) := by decide +kernel
theorem dX4_send_12 : decode cX4_send 12 = .ok (.iload_n 1, 1) := by decide +kernel
theorem dX4_send_13 : decode cX4_send 13 = .ok (.invokevirtual 160, 3) := by decide +kernel
theorem dX4_send_16 : decode cX4_send 16 = .ok (.ifCond .ne 6, 3) := by decide +kernel
theorem dX4_send_19 : decode cX4_send 19 = .ok (.bipush (-3), 2) := by decide +kernel
theorem dX4_send_21 : decode cX4_send 21 = .ok (.ireturn, 1) := by decide +kernel
theorem dX4_send_22 : decode cX4_send 22 = .ok (.aload_n 0, 1) := by decide +kernel
theorem dX4_send_23 : decode cX4_send 23 = .ok (.invokevirtual 141, 3) := by decide +kernel
theorem dX4_send_26 : decode cX4_send 26 = .ok (.aload_n 0, 1) := by decide +kernel
theorem dX4_send_27 : decode cX4_send 27 = .ok (.getfield 16, 3) := by decide +kernel
theorem dX4_send_30 : decode cX4_send 30 = .ok (.bipush 24, 2) := by decide +kernel
theorem dX4_send_32 : decode cX4_send 32 = .ok (.iload_n 1, 1) := by decide +kernel
theorem dX4_send_33 : decode cX4_send 33 = .ok (.iadd, 1) := by decide +kernel
theorem dX4_send_34 : decode cX4_send 34 = .ok (.iconst 1, 1) := by decide +kernel
theorem dX4_send_35 : decode cX4_send 35 = .ok (.iastore, 1) := by decide +kernel
theorem dX4_send_36 : decode cX4_send 36 = .ok (.aload_n 0, 1) := by decide +kernel
theorem dX4_send_37 : decode cX4_send 37 = .ok (.getfield 16, 3) := by decide +kernel
theorem dX4_send_40 : decode cX4_send 40 = .ok (.bipush 20, 2) := by decide +kernel
theorem dX4_send_42 : decode cX4_send 42 = .ok (.iload_n 1, 1) := by decide +kernel
theorem dX4_send_43 : decode cX4_send 43 = .ok (.iadd, 1) := by decide +kernel
theorem dX4_send_44 : decode cX4_send 44 = .ok (.iaload, 1) := by decide +kernel
theorem dX4_send_45 : decode cX4_send 45 = .ok (.ireturn, 1) := by decide +kernel
theorem dX4_canPart_0 : decode cX4_canPart 0 = .ok (.aload_n 0, 1) := by decide +kernel
theorem dX4_canPart_1 : decode cX4_canPart 1 = .ok (.iload_n 2, 1) := by decide +kernel
theorem dX4_canPart_2 : decode cX4_canPart 2 = .ok (.invokevirtual 128, 3) := by decide +kernel
theorem dX4_canPart_5 : decode cX4_canPart 5 = .ok (.ifCond .eq 36, 3) := by decide +kernel
theorem dX4_canPart_8 : decode cX4_canPart 8 = .ok (.aload_n 0, 1) := by decide +kernel
theorem dX4_canPart_9 : decode cX4_canPart 9 = .ok (.iload_n 3, 1) := by decide +kernel
theorem dX4_canPart_10 : decode cX4_canPart 10 = .ok (.invokevirtual 128, 3) := by decide +kernel
theorem dX4_canPart_13 : decode cX4_canPart 13 = .ok (.ifCond .eq 28, 3) := by decide +kernel
theorem dX4_canPart_16 : decode cX4_canPart 16 = .ok (.aload_n 0, 1) := by decide +kernel
theorem dX4_canPart_17 : decode cX4_canPart 17 = .ok (.getfield 16, 3) := by decide +kernel
theorem dX4_canPart_20 : decode cX4_canPart 20 = .ok (.bipush 30, 2) := by decide +kernel
theorem dX4_canPart_22 : decode cX4_canPart 22 = .ok (.iload_n 1, 1) := by decide +kernel
theorem dX4_canPart_23 : decode cX4_canPart 23 = .ok (.imul, 1) := by decide +kernel
theorem dX4_canPart_24 : decode cX4_canPart 24 = .ok (.bipush 10, 2) := by decide +kernel
theorem dX4_canPart_26 : decode cX4_canPart 26 = .ok (.iadd, 1) := by decide +kernel
theorem dX4_canPart_27 : decode cX4_canPart 27 = .ok (.iload_n 2, 1) := by decide +kernel
theorem dX4_canPart_28 : decode cX4_canPart 28 = .ok (.iadd, 1) := by decide +kernel
theorem dX4_canPart_29 : decode cX4_canPart 29 = .ok (.iaload, 1) := by decide +kernel
theorem dX4_canPart_30 : decode cX4_canPart 30 = .ok (.iload_n 3, 1) := by decide +kernel
theorem dX4_canPart_31 : decode cX4_canPart 31 = .ok (.invokestatic 71, 3) := by decide +kernel
theorem dX4_canPart_34 : decode cX4_canPart 34 = .ok (.ifCond .eq 7, 3) := by decide +kernel
theorem dX4_canPart_37 : decode cX4_canPart 37 = .ok (.iconst 1, 1) := by decide +kernel
theorem dX4_canPart_38 : decode cX4_canPart 38 = .ok (.goto 4, 3) := by decide +kernel
theorem dX4_canPart_41 : decode cX4_canPart 41 = .ok (.iconst 0, 1) := by decide +kernel
theorem dX4_canPart_42 : decode cX4_canPart 42 = .ok (.ireturn, 1) := by decide +kernel
theorem dX4_partOn_0 : decode cX4_partOn 0 = .ok (.bipush 30, 2) := by decide +kernel
theorem dX4_partOn_2 : decode cX4_partOn 2 = .ok (.iload_n 1, 1) := by decide +kernel
theorem dX4_partOn_3 : decode cX4_partOn 3 = .ok (.imul, 1) := by decide +kernel
theorem dX4_partOn_4 : decode cX4_partOn 4 = .ok (.istore 4, 2) := by decide +kernel
theorem dX4_partOn_6 : decode cX4_partOn 6 = .ok (.aload_n 0, 1) := by decide +kernel
theorem dX4_partOn_7 : decode cX4_partOn 7 = .ok (.getfield 16, 3) := by decide +kernel
theorem dX4_partOn_10 : decode cX4_partOn 10 = .ok (.iload 4, 2) := by decide +kernel
theorem dX4_partOn_12 : decode cX4_partOn 12 = .ok (.bipush 10, 2) := by decide +kernel
theorem dX4_partOn_14 : decode cX4_partOn 14 = .ok (.iadd, 1) := by decide +kernel
theorem dX4_partOn_15 : decode cX4_partOn 15 = .ok (.iload_n 2, 1) := by decide +kernel
theorem dX4_partOn_16 : decode cX4_partOn 16 = .ok (.iadd, 1) := by decide +kernel
theorem dX4_partOn_17 : decode cX4_partOn 17 = .ok (.dup2, 1) := by decide +kernel
theorem dX4_partOn_18 : decode cX4_partOn 18 = .ok (.iaload, 1) := by decide +kernel
theorem dX4_partOn_19 : decode cX4_partOn 19 = .ok (.iconst 1, 1) := by decide +kernel
theorem dX4_partOn_20 : decode cX4_partOn 20 = .ok (.iload_n 3, 1) := by decide +kernel
theorem dX4_partOn_21 : decode cX4_partOn 21 = .ok (.ishl, 1) := by decide +kernel
theorem dX4_partOn_22 : decode cX4_partOn 22 = .ok (.iconst (-1), 1) := by decide +kernel
theorem dX4_partOn_23 : decode cX4_partOn 23 = .ok (.ixor, 1) := by decide +kernel
theorem dX4_partOn_24 : decode cX4_partOn 24 = .ok (.iand, 1) := by decide +kernel
theorem dX4_partOn_25 : decode cX4_partOn 25 = .ok (.iastore, 1) := by decide +kernel
theorem dX4_partOn_26 : decode cX4_partOn 26 = .ok (.aload_n 0, 1) := by decide +kernel
theorem dX4_partOn_27 : decode cX4_partOn 27 = .ok (.getfield 16, 3) := by decide +kernel
theorem dX4_partOn_30 : decode cX4_partOn 30 = .ok (.iload 4, 2) := by decide +kernel
theorem dX4_partOn_32 : decode cX4_partOn 32 = .ok (.bipush 10, 2) := by decide +kernel
theorem dX4_partOn_34 : decode cX4_partOn 34 = .ok (.iadd, 1) := by decide +kernel
theorem dX4_partOn_35 : decode cX4_partOn 35 = .ok (.iload_n 3, 1) := by decide +kernel
theorem dX4_partOn_36 : decode cX4_partOn 36 = .ok (.iadd, 1) := by decide +kernel
theorem dX4_partOn_37 : decode cX4_partOn 37 = .ok (.dup2, 1) := by decide +kernel
theorem dX4_partOn_38 : decode cX4_partOn 38 = .ok (.iaload, 1) := by decide +kernel
theorem dX4_partOn_39 : decode cX4_partOn 39 = .ok (.iconst 1, 1) := by decide +kernel
theorem dX4_partOn_40 : decode cX4_partOn 40 = .ok (.iload_n 2, 1) := by decide +kernel
theorem dX4_partOn_41 : decode cX4_partOn 41 = .ok (.ishl, 1) := by decide +kernel
theorem dX4_partOn_42 : decode cX4_partOn 42 = .ok (.iconst (-1), 1) := by decide +kernel
theorem dX4_partOn_43 : decode cX4_partOn 43 = .ok (.ixor, 1) := by decide +kernel
theorem dX4_partOn_44 : decode cX4_partOn 44 = .ok (.iand, 1) := by decide +kernel
theorem dX4_partOn_45 : decode cX4_partOn 45 = .ok (.iastore, 1) := by decide +kernel
theorem dX4_partOn_46 : decode cX4_partOn 46 = .ok (.aload_n 0, 1) := by decide +kernel
theorem dX4_partOn_47 : decode cX4_partOn 47 = .ok (.iload_n 1, 1) := by decide +kernel
theorem dX4_partOn_48 : decode cX4_partOn 48 = .ok (.iconst 1, 1) := by decide +kernel
theorem dX4_partOn_49 : decode cX4_partOn 49 = .ok (.iload_n 2, 1) := by decide +kernel
theorem dX4_partOn_50 : decode cX4_partOn 50 = .ok (.ishl, 1) := by decide +kernel
theorem dX4_partOn_51 : decode cX4_partOn 51 = .ok (.iconst 1, 1) := by decide +kernel
theorem dX4_partOn_52 : decode cX4_partOn 52 = .ok (.iload_n 3, 1) := by decide +kernel
theorem dX4_partOn_53 : decode cX4_partOn 53 = .ok (.ishl, 1) := by decide +kernel
theorem dX4_partOn_54 : decode cX4_partOn 54 = .ok (.ior, 1) := by decide +kernel
theorem dX4_partOn_55 : decode cX4_partOn 55 = .ok (.iconst 1, 1) := by decide +kernel
theorem dX4_partOn_56 : decode cX4_partOn 56 = .ok (.invokevirtual 118, 3) := by decide +kernel
theorem dX4_partOn_59 : decode cX4_partOn 59 = .ok (.return_, 1) := by decide +kernel
theorem dX4_part_0 : decode cX4_part 0 = .ok (.aload_n 0, 1) := by decide +kernel
theorem dX4_part_1 : decode cX4_part 1 = .ok (.iload_n 1, 1) := by decide +kernel
theorem dX4_part_2 : decode cX4_part 2 = .ok (.invokevirtual 128, 3) := by decide +kernel
theorem dX4_part_5 : decode cX4_part 5 = .ok (.ifCond .eq 11, 3) := by decide +kernel
theorem dX4_part_8 : decode cX4_part 8 = .ok (.aload_n 0, 1) := by decide +kernel
theorem dX4_part_9 : decode cX4_part 9 = .ok (.iload_n 2, 1) := by decide +kernel
theorem dX4_part_10 : decode cX4_part 10 = .ok (.invokevirtual 128, 3) := by decide +kernel
theorem dX4_part_13 : decode cX4_part 13 = .ok (.ifCond .ne 5, 3) := by decide +kernel
theorem dX4_part_16 : decode cX4_part 16 = .ok (.iconst (-1), 1) := by decide +kernel
theorem dX4_part_17 : decode cX4_part 17 = .ok (.ireturn, 1) := by decide +kernel
theorem dX4_part_18 : decode cX4_part 18 = .ok (.aload_n 0, 1) := by decide +kernel
theorem dX4_part_19 : decode cX4_part 19 = .ok (.iconst 0, 1) := by decide +kernel
theorem dX4_part_20 : decode cX4_part 20 = .ok (.iload_n 1, 1) := by decide +kernel
theorem dX4_part_21 : decode cX4_part 21 = .ok (.iload_n 2, 1) := by decide +kernel
theorem dX4_part_22 : decode cX4_part 22 = .ok (.invokevirtual 163, 3) := by decide +kernel
theorem dX4_part_25 : decode cX4_part 25 = .ok (.ifCond .ne 6, 3) := by decide +kernel
theorem dX4_part_28 : decode cX4_part 28 = .ok (.bipush (-3), 2) := by decide +kernel
theorem dX4_part_30 : decode cX4_part 30 = .ok (.ireturn, 1) := by decide +kernel
theorem dX4_part_31 : decode cX4_part 31 = .ok (.aload_n 0, 1) := by decide +kernel
theorem dX4_part_32 : decode cX4_part 32 = .ok (.invokevirtual 141, 3) := by decide +kernel
theorem dX4_part_35 : decode cX4_part 35 = .ok (.aload_n 0, 1) := by decide +kernel
theorem dX4_part_36 : decode cX4_part 36 = .ok (.iconst 0, 1) := by decide +kernel
theorem dX4_part_37 : decode cX4_part 37 = .ok (.iload_n 1, 1) := by decide +kernel
theorem dX4_part_38 : decode cX4_part 38 = .ok (.iload_n 2, 1) := by decide +kernel
theorem dX4_part_39 : decode cX4_part 39 = .ok (.invokevirtual 166, 3) := by decide +kernel
theorem dX4_part_42 : decode cX4_part 42 = .ok (.aload_n 0, 1) := by decide +kernel
theorem dX4_part_43 : decode cX4_part 43 = .ok (.getfield 16, 3) := by decide +kernel
theorem dX4_part_46 : decode cX4_part 46 = .ok (.bipush 10, 2) := by decide +kernel
theorem dX4_part_48 : decode cX4_part 48 = .ok (.iload_n 1, 1) := by decide +kernel
theorem dX4_part_49 : decode cX4_part 49 = .ok (.iadd, 1) := by decide +kernel
theorem dX4_part_50 : decode cX4_part 50 = .ok (.iaload, 1) := by decide +kernel
theorem dX4_part_51 : decode cX4_part 51 = .ok (.invokestatic 147, 3) := by decide +kernel
theorem dX4_part_54 : decode cX4_part 54 = .ok (.ireturn, 1) := by decide +kernel
theorem dX4_damp_0 : decode cX4_damp 0 = .ok (.aload_n 0, 1) := by decide +kernel
theorem dX4_damp_1 : decode cX4_damp 1 = .ok (.invokevirtual 141, 3) := by decide +kernel
theorem dX4_damp_4 : decode cX4_damp 4 = .ok (.aload_n 0, 1) := by decide +kernel
theorem dX4_damp_5 : decode cX4_damp 5 = .ok (.getfield 16, 3) := by decide +kernel
theorem dX4_damp_8 : decode cX4_damp 8 = .ok (.bipush 28, 2) := by decide +kernel
theorem dX4_damp_10 : decode cX4_damp 10 = .ok (.iconst 1, 1) := by decide +kernel
theorem dX4_damp_11 : decode cX4_damp 11 = .ok (.aload_n 0, 1) := by decide +kernel
theorem dX4_damp_12 : decode cX4_damp 12 = .ok (.getfield 16, 3) := by decide +kernel
theorem dX4_damp_15 : decode cX4_damp 15 = .ok (.bipush 28, 2) := by decide +kernel
theorem dX4_damp_17 : decode cX4_damp 17 = .ok (.iaload, 1) := by decide +kernel
theorem dX4_damp_18 : decode cX4_damp 18 = .ok (.isub, 1) := by decide +kernel
theorem dX4_damp_19 : decode cX4_damp 19 = .ok (.iastore, 1) := by decide +kernel
theorem dX4_damp_20 : decode cX4_damp 20 = .ok (.aload_n 0, 1) := by decide +kernel
theorem dX4_damp_21 : decode cX4_damp 21 = .ok (.getfield 16, 3) := by decide +kernel
theorem dX4_damp_24 : decode cX4_damp 24 = .ok (.bipush 28, 2) := by decide +kernel
theorem dX4_damp_26 : decode cX4_damp 26 = .ok (.iaload, 1) := by decide +kernel
theorem dX4_damp_27 : decode cX4_damp 27 = .ok (.ireturn, 1) := by decide +kernel
theorem dX4_undo_0 : decode cX4_undo 0 = .ok (.aload_n 0, 1) := by decide +kernel
theorem dX4_undo_1 : decode cX4_undo 1 = .ok (.getfield 102, 3) := by decide +kernel
theorem dX4_undo_4 : decode cX4_undo 4 = .ok (.ifCond .ne 6, 3) := by decide +kernel
theorem dX4_undo_7 : decode cX4_undo 7 = .ok (.bipush (-3), 2) := by decide +kernel
theorem dX4_undo_9 : decode cX4_undo 9 = .ok (.ireturn, 1) := by decide +kernel
theorem dX4_undo_10 : decode cX4_undo 10 = .ok (.aload_n 0, 1) := by decide +kernel
theorem dX4_undo_11 : decode cX4_undo 11 = .ok (.dup, 1) := by decide +kernel
theorem dX4_undo_12 : decode cX4_undo 12 = .ok (.getfield 102, 3) := by decide +kernel
theorem dX4_undo_15 : decode cX4_undo 15 = .ok (.iconst 1, 1) := by decide +kernel
theorem dX4_undo_16 : decode cX4_undo 16 = .ok (.isub, 1) := by decide +kernel
theorem dX4_undo_17 : decode cX4_undo 17 = .ok (.putfield 102, 3) := by decide +kernel
theorem dX4_undo_20 : decode cX4_undo 20 = .ok (.aload_n 0, 1) := by decide +kernel
theorem dX4_undo_21 : decode cX4_undo 21 = .ok (.aload_n 0, 1) := by decide +kernel
theorem dX4_undo_22 : decode cX4_undo 22 = .ok (.getfield 138, 3) := by decide +kernel
theorem dX4_undo_25 : decode cX4_undo 25 = .ok (.bipush 13, 2) := by decide +kernel
theorem dX4_undo_27 : decode cX4_undo 27 = .ok (.iadd, 1) := by decide +kernel
theorem dX4_undo_28 : decode cX4_undo 28 = .ok (.bipush 14, 2) := by decide +kernel
theorem dX4_undo_30 : decode cX4_undo 30 = .ok (.irem, 1) := by decide +kernel
theorem dX4_undo_31 : decode cX4_undo 31 = .ok (.putfield 138, 3) := by decide +kernel
theorem dX4_undo_34 : decode cX4_undo 34 = .ok (.iconst 0, 1) := by decide +kernel
theorem dX4_undo_35 : decode cX4_undo 35 = .ok (.istore_n 1, 1) := by decide +kernel
theorem dX4_undo_36 : decode cX4_undo 36 = .ok (.iload_n 1, 1) := by decide +kernel
theorem dX4_undo_37 : decode cX4_undo 37 = .ok (.bipush 30, 2) := by decide +kernel
theorem dX4_undo_39 : decode cX4_undo 39 = .ok (.if_icmp .ge 29, 3) := by decide +kernel
theorem dX4_undo_42 : decode cX4_undo 42 = .ok (.aload_n 0, 1) := by decide +kernel
theorem dX4_undo_43 : decode cX4_undo 43 = .ok (.getfield 16, 3) := by decide +kernel
theorem dX4_undo_46 : decode cX4_undo 46 = .ok (.iload_n 1, 1) := by decide +kernel
theorem dX4_undo_47 : decode cX4_undo 47 = .ok (.aload_n 0, 1) := by decide +kernel
theorem dX4_undo_48 : decode cX4_undo 48 = .ok (.getfield 31, 3) := by decide +kernel
theorem dX4_undo_51 : decode cX4_undo 51 = .ok (.bipush 30, 2) := by decide +kernel
theorem dX4_undo_53 : decode cX4_undo 53 = .ok (.aload_n 0, 1) := by decide +kernel
theorem dX4_undo_54 : decode cX4_undo 54 = .ok (.getfield 138, 3) := by decide +kernel
theorem dX4_undo_57 : decode cX4_undo 57 = .ok (.imul, 1) := by decide +kernel
theorem dX4_undo_58 : decode cX4_undo 58 = .ok (.iload_n 1, 1) := by decide +kernel
theorem dX4_undo_59 : decode cX4_undo 59 = .ok (.iadd, 1) := by decide +kernel
theorem dX4_undo_60 : decode cX4_undo 60 = .ok (.iaload, 1) := by decide +kernel
theorem dX4_undo_61 : decode cX4_undo 61 = .ok (.iastore, 1) := by decide +kernel
theorem dX4_undo_62 : decode cX4_undo 62 = .ok (.iinc 1 1, 3) := by decide +kernel
theorem dX4_undo_65 : decode cX4_undo 65 = .ok (.goto (-29), 3) := by decide +kernel
theorem dX4_undo_68 : decode cX4_undo 68 = .ok (.aload_n 0, 1) := by decide +kernel
theorem dX4_undo_69 : decode cX4_undo 69 = .ok (.getfield 102, 3) := by decide +kernel
theorem dX4_undo_72 : decode cX4_undo 72 = .ok (.ireturn, 1) := by decide +kernel
theorem dX4_layTrial_0 : decode cX4_layTrial 0 = .ok (.iconst 0, 1) := by decide +kernel
theorem dX4_layTrial_1 : decode cX4_layTrial 1 = .ok (.istore_n 1, 1) := by decide +kernel
theorem dX4_layTrial_2 : decode cX4_layTrial 2 = .ok (.iload_n 1, 1) := by decide +kernel
theorem dX4_layTrial_3 : decode cX4_layTrial 3 = .ok (.bipush 30, 2) := by decide +kernel
theorem dX4_layTrial_5 : decode cX4_layTrial 5 = .ok (.if_icmp .ge 24, 3) := by decide +kernel
theorem dX4_layTrial_8 : decode cX4_layTrial 8 = .ok (.aload_n 0, 1) := by decide +kernel
theorem dX4_layTrial_9 : decode cX4_layTrial 9 = .ok (.getfield 16, 3) := by decide +kernel
theorem dX4_layTrial_12 : decode cX4_layTrial 12 = .ok (.bipush 30, 2) := by decide +kernel
theorem dX4_layTrial_14 : decode cX4_layTrial 14 = .ok (.iload_n 1, 1) := by decide +kernel
theorem dX4_layTrial_15 : decode cX4_layTrial 15 = .ok (.iadd, 1) := by decide +kernel
theorem dX4_layTrial_16 : decode cX4_layTrial 16 = .ok (.aload_n 0, 1) := by decide +kernel
theorem dX4_layTrial_17 : decode cX4_layTrial 17 = .ok (.getfield 16, 3) := by decide +kernel
theorem dX4_layTrial_20 : decode cX4_layTrial 20 = .ok (.iload_n 1, 1) := by decide +kernel
theorem dX4_layTrial_21 : decode cX4_layTrial 21 = .ok (.iaload, 1) := by decide +kernel
theorem dX4_layTrial_22 : decode cX4_layTrial 22 = .ok (.iastore, 1) := by decide +kernel
theorem dX4_layTrial_23 : decode cX4_layTrial 23 = .ok (.iinc 1 1, 3) := by decide +kernel
theorem dX4_layTrial_26 : decode cX4_layTrial 26 = .ok (.goto (-24), 3) := by decide +kernel
theorem dX4_layTrial_29 : decode cX4_layTrial 29 = .ok (.return_, 1) := by decide +kernel
theorem dX4_lives_0 : decode cX4_lives 0 = .ok (.aload_n 0, 1) := by decide +kernel
theorem dX4_lives_1 : decode cX4_lives 1 = .ok (.iload_n 1, 1) := by decide +kernel
theorem dX4_lives_2 : decode cX4_lives 2 = .ok (.invokevirtual 128, 3) := by decide +kernel
theorem dX4_lives_5 : decode cX4_lives 5 = .ok (.ifCond .ne 5, 3) := by decide +kernel
theorem dX4_lives_8 : decode cX4_lives 8 = .ok (.iconst (-1), 1) := by decide +kernel
theorem dX4_lives_9 : decode cX4_lives 9 = .ok (.ireturn, 1) := by decide +kernel
theorem dX4_lives_10 : decode cX4_lives 10 = .ok (.aload_n 0, 1) := by decide +kernel
theorem dX4_lives_11 : decode cX4_lives 11 = .ok (.invokevirtual 169, 3) := by decide +kernel
theorem dX4_lives_14 : decode cX4_lives 14 = .ok (.iconst 0, 1) := by decide +kernel
theorem dX4_lives_15 : decode cX4_lives 15 = .ok (.istore_n 2, 1) := by decide +kernel
theorem dX4_lives_16 : decode cX4_lives 16 = .ok (.iload_n 2, 1) := by decide +kernel
theorem dX4_lives_17 : decode cX4_lives 17 = .ok (.bipush 100, 2) := by decide +kernel
theorem dX4_lives_19 : decode cX4_lives 19 = .ok (.if_icmp .ge 28, 3) := by decide +kernel
theorem dX4_lives_22 : decode cX4_lives 22 = .ok (.aload_n 0, 1) := by decide +kernel
theorem dX4_lives_23 : decode cX4_lives 23 = .ok (.iconst 1, 1) := by decide +kernel
theorem dX4_lives_24 : decode cX4_lives 24 = .ok (.invokevirtual 115, 3) := by decide +kernel
theorem dX4_lives_27 : decode cX4_lives 27 = .ok (.iload_n 1, 1) := by decide +kernel
theorem dX4_lives_28 : decode cX4_lives 28 = .ok (.invokestatic 71, 3) := by decide +kernel
theorem dX4_lives_31 : decode cX4_lives 31 = .ok (.ifCond .ne 5, 3) := by decide +kernel
theorem dX4_lives_34 : decode cX4_lives 34 = .ok (.iload_n 2, 1) := by decide +kernel
theorem dX4_lives_35 : decode cX4_lives 35 = .ok (.ireturn, 1) := by decide +kernel
theorem dX4_lives_36 : decode cX4_lives 36 = .ok (.aload_n 0, 1) := by decide +kernel
theorem dX4_lives_37 : decode cX4_lives 37 = .ok (.iconst 1, 1) := by decide +kernel
theorem dX4_lives_38 : decode cX4_lives 38 = .ok (.invokevirtual 144, 3) := by decide +kernel
theorem dX4_lives_41 : decode cX4_lives 41 = .ok (.iinc 2 1, 3) := by decide +kernel
theorem dX4_lives_44 : decode cX4_lives 44 = .ok (.goto (-28), 3) := by decide +kernel
theorem dX4_lives_47 : decode cX4_lives 47 = .ok (.bipush (-9), 2) := by decide +kernel
theorem dX4_lives_49 : decode cX4_lives 49 = .ok (.ireturn, 1) := by decide +kernel
theorem dX4_ends_0 : decode cX4_ends 0 = .ok (.aload_n 0, 1) := by decide +kernel
theorem dX4_ends_1 : decode cX4_ends 1 = .ok (.invokevirtual 169, 3) := by decide +kernel
theorem dX4_ends_4 : decode cX4_ends 4 = .ok (.iconst 0, 1) := by decide +kernel
theorem dX4_ends_5 : decode cX4_ends 5 = .ok (.istore_n 3, 1) := by decide +kernel
theorem dX4_ends_6 : decode cX4_ends 6 = .ok (.iload_n 3, 1) := by decide +kernel
theorem dX4_ends_7 : decode cX4_ends 7 = .ok (.aload_n 0, 1) := by decide +kernel
theorem dX4_ends_8 : decode cX4_ends 8 = .ok (.getfield 50, 3) := by decide +kernel
theorem dX4_ends_11 : decode cX4_ends 11 = .ok (.if_icmp .ge 24, 3) := by decide +kernel
theorem dX4_ends_14 : decode cX4_ends 14 = .ok (.iload_n 2, 1) := by decide +kernel
theorem dX4_ends_15 : decode cX4_ends 15 = .ok (.iload_n 3, 1) := by decide +kernel
theorem dX4_ends_16 : decode cX4_ends 16 = .ok (.invokestatic 71, 3) := by decide +kernel
theorem dX4_ends_19 : decode cX4_ends 19 = .ok (.ifCond .eq 10, 3) := by decide +kernel
theorem dX4_ends_22 : decode cX4_ends 22 = .ok (.aload_n 0, 1) := by decide +kernel
theorem dX4_ends_23 : decode cX4_ends 23 = .ok (.iconst 1, 1) := by decide +kernel
theorem dX4_ends_24 : decode cX4_ends 24 = .ok (.iload_n 3, 1) := by decide +kernel
theorem dX4_ends_25 : decode cX4_ends 25 = .ok (.iload_n 1, 1) := by decide +kernel
theorem dX4_ends_26 : decode cX4_ends 26 = .ok (.invokevirtual 157, 3) := by decide +kernel
theorem dX4_ends_29 : decode cX4_ends 29 = .ok (.iinc 3 1, 3) := by decide +kernel
theorem dX4_ends_32 : decode cX4_ends 32 = .ok (.goto (-26), 3) := by decide +kernel
theorem dX4_ends_35 : decode cX4_ends 35 = .ok (.aload_n 0, 1) := by decide +kernel
theorem dX4_ends_36 : decode cX4_ends 36 = .ok (.iconst 1, 1) := by decide +kernel
theorem dX4_ends_37 : decode cX4_ends 37 = .ok (.iload_n 1, 1) := by decide +kernel
theorem dX4_ends_38 : decode cX4_ends 38 = .ok (.invokevirtual 160, 3) := by decide +kernel
theorem dX4_ends_41 : decode cX4_ends 41 = .ok (.ifCond .ne 6, 3) := by decide +kernel
theorem dX4_ends_44 : decode cX4_ends 44 = .ok (.bipush (-9), 2) := by decide +kernel
theorem dX4_ends_46 : decode cX4_ends 46 = .ok (.ireturn, 1) := by decide +kernel
theorem dX4_ends_47 : decode cX4_ends 47 = .ok (.aload_n 0, 1) := by decide +kernel
theorem dX4_ends_48 : decode cX4_ends 48 = .ok (.getfield 16, 3) := by decide +kernel
theorem dX4_ends_51 : decode cX4_ends 51 = .ok (.bipush 54, 2) := by decide +kernel
theorem dX4_ends_53 : decode cX4_ends 53 = .ok (.iload_n 1, 1) := by decide +kernel
theorem dX4_ends_54 : decode cX4_ends 54 = .ok (.iadd, 1) := by decide +kernel
theorem dX4_ends_55 : decode cX4_ends 55 = .ok (.iconst 1, 1) := by decide +kernel
theorem dX4_ends_56 : decode cX4_ends 56 = .ok (.iastore, 1) := by decide +kernel
theorem dX4_ends_57 : decode cX4_ends 57 = .ok (.aload_n 0, 1) := by decide +kernel
theorem dX4_ends_58 : decode cX4_ends 58 = .ok (.getfield 16, 3) := by decide +kernel
theorem dX4_ends_61 : decode cX4_ends 61 = .ok (.bipush 20, 2) := by decide +kernel
theorem dX4_ends_63 : decode cX4_ends 63 = .ok (.iload_n 1, 1) := by decide +kernel
theorem dX4_ends_64 : decode cX4_ends 64 = .ok (.iadd, 1) := by decide +kernel
theorem dX4_ends_65 : decode cX4_ends 65 = .ok (.iaload, 1) := by decide +kernel
theorem dX4_ends_66 : decode cX4_ends 66 = .ok (.istore_n 3, 1) := by decide +kernel
theorem dX4_ends_67 : decode cX4_ends 67 = .ok (.iload_n 3, 1) := by decide +kernel
theorem dX4_ends_68 : decode cX4_ends 68 = .ok (.ifCond .le 14, 3) := by decide +kernel
theorem dX4_ends_71 : decode cX4_ends 71 = .ok (.aload_n 0, 1) := by decide +kernel
theorem dX4_ends_72 : decode cX4_ends 72 = .ok (.iconst 1, 1) := by decide +kernel
theorem dX4_ends_73 : decode cX4_ends 73 = .ok (.invokevirtual 144, 3) := by decide +kernel
theorem dX4_ends_76 : decode cX4_ends 76 = .ok (.iinc 3 (-1), 3) := by decide +kernel
theorem dX4_ends_79 : decode cX4_ends 79 = .ok (.goto (-12), 3) := by decide +kernel
theorem dX4_ends_82 : decode cX4_ends 82 = .ok (.aload_n 0, 1) := by decide +kernel
theorem dX4_ends_83 : decode cX4_ends 83 = .ok (.getfield 16, 3) := by decide +kernel
theorem dX4_ends_86 : decode cX4_ends 86 = .ok (.bipush 54, 2) := by decide +kernel
theorem dX4_ends_88 : decode cX4_ends 88 = .ok (.iload_n 1, 1) := by decide +kernel
theorem dX4_ends_89 : decode cX4_ends 89 = .ok (.iadd, 1) := by decide +kernel
theorem dX4_ends_90 : decode cX4_ends 90 = .ok (.iaload, 1) := by decide +kernel
theorem dX4_ends_91 : decode cX4_ends 91 = .ok (.iconst 2, 1) := by decide +kernel
theorem dX4_ends_92 : decode cX4_ends 92 = .ok (.if_icmp .ne 7, 3) := by decide +kernel
theorem dX4_ends_95 : decode cX4_ends 95 = .ok (.iconst 1, 1) := by decide +kernel
theorem dX4_ends_96 : decode cX4_ends 96 = .ok (.goto 4, 3) := by decide +kernel
theorem dX4_ends_99 : decode cX4_ends 99 = .ok (.iconst 0, 1) := by decide +kernel
theorem dX4_ends_100 : decode cX4_ends 100 = .ok (.ireturn, 1) := by decide +kernel
theorem dX4_freeOnes_0 : decode cX4_freeOnes 0 = .ok (.iconst 0, 1) := by decide +kernel
theorem dX4_freeOnes_1 : decode cX4_freeOnes 1 = .ok (.istore_n 1, 1) := by decide +kernel
theorem dX4_freeOnes_2 : decode cX4_freeOnes 2 = .ok (.iconst 0, 1) := by decide +kernel
theorem dX4_freeOnes_3 : decode cX4_freeOnes 3 = .ok (.istore_n 2, 1) := by decide +kernel
theorem dX4_freeOnes_4 : decode cX4_freeOnes 4 = .ok (.iload_n 2, 1) := by decide +kernel
theorem dX4_freeOnes_5 : decode cX4_freeOnes 5 = .ok (.aload_n 0, 1) := by decide +kernel
theorem dX4_freeOnes_6 : decode cX4_freeOnes 6 = .ok (.getfield 50, 3) := by decide +kernel
theorem dX4_freeOnes_9 : decode cX4_freeOnes 9 = .ok (.if_icmp .ge 28, 3) := by decide +kernel
theorem dX4_freeOnes_12 : decode cX4_freeOnes 12 = .ok (.iload_n 1, 1) := by decide +kernel
theorem dX4_freeOnes_13 : decode cX4_freeOnes 13 = .ok (.aload_n 0, 1) := by decide +kernel
theorem dX4_freeOnes_14 : decode cX4_freeOnes 14 = .ok (.iconst 0, 1) := by decide +kernel
theorem dX4_freeOnes_15 : decode cX4_freeOnes 15 = .ok (.iload_n 2, 1) := by decide +kernel
theorem dX4_freeOnes_16 : decode cX4_freeOnes 16 = .ok (.invokevirtual 150, 3) := by decide +kernel
theorem dX4_freeOnes_19 : decode cX4_freeOnes 19 = .ok (.ifCond .eq 9, 3) := by decide +kernel
theorem dX4_freeOnes_22 : decode cX4_freeOnes 22 = .ok (.iconst 1, 1) := by decide +kernel
theorem dX4_freeOnes_23 : decode cX4_freeOnes 23 = .ok (.iload_n 2, 1) := by decide +kernel
theorem dX4_freeOnes_24 : decode cX4_freeOnes 24 = .ok (.ishl, 1) := by decide +kernel
theorem dX4_freeOnes_25 : decode cX4_freeOnes 25 = .ok (.goto 4, 3) := by decide +kernel
theorem dX4_freeOnes_28 : decode cX4_freeOnes 28 = .ok (.iconst 0, 1) := by decide +kernel
theorem dX4_freeOnes_29 : decode cX4_freeOnes 29 = .ok (.ior, 1) := by decide +kernel
theorem dX4_freeOnes_30 : decode cX4_freeOnes 30 = .ok (.istore_n 1, 1) := by decide +kernel
theorem dX4_freeOnes_31 : decode cX4_freeOnes 31 = .ok (.iinc 2 1, 3) := by decide +kernel
theorem dX4_freeOnes_34 : decode cX4_freeOnes 34 = .ok (.goto (-30), 3) := by decide +kernel
theorem dX4_freeOnes_37 : decode cX4_freeOnes 37 = .ok (.iload_n 1, 1) := by decide +kernel
theorem dX4_freeOnes_38 : decode cX4_freeOnes 38 = .ok (.ireturn, 1) := by decide +kernel
theorem dX4_comes_0 : decode cX4_comes 0 = .ok (.aload_n 0, 1) := by decide +kernel
theorem dX4_comes_1 : decode cX4_comes 1 = .ok (.iload_n 1, 1) := by decide +kernel
theorem dX4_comes_2 : decode cX4_comes 2 = .ok (.invokevirtual 132, 3) := by decide +kernel
theorem dX4_comes_5 : decode cX4_comes 5 = .ok (.ifCond .ne 5, 3) := by decide +kernel
theorem dX4_comes_8 : decode cX4_comes 8 = .ok (.iconst (-1), 1) := by decide +kernel
theorem dX4_comes_9 : decode cX4_comes 9 = .ok (.ireturn, 1) := by decide +kernel
theorem dX4_comes_10 : decode cX4_comes 10 = .ok (.iload_n 2, 1) := by decide +kernel
theorem dX4_comes_11 : decode cX4_comes 11 = .ok (.i2l, 1) := by decide +kernel
theorem dX4_comes_12 : decode cX4_comes 12 = .ok (.lconst 0, 1) := by decide +kernel
theorem dX4_comes_13 : decode cX4_comes 13 = .ok (.iconst 1, 1) := by decide +kernel
theorem dX4_comes_14 : decode cX4_comes 14 = .ok (.aload_n 0, 1) := by decide +kernel
theorem dX4_comes_15 : decode cX4_comes 15 = .ok (.getfield 50, 3) := by decide +kernel
theorem dX4_comes_18 : decode cX4_comes 18 = .ok (.ishl, 1) := by decide +kernel
theorem dX4_comes_19 : decode cX4_comes 19 = .ok (.iconst 1, 1) := by decide +kernel
theorem dX4_comes_20 : decode cX4_comes 20 = .ok (.isub, 1) := by decide +kernel
theorem dX4_comes_21 : decode cX4_comes 21 = .ok (.i2l, 1) := by decide +kernel
theorem dX4_comes_22 : decode cX4_comes 22 = .ok (.invokestatic 56, 3) := by decide +kernel
theorem dX4_comes_25 : decode cX4_comes 25 = .ok (.ifCond .ne 6, 3) := by decide +kernel
theorem dX4_comes_28 : decode cX4_comes 28 = .ok (.bipush (-2), 2) := by decide +kernel
theorem dX4_comes_30 : decode cX4_comes 30 = .ok (.ireturn, 1) := by decide +kernel
theorem dX4_comes_31 : decode cX4_comes 31 = .ok (.aload_n 0, 1) := by decide +kernel
theorem dX4_comes_32 : decode cX4_comes 32 = .ok (.getfield 16, 3) := by decide +kernel
theorem dX4_comes_35 : decode cX4_comes 35 = .ok (.bipush 24, 2) := by decide +kernel
theorem dX4_comes_37 : decode cX4_comes 37 = .ok (.iload_n 1, 1) := by decide +kernel
theorem dX4_comes_38 : decode cX4_comes 38 = .ok (.iadd, 1) := by decide +kernel
theorem dX4_comes_39 : decode cX4_comes 39 = .ok (.iaload, 1) := by decide +kernel
