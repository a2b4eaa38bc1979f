/-! words of the tables by their places; methods as V takes them -/
theorem inX0 : ∀ q ∈ u_ws RX0 TX0 1, q ∈ TG := by decide +kernel
theorem inX1 : ∀ q ∈ u_ws RX1 TX1 12, q ∈ TG := by decide +kernel
theorem inX2 : ∀ q ∈ u_ws RX2 TX2 5, q ∈ TG := by decide +kernel
theorem inX3 : ∀ q ∈ u_ws RX3 TX3 15, q ∈ TG := by decide +kernel
theorem inX4 : ∀ q ∈ u_ws RX4 TX4 24, q ∈ TG := by decide +kernel
theorem fl_X3_9 : Cond.fieldLink RX3 9 (TX3 0).1 (TX3 0).2.1 (TX3 0).2.2.1 ∈ TG := tg 163 (by decide +kernel) (by decide +kernel)
theorem fl_X3_16 : Cond.fieldLink RX3 16 (TX3 2).1 (TX3 2).2.1 (TX3 2).2.2.1 ∈ TG := tg 165 (by decide +kernel) (by decide +kernel)
theorem fl_X3_23 : Cond.fieldLink RX3 23 (TX3 3).1 (TX3 3).2.1 (TX3 3).2.2.1 ∈ TG := tg 166 (by decide +kernel) (by decide +kernel)
theorem fl_X3_27 : Cond.fieldLink RX3 27 (TX3 4).1 (TX3 4).2.1 (TX3 4).2.2.1 ∈ TG := tg 167 (by decide +kernel) (by decide +kernel)
theorem fl_X3_35 : Cond.fieldLink RX3 35 (TX3 5).1 (TX3 5).2.1 (TX3 5).2.2.1 ∈ TG := tg 168 (by decide +kernel) (by decide +kernel)
theorem fl_X3_39 : Cond.fieldLink RX3 39 (TX3 7).1 (TX3 7).2.1 (TX3 7).2.2.1 ∈ TG := tg 170 (by decide +kernel) (by decide +kernel)
theorem fl_X3_42 : Cond.fieldLink RX3 42 (TX3 8).1 (TX3 8).2.1 (TX3 8).2.2.1 ∈ TG := tg 171 (by decide +kernel) (by decide +kernel)
theorem fl_X3_46 : Cond.fieldLink RX3 46 (TX3 9).1 (TX3 9).2.1 (TX3 9).2.2.1 ∈ TG := tg 172 (by decide +kernel) (by decide +kernel)
theorem fl_X3_49 : Cond.fieldLink RX3 49 (TX3 10).1 (TX3 10).2.1 (TX3 10).2.2.1 ∈ TG := tg 173 (by decide +kernel) (by decide +kernel)
theorem fl_X3_52 : Cond.fieldLink RX3 52 (TX3 11).1 (TX3 11).2.1 (TX3 11).2.2.1 ∈ TG := tg 174 (by decide +kernel) (by decide +kernel)
theorem fl_X3_55 : Cond.fieldLink RX3 55 (TX3 13).1 (TX3 13).2.1 (TX3 13).2.2.1 ∈ TG := tg 176 (by decide +kernel) (by decide +kernel)
theorem fl_X3_58 : Cond.fieldLink RX3 58 (TX3 1).1 (TX3 1).2.1 (TX3 1).2.2.1 ∈ TG := tg 164 (by decide +kernel) (by decide +kernel)
theorem fl_X3_70 : Cond.fieldLink RX3 70 (TX3 6).1 (TX3 6).2.1 (TX3 6).2.2.1 ∈ TG := tg 169 (by decide +kernel) (by decide +kernel)
theorem fl_X3_73 : Cond.fieldLink RX3 73 (TX1 0).1 (TX1 0).2.1 (TX1 0).2.2.1 ∈ TG := tg 93 (by decide +kernel) (by decide +kernel)
theorem fl_X3_76 : Cond.fieldLink RX3 76 (TX1 1).1 (TX1 1).2.1 (TX1 1).2.2.1 ∈ TG := tg 96 (by decide +kernel) (by decide +kernel)
theorem fl_X3_83 : Cond.fieldLink RX3 83 (TX1 4).1 (TX1 4).2.1 (TX1 4).2.2.1 ∈ TG := tg 105 (by decide +kernel) (by decide +kernel)
theorem fl_X3_86 : Cond.fieldLink RX3 86 (TX1 5).1 (TX1 5).2.1 (TX1 5).2.2.1 ∈ TG := tg 108 (by decide +kernel) (by decide +kernel)
theorem fl_X3_89 : Cond.fieldLink RX3 89 (TX1 6).1 (TX1 6).2.1 (TX1 6).2.2.1 ∈ TG := tg 110 (by decide +kernel) (by decide +kernel)
theorem fl_X3_102 : Cond.fieldLink RX3 102 (TX1 8).1 (TX1 8).2.1 (TX1 8).2.2.1 ∈ TG := tg 116 (by decide +kernel) (by decide +kernel)
theorem fl_X3_105 : Cond.fieldLink RX3 105 (TX1 7).1 (TX1 7).2.1 (TX1 7).2.2.1 ∈ TG := tg 113 (by decide +kernel) (by decide +kernel)
theorem fl_X3_111 : Cond.fieldLink RX3 111 (TX1 9).1 (TX1 9).2.1 (TX1 9).2.2.1 ∈ TG := tg 119 (by decide +kernel) (by decide +kernel)
theorem fl_X3_114 : Cond.fieldLink RX3 114 (TX1 10).1 (TX1 10).2.1 (TX1 10).2.2.1 ∈ TG := tg 121 (by decide +kernel) (by decide +kernel)
theorem fl_X3_123 : Cond.fieldLink RX3 123 (TX1 11).1 (TX1 11).2.1 (TX1 11).2.2.1 ∈ TG := tg 124 (by decide +kernel) (by decide +kernel)
theorem fl_X3_161 : Cond.fieldLink RX3 161 (TX1 3).1 (TX1 3).2.1 (TX1 3).2.2.1 ∈ TG := tg 102 (by decide +kernel) (by decide +kernel)
theorem fl_X3_187 : Cond.fieldLink RX3 187 (TX3 12).1 (TX3 12).2.1 (TX3 12).2.2.1 ∈ TG := tg 175 (by decide +kernel) (by decide +kernel)
theorem fl_X3_218 : Cond.fieldLink RX3 218 (TX3 14).1 (TX3 14).2.1 (TX3 14).2.2.1 ∈ TG := tg 177 (by decide +kernel) (by decide +kernel)
theorem fl_X3_234 : Cond.fieldLink RX3 234 (TX1 2).1 (TX1 2).2.1 (TX1 2).2.2.1 ∈ TG := tg 99 (by decide +kernel) (by decide +kernel)
theorem fl_X0_17 : Cond.fieldLink RX0 17 (TX0 0).1 (TX0 0).2.1 (TX0 0).2.2.1 ∈ TG := tg 159 (by decide +kernel) (by decide +kernel)
theorem fl_X0_25 : Cond.fieldLink RX0 25 (TX1 4).1 (TX1 4).2.1 (TX1 4).2.2.1 ∈ TG := tg 104 (by decide +kernel) (by decide +kernel)
theorem fl_X0_36 : Cond.fieldLink RX0 36 (TX1 5).1 (TX1 5).2.1 (TX1 5).2.2.1 ∈ TG := tg 107 (by decide +kernel) (by decide +kernel)
theorem fl_X0_39 : Cond.fieldLink RX0 39 (TX1 7).1 (TX1 7).2.1 (TX1 7).2.2.1 ∈ TG := tg 112 (by decide +kernel) (by decide +kernel)
theorem fl_X0_42 : Cond.fieldLink RX0 42 (TX1 8).1 (TX1 8).2.1 (TX1 8).2.2.1 ∈ TG := tg 115 (by decide +kernel) (by decide +kernel)
theorem fl_X0_45 : Cond.fieldLink RX0 45 (TX1 9).1 (TX1 9).2.1 (TX1 9).2.2.1 ∈ TG := tg 118 (by decide +kernel) (by decide +kernel)
theorem fl_X0_48 : Cond.fieldLink RX0 48 (TX1 11).1 (TX1 11).2.1 (TX1 11).2.2.1 ∈ TG := tg 123 (by decide +kernel) (by decide +kernel)
theorem fl_X0_51 : Cond.fieldLink RX0 51 (TX1 3).1 (TX1 3).2.1 (TX1 3).2.2.1 ∈ TG := tg 101 (by decide +kernel) (by decide +kernel)
theorem fl_X0_55 : Cond.fieldLink RX0 55 (TX1 2).1 (TX1 2).2.1 (TX1 2).2.2.1 ∈ TG := tg 98 (by decide +kernel) (by decide +kernel)
theorem fl_X1_9 : Cond.fieldLink RX1 9 (TX1 4).1 (TX1 4).2.1 (TX1 4).2.2.1 ∈ TG := tg 103 (by decide +kernel) (by decide +kernel)
theorem fl_X1_15 : Cond.fieldLink RX1 15 (TX1 5).1 (TX1 5).2.1 (TX1 5).2.2.1 ∈ TG := tg 106 (by decide +kernel) (by decide +kernel)
theorem fl_X1_18 : Cond.fieldLink RX1 18 (TX1 6).1 (TX1 6).2.1 (TX1 6).2.2.1 ∈ TG := tg 109 (by decide +kernel) (by decide +kernel)
theorem fl_X1_21 : Cond.fieldLink RX1 21 (TX1 7).1 (TX1 7).2.1 (TX1 7).2.2.1 ∈ TG := tg 111 (by decide +kernel) (by decide +kernel)
theorem fl_X1_24 : Cond.fieldLink RX1 24 (TX1 8).1 (TX1 8).2.1 (TX1 8).2.2.1 ∈ TG := tg 114 (by decide +kernel) (by decide +kernel)
theorem fl_X1_27 : Cond.fieldLink RX1 27 (TX1 9).1 (TX1 9).2.1 (TX1 9).2.2.1 ∈ TG := tg 117 (by decide +kernel) (by decide +kernel)
theorem fl_X1_30 : Cond.fieldLink RX1 30 (TX1 10).1 (TX1 10).2.1 (TX1 10).2.2.1 ∈ TG := tg 120 (by decide +kernel) (by decide +kernel)
theorem fl_X1_33 : Cond.fieldLink RX1 33 (TX1 11).1 (TX1 11).2.1 (TX1 11).2.2.1 ∈ TG := tg 122 (by decide +kernel) (by decide +kernel)
theorem fl_X1_36 : Cond.fieldLink RX1 36 (TX1 0).1 (TX1 0).2.1 (TX1 0).2.2.1 ∈ TG := tg 91 (by decide +kernel) (by decide +kernel)
theorem fl_X1_40 : Cond.fieldLink RX1 40 (TX1 1).1 (TX1 1).2.1 (TX1 1).2.2.1 ∈ TG := tg 94 (by decide +kernel) (by decide +kernel)
theorem fl_X1_43 : Cond.fieldLink RX1 43 (TX1 2).1 (TX1 2).2.1 (TX1 2).2.2.1 ∈ TG := tg 97 (by decide +kernel) (by decide +kernel)
theorem fl_X1_46 : Cond.fieldLink RX1 46 (TX1 3).1 (TX1 3).2.1 (TX1 3).2.2.1 ∈ TG := tg 100 (by decide +kernel) (by decide +kernel)
theorem fl_X2_9 : Cond.fieldLink RX2 9 (TX2 0).1 (TX2 0).2.1 (TX2 0).2.2.1 ∈ TG := tg 68 (by decide +kernel) (by decide +kernel)
theorem fl_X2_15 : Cond.fieldLink RX2 15 (TX2 1).1 (TX2 1).2.1 (TX2 1).2.2.1 ∈ TG := tg 69 (by decide +kernel) (by decide +kernel)
theorem fl_X2_32 : Cond.fieldLink RX2 32 (TX1 0).1 (TX1 0).2.1 (TX1 0).2.2.1 ∈ TG := tg 92 (by decide +kernel) (by decide +kernel)
theorem fl_X2_41 : Cond.fieldLink RX2 41 (TX1 1).1 (TX1 1).2.1 (TX1 1).2.2.1 ∈ TG := tg 95 (by decide +kernel) (by decide +kernel)
theorem fl_X2_44 : Cond.fieldLink RX2 44 (TX2 2).1 (TX2 2).2.1 (TX2 2).2.2.1 ∈ TG := tg 70 (by decide +kernel) (by decide +kernel)
theorem fl_X2_51 : Cond.fieldLink RX2 51 (TX2 3).1 (TX2 3).2.1 (TX2 3).2.2.1 ∈ TG := tg 71 (by decide +kernel) (by decide +kernel)
theorem fl_X2_54 : Cond.fieldLink RX2 54 (TX2 4).1 (TX2 4).2.1 (TX2 4).2.2.1 ∈ TG := tg 72 (by decide +kernel) (by decide +kernel)
theorem fl_X4_7 : Cond.fieldLink RX4 7 (TX4 2).1 (TX4 2).2.1 (TX4 2).2.2.1 ∈ TG := tg 588 (by decide +kernel) (by decide +kernel)
theorem fl_X4_13 : Cond.fieldLink RX4 13 (TX4 3).1 (TX4 3).2.1 (TX4 3).2.2.1 ∈ TG := tg 589 (by decide +kernel) (by decide +kernel)
theorem fl_X4_16 : Cond.fieldLink RX4 16 (TX4 4).1 (TX4 4).2.1 (TX4 4).2.2.1 ∈ TG := tg 590 (by decide +kernel) (by decide +kernel)
theorem fl_X4_19 : Cond.fieldLink RX4 19 (TX4 5).1 (TX4 5).2.1 (TX4 5).2.2.1 ∈ TG := tg 591 (by decide +kernel) (by decide +kernel)
theorem fl_X4_22 : Cond.fieldLink RX4 22 (TX4 6).1 (TX4 6).2.1 (TX4 6).2.2.1 ∈ TG := tg 592 (by decide +kernel) (by decide +kernel)
theorem fl_X4_25 : Cond.fieldLink RX4 25 (TX4 7).1 (TX4 7).2.1 (TX4 7).2.2.1 ∈ TG := tg 593 (by decide +kernel) (by decide +kernel)
theorem fl_X4_28 : Cond.fieldLink RX4 28 (TX4 10).1 (TX4 10).2.1 (TX4 10).2.2.1 ∈ TG := tg 596 (by decide +kernel) (by decide +kernel)
theorem fl_X4_31 : Cond.fieldLink RX4 31 (TX4 16).1 (TX4 16).2.1 (TX4 16).2.2.1 ∈ TG := tg 602 (by decide +kernel) (by decide +kernel)
theorem fl_X4_34 : Cond.fieldLink RX4 34 (TX4 18).1 (TX4 18).2.1 (TX4 18).2.2.1 ∈ TG := tg 604 (by decide +kernel) (by decide +kernel)
theorem fl_X4_37 : Cond.fieldLink RX4 37 (TX4 19).1 (TX4 19).2.1 (TX4 19).2.2.1 ∈ TG := tg 605 (by decide +kernel) (by decide +kernel)
theorem fl_X4_40 : Cond.fieldLink RX4 40 (TX4 20).1 (TX4 20).2.1 (TX4 20).2.2.1 ∈ TG := tg 606 (by decide +kernel) (by decide +kernel)
theorem fl_X4_43 : Cond.fieldLink RX4 43 (TX4 22).1 (TX4 22).2.1 (TX4 22).2.2.1 ∈ TG := tg 608 (by decide +kernel) (by decide +kernel)
theorem fl_X4_47 : Cond.fieldLink RX4 47 (TX4 23).1 (TX4 23).2.1 (TX4 23).2.2.1 ∈ TG := tg 609 (by decide +kernel) (by decide +kernel)
theorem fl_X4_50 : Cond.fieldLink RX4 50 (TX4 0).1 (TX4 0).2.1 (TX4 0).2.2.1 ∈ TG := tg 586 (by decide +kernel) (by decide +kernel)
theorem fl_X4_60 : Cond.fieldLink RX4 60 (TX4 11).1 (TX4 11).2.1 (TX4 11).2.2.1 ∈ TG := tg 597 (by decide +kernel) (by decide +kernel)
theorem fl_X4_63 : Cond.fieldLink RX4 63 (TX4 13).1 (TX4 13).2.1 (TX4 13).2.2.1 ∈ TG := tg 599 (by decide +kernel) (by decide +kernel)
theorem fl_X4_66 : Cond.fieldLink RX4 66 (TX4 12).1 (TX4 12).2.1 (TX4 12).2.2.1 ∈ TG := tg 598 (by decide +kernel) (by decide +kernel)
theorem fl_X4_75 : Cond.fieldLink RX4 75 (TX4 8).1 (TX4 8).2.1 (TX4 8).2.2.1 ∈ TG := tg 594 (by decide +kernel) (by decide +kernel)
theorem fl_X4_82 : Cond.fieldLink RX4 82 (TX4 9).1 (TX4 9).2.1 (TX4 9).2.2.1 ∈ TG := tg 595 (by decide +kernel) (by decide +kernel)
theorem fl_X4_99 : Cond.fieldLink RX4 99 (TX4 1).1 (TX4 1).2.1 (TX4 1).2.2.1 ∈ TG := tg 587 (by decide +kernel) (by decide +kernel)
theorem fl_X4_102 : Cond.fieldLink RX4 102 (TX4 14).1 (TX4 14).2.1 (TX4 14).2.2.1 ∈ TG := tg 600 (by decide +kernel) (by decide +kernel)
theorem fl_X4_138 : Cond.fieldLink RX4 138 (TX4 15).1 (TX4 15).2.1 (TX4 15).2.2.1 ∈ TG := tg 601 (by decide +kernel) (by decide +kernel)
theorem fl_X4_193 : Cond.fieldLink RX4 193 (TX4 17).1 (TX4 17).2.1 (TX4 17).2.2.1 ∈ TG := tg 603 (by decide +kernel) (by decide +kernel)
theorem fl_X4_214 : Cond.fieldLink RX4 214 (TX4 21).1 (TX4 21).2.1 (TX4 21).2.2.1 ∈ TG := tg 607 (by decide +kernel) (by decide +kernel)
theorem ml_X3_62 : Cond.methodLink RX3 62 yX3_readInto ∈ TG := tg 222 (by decide +kernel) (by decide +kernel)
theorem ml_X3_66 : Cond.methodLink RX3 66 yX1_copyFrom ∈ TG := tg 306 (by decide +kernel) (by decide +kernel)
theorem ml_X3_79 : Cond.methodLink RX3 79 yX1_hasStamp ∈ TG := tg 317 (by decide +kernel) (by decide +kernel)
theorem ml_X3_92 : Cond.methodLink RX3 92 yX1_span ∈ TG := tg 318 (by decide +kernel) (by decide +kernel)
theorem ml_X3_96 : Cond.methodLink RX3 96 yX1_rate ∈ TG := tg 322 (by decide +kernel) (by decide +kernel)
theorem ml_X3_99 : Cond.methodLink RX3 99 yX1_isAlive ∈ TG := tg 329 (by decide +kernel) (by decide +kernel)
theorem ml_X3_108 : Cond.methodLink RX3 108 yX1_hasLetter ∈ TG := tg 338 (by decide +kernel) (by decide +kernel)
theorem ml_X3_117 : Cond.methodLink RX3 117 yX1_stuckBits ∈ TG := tg 342 (by decide +kernel) (by decide +kernel)
theorem ml_X3_120 : Cond.methodLink RX3 120 yX1_goodFor ∈ TG := tg 346 (by decide +kernel) (by decide +kernel)
theorem ml_X3_126 : Cond.methodLink RX3 126 yX3_remember ∈ TG := tg 356 (by decide +kernel) (by decide +kernel)
theorem ml_X3_129 : Cond.methodLink RX3 129 yX1_passWeek ∈ TG := tg 373 (by decide +kernel) (by decide +kernel)
theorem ml_X3_132 : Cond.methodLink RX3 132 yX1_aliveBits ∈ TG := tg 394 (by decide +kernel) (by decide +kernel)
theorem ml_X3_136 : Cond.methodLink RX3 136 yJ6_bitCount_0f7a4 ∈ TG := tg 395 (by decide +kernel) (by decide +kernel)
theorem ml_X3_141 : Cond.methodLink RX3 141 yX1_canStick ∈ TG := tg 405 (by decide +kernel) (by decide +kernel)
theorem ml_X3_145 : Cond.methodLink RX3 145 yX1_stickOn ∈ TG := tg 410 (by decide +kernel) (by decide +kernel)
theorem ml_X3_149 : Cond.methodLink RX3 149 yX1_canSend ∈ TG := tg 419 (by decide +kernel) (by decide +kernel)
theorem ml_X3_152 : Cond.methodLink RX3 152 yX1_sendOff ∈ TG := tg 424 (by decide +kernel) (by decide +kernel)
theorem ml_X3_155 : Cond.methodLink RX3 155 yX1_areJoined ∈ TG := tg 432 (by decide +kernel) (by decide +kernel)
theorem ml_X3_158 : Cond.methodLink RX3 158 yX1_partTwo ∈ TG := tg 433 (by decide +kernel) (by decide +kernel)
theorem ml_X3_165 : Cond.methodLink RX3 165 yX0_load ∈ TG := tg 445 (by decide +kernel) (by decide +kernel)
theorem ml_X3_169 : Cond.methodLink RX3 169 yX1_allBits ∈ TG := tg 457 (by decide +kernel) (by decide +kernel)
theorem ml_X3_172 : Cond.methodLink RX3 172 yX1_freeBits ∈ TG := tg 458 (by decide +kernel) (by decide +kernel)
theorem ml_X3_175 : Cond.methodLink RX3 175 yX3_tryToSend ∈ TG := tg 462 (by decide +kernel) (by decide +kernel)
theorem ml_X3_179 : Cond.methodLink RX3 179 yX1_joinedToAny ∈ TG := tg 474 (by decide +kernel) (by decide +kernel)
theorem ml_X3_184 : Cond.methodLink RX3 184 yX1_does ∈ TG := tg 483 (by decide +kernel) (by decide +kernel)
theorem ml_X3_190 : Cond.methodLink RX3 190 yX3_agreesWithSeen ∈ TG := tg 505 (by decide +kernel) (by decide +kernel)
theorem ml_X3_193 : Cond.methodLink RX3 193 yX3_factorial ∈ TG := tg 513 (by decide +kernel) (by decide +kernel)
theorem ml_X3_197 : Cond.methodLink RX3 197 yX1_affordable ∈ TG := tg 516 (by decide +kernel) (by decide +kernel)
theorem ml_X3_200 : Cond.methodLink RX3 200 yX3_toldPart ∈ TG := tg 520 (by decide +kernel) (by decide +kernel)
theorem ml_X3_204 : Cond.methodLink RX3 204 yX3_isContent ∈ TG := tg 530 (by decide +kernel) (by decide +kernel)
theorem ml_X3_208 : Cond.methodLink RX3 208 yX1_livingPairs ∈ TG := tg 537 (by decide +kernel) (by decide +kernel)
theorem ml_X3_211 : Cond.methodLink RX3 211 yX3_choose ∈ TG := tg 542 (by decide +kernel) (by decide +kernel)
theorem ml_X3_215 : Cond.methodLink RX3 215 yX3_power ∈ TG := tg 545 (by decide +kernel) (by decide +kernel)
theorem ml_X3_228 : Cond.methodLink RX3 228 yX3_tryWeeks ∈ TG := tg 559 (by decide +kernel) (by decide +kernel)
theorem ml_X3_231 : Cond.methodLink RX3 231 yX0_store ∈ TG := tg 365 (by decide +kernel) (by decide +kernel)
theorem ml_X3_237 : Cond.methodLink RX3 237 yX1_widowBits ∈ TG := tg 575 (by decide +kernel) (by decide +kernel)
theorem ml_X3_240 : Cond.methodLink RX3 240 yX1_fateBits ∈ TG := tg 576 (by decide +kernel) (by decide +kernel)
theorem ml_X3_243 : Cond.methodLink RX3 243 yX1_clear ∈ TG := tg 226 (by decide +kernel) (by decide +kernel)
theorem ml_X3_246 : Cond.methodLink RX3 246 yX2_begin ∈ TG := tg 233 (by decide +kernel) (by decide +kernel)
theorem ml_X3_249 : Cond.methodLink RX3 249 yX2_takes ∈ TG := tg 237 (by decide +kernel) (by decide +kernel)
theorem ml_X3_253 : Cond.methodLink RX3 253 yX2_mayEnd ∈ TG := tg 298 (by decide +kernel) (by decide +kernel)
theorem ml_X3_257 : Cond.methodLink RX3 257 yX0_forgetFirst ∈ TG := tg 360 (by decide +kernel) (by decide +kernel)
theorem ml_X3_260 : Cond.methodLink RX3 260 yX3_commonDivisor ∈ TG := tg 523 (by decide +kernel) (by decide +kernel)
theorem ml_X0_11 : Cond.methodLink RX0 11 Lib.Math.max.name ∈ TG := tg 156 (by decide +kernel) (by decide +kernel)
theorem ml_X0_21 : Cond.methodLink RX0 21 yX0_holds ∈ TG := tg 369 (by decide +kernel) (by decide +kernel)
theorem ml_X0_30 : Cond.methodLink RX0 30 arraycopyName ∈ TG := tg 364 (by decide +kernel) (by decide +kernel)
theorem ml_X1_50 : Cond.methodLink RX1 50 yJ7_fill_53178 ∈ TG := tg 230 (by decide +kernel) (by decide +kernel)
theorem ml_X1_56 : Cond.methodLink RX1 56 arraycopyName ∈ TG := tg 310 (by decide +kernel) (by decide +kernel)
theorem ml_X1_62 : Cond.methodLink RX1 62 yX1_hasStamp ∈ TG := tg 253 (by decide +kernel) (by decide +kernel)
theorem ml_X1_66 : Cond.methodLink RX1 66 yX1_areJoined ∈ TG := tg 282 (by decide +kernel) (by decide +kernel)
theorem ml_X1_70 : Cond.methodLink RX1 70 yX1_allBits ∈ TG := tg 257 (by decide +kernel) (by decide +kernel)
theorem ml_X1_74 : Cond.methodLink RX1 74 yX1_canJoinSome ∈ TG := tg 249 (by decide +kernel) (by decide +kernel)
theorem ml_X1_77 : Cond.methodLink RX1 77 yX1_span ∈ TG := tg 333 (by decide +kernel) (by decide +kernel)
theorem ml_X1_81 : Cond.methodLink RX1 81 Lib.Math.min.name ∈ TG := tg 326 (by decide +kernel) (by decide +kernel)
theorem ml_X1_87 : Cond.methodLink RX1 87 yX1_isAlive ∈ TG := tg 350 (by decide +kernel) (by decide +kernel)
theorem ml_X1_90 : Cond.methodLink RX1 90 yX1_aliveBits ∈ TG := tg 377 (by decide +kernel) (by decide +kernel)
theorem ml_X1_93 : Cond.methodLink RX1 93 yX1_rate ∈ TG := tg 351 (by decide +kernel) (by decide +kernel)
theorem ml_X1_96 : Cond.methodLink RX1 96 yX1_goodFor ∈ TG := tg 423 (by decide +kernel) (by decide +kernel)
theorem ml_X1_99 : Cond.methodLink RX1 99 yJ6_bitCount_0f7a4 ∈ TG := tg 541 (by decide +kernel) (by decide +kernel)
theorem ml_X1_104 : Cond.methodLink RX1 104 yX1_hasLetter ∈ TG := tg 409 (by decide +kernel) (by decide +kernel)
theorem ml_X1_107 : Cond.methodLink RX1 107 Lib.Math.max.name ∈ TG := tg 414 (by decide +kernel) (by decide +kernel)
theorem ml_X1_110 : Cond.methodLink RX1 110 yX1_stuckBits ∈ TG := tg 393 (by decide +kernel) (by decide +kernel)
theorem ml_X1_113 : Cond.methodLink RX1 113 yX1_growOlder ∈ TG := tg 381 (by decide +kernel) (by decide +kernel)
theorem ml_X1_117 : Cond.methodLink RX1 117 yX1_widowBits ∈ TG := tg 385 (by decide +kernel) (by decide +kernel)
theorem ml_X1_120 : Cond.methodLink RX1 120 yX1_carry ∈ TG := tg 389 (by decide +kernel) (by decide +kernel)
theorem ml_X1_124 : Cond.methodLink RX1 124 yX1_passWeek ∈ TG := tg 487 (by decide +kernel) (by decide +kernel)
theorem ml_X1_127 : Cond.methodLink RX1 127 yX1_canStick ∈ TG := tg 488 (by decide +kernel) (by decide +kernel)
theorem ml_X1_130 : Cond.methodLink RX1 130 yX1_stickOn ∈ TG := tg 489 (by decide +kernel) (by decide +kernel)
theorem ml_X1_133 : Cond.methodLink RX1 133 yX1_canSend ∈ TG := tg 490 (by decide +kernel) (by decide +kernel)
theorem ml_X1_136 : Cond.methodLink RX1 136 yX1_sendOff ∈ TG := tg 491 (by decide +kernel) (by decide +kernel)
theorem ml_X1_139 : Cond.methodLink RX1 139 yX1_partTwo ∈ TG := tg 492 (by decide +kernel) (by decide +kernel)
theorem ml_X2_19 : Cond.methodLink RX2 19 yX2_opens ∈ TG := tg 241 (by decide +kernel) (by decide +kernel)
theorem ml_X2_23 : Cond.methodLink RX2 23 yX2_takesOfStamp ∈ TG := tg 261 (by decide +kernel) (by decide +kernel)
theorem ml_X2_26 : Cond.methodLink RX2 26 yX2_takesOfJoin ∈ TG := tg 273 (by decide +kernel) (by decide +kernel)
theorem ml_X2_29 : Cond.methodLink RX2 29 yX2_takesOfLetter ∈ TG := tg 290 (by decide +kernel) (by decide +kernel)
theorem ml_X2_37 : Cond.methodLink RX2 37 yX1_canJoinAny ∈ TG := tg 245 (by decide +kernel) (by decide +kernel)
theorem ml_X2_47 : Cond.methodLink RX2 47 yX2_hold ∈ TG := tg 265 (by decide +kernel) (by decide +kernel)
theorem ml_X2_57 : Cond.methodLink RX2 57 yX1_addStamp ∈ TG := tg 269 (by decide +kernel) (by decide +kernel)
theorem ml_X2_61 : Cond.methodLink RX2 61 yX1_canJoinSome ∈ TG := tg 277 (by decide +kernel) (by decide +kernel)
theorem ml_X2_65 : Cond.methodLink RX2 65 yX1_canJoin ∈ TG := tg 278 (by decide +kernel) (by decide +kernel)
theorem ml_X2_69 : Cond.methodLink RX2 69 yX1_joinTwo ∈ TG := tg 286 (by decide +kernel) (by decide +kernel)
theorem ml_X2_73 : Cond.methodLink RX2 73 yX1_addLetter ∈ TG := tg 294 (by decide +kernel) (by decide +kernel)
theorem ml_L_13 : Cond.methodLink RL 13 yX3_write ∈ TG := tg 210 (by decide +kernel) (by decide +kernel)
theorem ml_L_17 : Cond.methodLink RL 17 yX4_write ∈ TG := tg 659 (by decide +kernel) (by decide +kernel)
theorem ml_L_18 : Cond.methodLink RL 18 yX3_wipe ∈ TG := tg 214 (by decide +kernel) (by decide +kernel)
theorem ml_L_22 : Cond.methodLink RL 22 yX4_wipe ∈ TG := tg 667 (by decide +kernel) (by decide +kernel)
theorem ml_L_23 : Cond.methodLink RL 23 yX3_fault ∈ TG := tg 218 (by decide +kernel) (by decide +kernel)
theorem ml_L_26 : Cond.methodLink RL 26 yX4_fault ∈ TG := tg 671 (by decide +kernel) (by decide +kernel)
theorem ml_L_27 : Cond.methodLink RL 27 yX3_album ∈ TG := tg 302 (by decide +kernel) (by decide +kernel)
theorem ml_L_30 : Cond.methodLink RL 30 yX4_album ∈ TG := tg 699 (by decide +kernel) (by decide +kernel)
theorem ml_L_31 : Cond.methodLink RL 31 yX3_stamp ∈ TG := tg 313 (by decide +kernel) (by decide +kernel)
theorem ml_L_35 : Cond.methodLink RL 35 yX4_stamp ∈ TG := tg 703 (by decide +kernel) (by decide +kernel)
theorem ml_L_36 : Cond.methodLink RL 36 yX3_letter ∈ TG := tg 334 (by decide +kernel) (by decide +kernel)
theorem ml_L_39 : Cond.methodLink RL 39 yX4_letter ∈ TG := tg 723 (by decide +kernel) (by decide +kernel)
theorem ml_L_40 : Cond.methodLink RL 40 yX3_week ∈ TG := tg 352 (by decide +kernel) (by decide +kernel)
theorem ml_L_43 : Cond.methodLink RL 43 yX4_week ∈ TG := tg 739 (by decide +kernel) (by decide +kernel)
theorem ml_L_44 : Cond.methodLink RL 44 yX3_stick ∈ TG := tg 401 (by decide +kernel) (by decide +kernel)
theorem ml_L_47 : Cond.methodLink RL 47 yX4_stick ∈ TG := tg 766 (by decide +kernel) (by decide +kernel)
theorem ml_L_48 : Cond.methodLink RL 48 yX3_send ∈ TG := tg 415 (by decide +kernel) (by decide +kernel)
theorem ml_L_51 : Cond.methodLink RL 51 yX4_send ∈ TG := tg 782 (by decide +kernel) (by decide +kernel)
theorem ml_L_52 : Cond.methodLink RL 52 yX3_part ∈ TG := tg 428 (by decide +kernel) (by decide +kernel)
theorem ml_L_55 : Cond.methodLink RL 55 yX4_part ∈ TG := tg 790 (by decide +kernel) (by decide +kernel)
theorem ml_L_56 : Cond.methodLink RL 56 yX3_damp ∈ TG := tg 437 (by decide +kernel) (by decide +kernel)
theorem ml_L_59 : Cond.methodLink RL 59 yX4_damp ∈ TG := tg 802 (by decide +kernel) (by decide +kernel)
theorem ml_L_60 : Cond.methodLink RL 60 yX3_undo ∈ TG := tg 441 (by decide +kernel) (by decide +kernel)
theorem ml_L_63 : Cond.methodLink RL 63 yX4_undo ∈ TG := tg 806 (by decide +kernel) (by decide +kernel)
theorem ml_L_64 : Cond.methodLink RL 64 yX3_lives ∈ TG := tg 449 (by decide +kernel) (by decide +kernel)
theorem ml_L_67 : Cond.methodLink RL 67 yX4_lives ∈ TG := tg 810 (by decide +kernel) (by decide +kernel)
theorem ml_L_68 : Cond.methodLink RL 68 yX3_comes ∈ TG := tg 453 (by decide +kernel) (by decide +kernel)
theorem ml_L_71 : Cond.methodLink RL 71 yX4_comes ∈ TG := tg 818 (by decide +kernel) (by decide +kernel)
theorem ml_L_72 : Cond.methodLink RL 72 yX3_fewest ∈ TG := tg 466 (by decide +kernel) (by decide +kernel)
theorem ml_L_75 : Cond.methodLink RL 75 yX4_fewest ∈ TG := tg 830 (by decide +kernel) (by decide +kernel)
theorem ml_L_76 : Cond.methodLink RL 76 yX3_block ∈ TG := tg 470 (by decide +kernel) (by decide +kernel)
theorem ml_L_79 : Cond.methodLink RL 79 yX4_block ∈ TG := tg 834 (by decide +kernel) (by decide +kernel)
theorem ml_L_82 : Cond.methodLink RL 82 yX3_judge ∈ TG := tg 478 (by decide +kernel) (by decide +kernel)
theorem ml_L_86 : Cond.methodLink RL 86 yX4_judge ∈ TG := tg 838 (by decide +kernel) (by decide +kernel)
theorem ml_L_87 : Cond.methodLink RL 87 yX3_see ∈ TG := tg 493 (by decide +kernel) (by decide +kernel)
theorem ml_L_91 : Cond.methodLink RL 91 yX4_see ∈ TG := tg 852 (by decide +kernel) (by decide +kernel)
theorem ml_L_92 : Cond.methodLink RL 92 yX3_unsee ∈ TG := tg 497 (by decide +kernel) (by decide +kernel)
theorem ml_L_95 : Cond.methodLink RL 95 yX4_unsee ∈ TG := tg 857 (by decide +kernel) (by decide +kernel)
theorem ml_L_96 : Cond.methodLink RL 96 yX3_bought ∈ TG := tg 501 (by decide +kernel) (by decide +kernel)
theorem ml_L_99 : Cond.methodLink RL 99 yX4_bought ∈ TG := tg 861 (by decide +kernel) (by decide +kernel)
theorem ml_L_100 : Cond.methodLink RL 100 yX3_share ∈ TG := tg 509 (by decide +kernel) (by decide +kernel)
theorem ml_L_104 : Cond.methodLink RL 104 yX4_share ∈ TG := tg 865 (by decide +kernel) (by decide +kernel)
theorem ml_L_105 : Cond.methodLink RL 105 yX3_rests ∈ TG := tg 526 (by decide +kernel) (by decide +kernel)
theorem ml_L_109 : Cond.methodLink RL 109 yX4_rests ∈ TG := tg 879 (by decide +kernel) (by decide +kernel)
theorem ml_L_110 : Cond.methodLink RL 110 yX3_born ∈ TG := tg 533 (by decide +kernel) (by decide +kernel)
theorem ml_L_114 : Cond.methodLink RL 114 yX4_born ∈ TG := tg 891 (by decide +kernel) (by decide +kernel)
theorem ml_L_115 : Cond.methodLink RL 115 yX3_seed ∈ TG := tg 548 (by decide +kernel) (by decide +kernel)
theorem ml_L_119 : Cond.methodLink RL 119 yX4_seed ∈ TG := tg 895 (by decide +kernel) (by decide +kernel)
theorem ml_L_120 : Cond.methodLink RL 120 yX3_years ∈ TG := tg 552 (by decide +kernel) (by decide +kernel)
theorem ml_L_123 : Cond.methodLink RL 123 yX4_years ∈ TG := tg 899 (by decide +kernel) (by decide +kernel)
theorem ml_L_124 : Cond.methodLink RL 124 yX3_keep ∈ TG := tg 563 (by decide +kernel) (by decide +kernel)
theorem ml_L_127 : Cond.methodLink RL 127 yX4_keep ∈ TG := tg 906 (by decide +kernel) (by decide +kernel)
theorem ml_L_128 : Cond.methodLink RL 128 yX3_again ∈ TG := tg 567 (by decide +kernel) (by decide +kernel)
theorem ml_L_131 : Cond.methodLink RL 131 yX4_again ∈ TG := tg 910 (by decide +kernel) (by decide +kernel)
theorem ml_L_132 : Cond.methodLink RL 132 yX3_count ∈ TG := tg 571 (by decide +kernel) (by decide +kernel)
theorem ml_L_135 : Cond.methodLink RL 135 yX4_count ∈ TG := tg 914 (by decide +kernel) (by decide +kernel)
theorem ml_X4_56 : Cond.methodLink RX4 56 yX4_in ∈ TG := tg 664 (by decide +kernel) (by decide +kernel)
theorem ml_X4_71 : Cond.methodLink RX4 71 yX4_has ∈ TG := tg 688 (by decide +kernel) (by decide +kernel)
theorem ml_X4_78 : Cond.methodLink RX4 78 yX4_left ∈ TG := tg 695 (by decide +kernel) (by decide +kernel)
theorem ml_X4_85 : Cond.methodLink RX4 85 yX4_readPart ∈ TG := tg 679 (by decide +kernel) (by decide +kernel)
theorem ml_X4_89 : Cond.methodLink RX4 89 yX4_figureOf ∈ TG := tg 683 (by decide +kernel) (by decide +kernel)
theorem ml_X4_92 : Cond.methodLink RX4 92 yX4_firstsLeft ∈ TG := tg 691 (by decide +kernel) (by decide +kernel)
theorem ml_X4_96 : Cond.methodLink RX4 96 yX4_readText ∈ TG := tg 675 (by decide +kernel) (by decide +kernel)
theorem ml_X4_105 : Cond.methodLink RX4 105 yX4_span ∈ TG := tg 711 (by decide +kernel) (by decide +kernel)
theorem ml_X4_109 : Cond.methodLink RX4 109 yX4_isAlive ∈ TG := tg 719 (by decide +kernel) (by decide +kernel)
theorem ml_X4_112 : Cond.methodLink RX4 112 yX4_rate ∈ TG := tg 715 (by decide +kernel) (by decide +kernel)
theorem ml_X4_115 : Cond.methodLink RX4 115 yX4_living ∈ TG := tg 751 (by decide +kernel) (by decide +kernel)
theorem ml_X4_118 : Cond.methodLink RX4 118 yX4_age ∈ TG := tg 755 (by decide +kernel) (by decide +kernel)
theorem ml_X4_122 : Cond.methodLink RX4 122 yX4_widows ∈ TG := tg 759 (by decide +kernel) (by decide +kernel)
theorem ml_X4_125 : Cond.methodLink RX4 125 yX4_onLetter ∈ TG := tg 731 (by decide +kernel) (by decide +kernel)
theorem ml_X4_128 : Cond.methodLink RX4 128 yX4_isStamp ∈ TG := tg 707 (by decide +kernel) (by decide +kernel)
theorem ml_X4_132 : Cond.methodLink RX4 132 yX4_isLetter ∈ TG := tg 727 (by decide +kernel) (by decide +kernel)
theorem ml_X4_135 : Cond.methodLink RX4 135 yX4_goodFor ∈ TG := tg 735 (by decide +kernel) (by decide +kernel)
theorem ml_X4_141 : Cond.methodLink RX4 141 yX4_keepAct ∈ TG := tg 743 (by decide +kernel) (by decide +kernel)
theorem ml_X4_144 : Cond.methodLink RX4 144 yX4_passOn ∈ TG := tg 747 (by decide +kernel) (by decide +kernel)
theorem ml_X4_147 : Cond.methodLink RX4 147 yX4_ones ∈ TG := tg 763 (by decide +kernel) (by decide +kernel)
theorem ml_X4_150 : Cond.methodLink RX4 150 yX4_isFree ∈ TG := tg 774 (by decide +kernel) (by decide +kernel)
theorem ml_X4_153 : Cond.methodLink RX4 153 yX4_canStick ∈ TG := tg 770 (by decide +kernel) (by decide +kernel)
theorem ml_X4_157 : Cond.methodLink RX4 157 yX4_stickOn ∈ TG := tg 778 (by decide +kernel) (by decide +kernel)
theorem ml_X4_160 : Cond.methodLink RX4 160 yX4_canSend ∈ TG := tg 786 (by decide +kernel) (by decide +kernel)
theorem ml_X4_163 : Cond.methodLink RX4 163 yX4_canPart ∈ TG := tg 794 (by decide +kernel) (by decide +kernel)
theorem ml_X4_166 : Cond.methodLink RX4 166 yX4_partOn ∈ TG := tg 798 (by decide +kernel) (by decide +kernel)
theorem ml_X4_169 : Cond.methodLink RX4 169 yX4_layTrial ∈ TG := tg 814 (by decide +kernel) (by decide +kernel)
theorem ml_X4_172 : Cond.methodLink RX4 172 yX4_freeOnes ∈ TG := tg 822 (by decide +kernel) (by decide +kernel)
theorem ml_X4_175 : Cond.methodLink RX4 175 yX4_ends ∈ TG := tg 826 (by decide +kernel) (by decide +kernel)
theorem ml_X4_182 : Cond.methodLink RX4 182 yX4_tenTo ∈ TG := tg 843 (by decide +kernel) (by decide +kernel)
theorem ml_X4_188 : Cond.methodLink RX4 188 yX4_tryThing ∈ TG := tg 848 (by decide +kernel) (by decide +kernel)
theorem ml_X4_196 : Cond.methodLink RX4 196 yX4_factorial ∈ TG := tg 869 (by decide +kernel) (by decide +kernel)
theorem ml_X4_199 : Cond.methodLink RX4 199 yX4_paidBy ∈ TG := tg 872 (by decide +kernel) (by decide +kernel)
theorem ml_X4_202 : Cond.methodLink RX4 202 yX4_common ∈ TG := tg 876 (by decide +kernel) (by decide +kernel)
theorem ml_X4_206 : Cond.methodLink RX4 206 yX4_gain ∈ TG := tg 887 (by decide +kernel) (by decide +kernel)
theorem ml_X4_210 : Cond.methodLink RX4 210 yX4_isRest ∈ TG := tg 883 (by decide +kernel) (by decide +kernel)
theorem ml_X4_224 : Cond.methodLink RX4 224 yX4_lettersThatAre ∈ TG := tg 918 (by decide +kernel) (by decide +kernel)
theorem kl_X3_182 : Cond.constantLong RX3 182 (1000) ∈ TG := tg 482 (by decide +kernel) (by decide +kernel)
theorem kl_X3_222 : Cond.constantLong RX3 222 (6364136223846793005) ∈ TG := tg 556 (by decide +kernel) (by decide +kernel)
theorem kl_X3_224 : Cond.constantLong RX3 224 (1442695040888963407) ∈ TG := tg 557 (by decide +kernel) (by decide +kernel)
theorem kl_X3_226 : Cond.constantLong RX3 226 (10) ∈ TG := tg 558 (by decide +kernel) (by decide +kernel)
theorem kl_L_80 : Cond.constantLong RL 80 (4294967295) ∈ TG := tg 922 (by decide +kernel) (by decide +kernel)
theorem kl_X4_54 : Cond.constantLong RX4 54 (255) ∈ TG := tg 663 (by decide +kernel) (by decide +kernel)
theorem kl_X4_69 : Cond.constantLong RX4 69 (9) ∈ TG := tg 687 (by decide +kernel) (by decide +kernel)
theorem kl_X4_178 : Cond.constantLong RX4 178 (10) ∈ TG := tg 846 (by decide +kernel) (by decide +kernel)
theorem kl_X4_180 : Cond.constantLong RX4 180 (4) ∈ TG := tg 842 (by decide +kernel) (by decide +kernel)
theorem kl_X4_186 : Cond.constantLong RX4 186 (1000) ∈ TG := tg 847 (by decide +kernel) (by decide +kernel)
theorem kl_X4_191 : Cond.constantLong RX4 191 (99) ∈ TG := tg 856 (by decide +kernel) (by decide +kernel)
theorem kl_X4_218 : Cond.constantLong RX4 218 (30) ∈ TG := tg 903 (by decide +kernel) (by decide +kernel)
theorem kl_X4_220 : Cond.constantLong RX4 220 (6364136223846793005) ∈ TG := tg 904 (by decide +kernel) (by decide +kernel)
theorem kl_X4_222 : Cond.constantLong RX4 222 (1442695040888963407) ∈ TG := tg 905 (by decide +kernel) (by decide +kernel)
theorem kl_J6_265 : Cond.constant RJ6 265 (1431655765) ∈ TG := tg 398 (by decide +kernel) (by decide +kernel)
theorem kl_J6_266 : Cond.constant RJ6 266 (858993459) ∈ TG := tg 399 (by decide +kernel) (by decide +kernel)
theorem kl_J6_267 : Cond.constant RJ6 267 (252645135) ∈ TG := tg 400 (by decide +kernel) (by decide +kernel)
abbrev mX0_holds : MD := (RX0, cX0_holds, 2, (some .boolean), 0, 0)
set_option maxRecDepth 20000 in
theorem fvX0_holds : FV yX0_holds mX0_holds 1 := ⟨by decide +kernel, tg 372 rfl rfl, tg 48 (by decide +kernel) (by decide +kernel), ⟨by decide +kernel, by decide +kernel⟩, by decide +kernel, rfl⟩
theorem fiX0_holds : FI yX0_holds := ⟨tg 371 (by decide +kernel) (by decide +kernel), tg 7 (by decide +kernel) (by decide +kernel)⟩
abbrev mX0_store : MD := (RX0, cX0_store, 4, none, 1, 60)
set_option maxRecDepth 20000 in
theorem fvX0_store : FV yX0_store mX0_store 2 := ⟨by decide +kernel, tg 368 rfl rfl, tg 48 (by decide +kernel) (by decide +kernel), ⟨by decide +kernel, by decide +kernel⟩, by decide +kernel, rfl⟩
theorem fiX0_store : FI yX0_store := ⟨tg 366 (by decide +kernel) (by decide +kernel), tg 367 (by decide +kernel) (by decide +kernel)⟩
abbrev mX0_load : MD := (RX0, cX0_load, 4, none, 1, 60)
set_option maxRecDepth 20000 in
theorem fvX0_load : FV yX0_load mX0_load 2 := ⟨by decide +kernel, tg 448 rfl rfl, tg 48 (by decide +kernel) (by decide +kernel), ⟨by decide +kernel, by decide +kernel⟩, by decide +kernel, rfl⟩
theorem fiX0_load : FI yX0_load := ⟨tg 446 (by decide +kernel) (by decide +kernel), tg 447 (by decide +kernel) (by decide +kernel)⟩
abbrev mX0_forgetFirst : MD := (RX0, cX0_forgetFirst, 1, none, 1, 60)
set_option maxRecDepth 20000 in
theorem fvX0_forgetFirst : FV yX0_forgetFirst mX0_forgetFirst 0 := ⟨by decide +kernel, tg 363 rfl rfl, tg 48 (by decide +kernel) (by decide +kernel), ⟨by decide +kernel, by decide +kernel⟩, by decide +kernel, rfl⟩
theorem fiX0_forgetFirst : FI yX0_forgetFirst := ⟨tg 361 (by decide +kernel) (by decide +kernel), tg 362 (by decide +kernel) (by decide +kernel)⟩
abbrev mX1_clear : MD := (RX1, cX1_clear, 1, none, 1, 23)
set_option maxRecDepth 20000 in
theorem fvX1_clear : FV yX1_clear mX1_clear 0 := ⟨by decide +kernel, tg 229 rfl rfl, tg 47 (by decide +kernel) (by decide +kernel), ⟨by decide +kernel, by decide +kernel⟩, by decide +kernel, rfl⟩
theorem fiX1_clear : FI yX1_clear := ⟨tg 227 (by decide +kernel) (by decide +kernel), tg 228 (by decide +kernel) (by decide +kernel)⟩
abbrev mX1_copyFrom : MD := (RX1, cX1_copyFrom, 2, none, 1, 60)
set_option maxRecDepth 20000 in
theorem fvX1_copyFrom : FV yX1_copyFrom mX1_copyFrom 1 := ⟨by decide +kernel, tg 309 rfl rfl, tg 47 (by decide +kernel) (by decide +kernel), ⟨by decide +kernel, by decide +kernel⟩, by decide +kernel, rfl⟩
theorem fiX1_copyFrom : FI yX1_copyFrom := ⟨tg 307 (by decide +kernel) (by decide +kernel), tg 308 (by decide +kernel) (by decide +kernel)⟩
abbrev mX1_hasStamp : MD := (RX1, cX1_hasStamp, 2, (some .boolean), 0, 0)
set_option maxRecDepth 20000 in
theorem fvX1_hasStamp : FV yX1_hasStamp mX1_hasStamp 1 := ⟨by decide +kernel, tg 256 rfl rfl, tg 47 (by decide +kernel) (by decide +kernel), ⟨by decide +kernel, by decide +kernel⟩, by decide +kernel, rfl⟩
theorem fiX1_hasStamp : FI yX1_hasStamp := ⟨tg 254 (by decide +kernel) (by decide +kernel), tg 255 (by decide +kernel) (by decide +kernel)⟩
abbrev mX1_hasLetter : MD := (RX1, cX1_hasLetter, 2, (some .boolean), 0, 0)
set_option maxRecDepth 20000 in
theorem fvX1_hasLetter : FV yX1_hasLetter mX1_hasLetter 1 := ⟨by decide +kernel, tg 341 rfl rfl, tg 47 (by decide +kernel) (by decide +kernel), ⟨by decide +kernel, by decide +kernel⟩, by decide +kernel, rfl⟩
theorem fiX1_hasLetter : FI yX1_hasLetter := ⟨tg 339 (by decide +kernel) (by decide +kernel), tg 340 (by decide +kernel) (by decide +kernel)⟩
abbrev mX1_allBits : MD := (RX1, cX1_allBits, 1, (some .int), 0, 0)
set_option maxRecDepth 20000 in
theorem fvX1_allBits : FV yX1_allBits mX1_allBits 0 := ⟨by decide +kernel, tg 260 rfl rfl, tg 47 (by decide +kernel) (by decide +kernel), ⟨by decide +kernel, by decide +kernel⟩, by decide +kernel, rfl⟩
theorem fiX1_allBits : FI yX1_allBits := ⟨tg 258 (by decide +kernel) (by decide +kernel), tg 259 (by decide +kernel) (by decide +kernel)⟩
abbrev mX1_addStamp : MD := (RX1, cX1_addStamp, 4, none, 0, 0)
set_option maxRecDepth 20000 in
theorem fvX1_addStamp : FV yX1_addStamp mX1_addStamp 3 := ⟨by decide +kernel, tg 272 rfl rfl, tg 47 (by decide +kernel) (by decide +kernel), ⟨by decide +kernel, by decide +kernel⟩, by decide +kernel, rfl⟩
theorem fiX1_addStamp : FI yX1_addStamp := ⟨tg 270 (by decide +kernel) (by decide +kernel), tg 271 (by decide +kernel) (by decide +kernel)⟩
abbrev mX1_addLetter : MD := (RX1, cX1_addLetter, 3, none, 0, 0)
set_option maxRecDepth 20000 in
theorem fvX1_addLetter : FV yX1_addLetter mX1_addLetter 2 := ⟨by decide +kernel, tg 297 rfl rfl, tg 47 (by decide +kernel) (by decide +kernel), ⟨by decide +kernel, by decide +kernel⟩, by decide +kernel, rfl⟩
theorem fiX1_addLetter : FI yX1_addLetter := ⟨tg 295 (by decide +kernel) (by decide +kernel), tg 296 (by decide +kernel) (by decide +kernel)⟩
abbrev mX1_joinTwo : MD := (RX1, cX1_joinTwo, 3, none, 0, 0)
set_option maxRecDepth 20000 in
theorem fvX1_joinTwo : FV yX1_joinTwo mX1_joinTwo 2 := ⟨by decide +kernel, tg 289 rfl rfl, tg 47 (by decide +kernel) (by decide +kernel), ⟨by decide +kernel, by decide +kernel⟩, by decide +kernel, rfl⟩
theorem fiX1_joinTwo : FI yX1_joinTwo := ⟨tg 287 (by decide +kernel) (by decide +kernel), tg 288 (by decide +kernel) (by decide +kernel)⟩
abbrev mX1_areJoined : MD := (RX1, cX1_areJoined, 3, (some .boolean), 1, 21)
set_option maxRecDepth 20000 in
theorem fvX1_areJoined : FV yX1_areJoined mX1_areJoined 2 := ⟨by decide +kernel, tg 285 rfl rfl, tg 47 (by decide +kernel) (by decide +kernel), ⟨by decide +kernel, by decide +kernel⟩, by decide +kernel, rfl⟩
theorem fiX1_areJoined : FI yX1_areJoined := ⟨tg 283 (by decide +kernel) (by decide +kernel), tg 284 (by decide +kernel) (by decide +kernel)⟩
abbrev mX1_canJoin : MD := (RX1, cX1_canJoin, 3, (some .boolean), 2, 43)
set_option maxRecDepth 20000 in
theorem fvX1_canJoin : FV yX1_canJoin mX1_canJoin 2 := ⟨by decide +kernel, tg 281 rfl rfl, tg 47 (by decide +kernel) (by decide +kernel), ⟨by decide +kernel, by decide +kernel⟩, by decide +kernel, rfl⟩
theorem fiX1_canJoin : FI yX1_canJoin := ⟨tg 279 (by decide +kernel) (by decide +kernel), tg 280 (by decide +kernel) (by decide +kernel)⟩
abbrev mX1_canJoinSome : MD := (RX1, cX1_canJoinSome, 2, (some .boolean), 1, 21)
set_option maxRecDepth 20000 in
theorem fvX1_canJoinSome : FV yX1_canJoinSome mX1_canJoinSome 1 := ⟨by decide +kernel, tg 252 rfl rfl, tg 47 (by decide +kernel) (by decide +kernel), ⟨by decide +kernel, by decide +kernel⟩, by decide +kernel, rfl⟩
theorem fiX1_canJoinSome : FI yX1_canJoinSome := ⟨tg 250 (by decide +kernel) (by decide +kernel), tg 251 (by decide +kernel) (by decide +kernel)⟩
abbrev mX1_canJoinAny : MD := (RX1, cX1_canJoinAny, 2, (some .boolean), 2, 42)
set_option maxRecDepth 20000 in
theorem fvX1_canJoinAny : FV yX1_canJoinAny mX1_canJoinAny 0 := ⟨by decide +kernel, tg 248 rfl rfl, tg 47 (by decide +kernel) (by decide +kernel), ⟨by decide +kernel, by decide +kernel⟩, by decide +kernel, rfl⟩
theorem fiX1_canJoinAny : FI yX1_canJoinAny := ⟨tg 246 (by decide +kernel) (by decide +kernel), tg 247 (by decide +kernel) (by decide +kernel)⟩
abbrev mX1_joinedToAny : MD := (RX1, cX1_joinedToAny, 4, (some .int), 0, 0)
set_option maxRecDepth 20000 in
theorem fvX1_joinedToAny : FV yX1_joinedToAny mX1_joinedToAny 1 := ⟨by decide +kernel, tg 477 rfl rfl, tg 47 (by decide +kernel) (by decide +kernel), ⟨by decide +kernel, by decide +kernel⟩, by decide +kernel, rfl⟩
theorem fiX1_joinedToAny : FI yX1_joinedToAny := ⟨tg 475 (by decide +kernel) (by decide +kernel), tg 476 (by decide +kernel) (by decide +kernel)⟩
abbrev mX1_span : MD := (RX1, cX1_span, 3, (some .int), 0, 0)
set_option maxRecDepth 20000 in
theorem fvX1_span : FV yX1_span mX1_span 1 := ⟨by decide +kernel, tg 321 rfl rfl, tg 47 (by decide +kernel) (by decide +kernel), ⟨by decide +kernel, by decide +kernel⟩, by decide +kernel, rfl⟩
theorem fiX1_span : FI yX1_span := ⟨tg 319 (by decide +kernel) (by decide +kernel), tg 320 (by decide +kernel) (by decide +kernel)⟩
abbrev mX1_isAlive : MD := (RX1, cX1_isAlive, 2, (some .boolean), 1, 22)
set_option maxRecDepth 20000 in
theorem fvX1_isAlive : FV yX1_isAlive mX1_isAlive 1 := ⟨by decide +kernel, tg 332 rfl rfl, tg 47 (by decide +kernel) (by decide +kernel), ⟨by decide +kernel, by decide +kernel⟩, by decide +kernel, rfl⟩
theorem fiX1_isAlive : FI yX1_isAlive := ⟨tg 330 (by decide +kernel) (by decide +kernel), tg 331 (by decide +kernel) (by decide +kernel)⟩
abbrev mX1_rate : MD := (RX1, cX1_rate, 2, (some .int), 1, 30)
set_option maxRecDepth 20000 in
theorem fvX1_rate : FV yX1_rate mX1_rate 1 := ⟨by decide +kernel, tg 325 rfl rfl, tg 47 (by decide +kernel) (by decide +kernel), ⟨by decide +kernel, by decide +kernel⟩, by decide +kernel, rfl⟩
theorem fiX1_rate : FI yX1_rate := ⟨tg 323 (by decide +kernel) (by decide +kernel), tg 324 (by decide +kernel) (by decide +kernel)⟩
abbrev mX1_aliveBits : MD := (RX1, cX1_aliveBits, 3, (some .int), 2, 43)
set_option maxRecDepth 20000 in
theorem fvX1_aliveBits : FV yX1_aliveBits mX1_aliveBits 0 := ⟨by decide +kernel, tg 380 rfl rfl, tg 47 (by decide +kernel) (by decide +kernel), ⟨by decide +kernel, by decide +kernel⟩, by decide +kernel, rfl⟩
theorem fiX1_aliveBits : FI yX1_aliveBits := ⟨tg 378 (by decide +kernel) (by decide +kernel), tg 379 (by decide +kernel) (by decide +kernel)⟩
abbrev mX1_widowBits : MD := (RX1, cX1_widowBits, 5, (some .int), 3, 65)
set_option maxRecDepth 20000 in
theorem fvX1_widowBits : FV yX1_widowBits mX1_widowBits 0 := ⟨by decide +kernel, tg 388 rfl rfl, tg 47 (by decide +kernel) (by decide +kernel), ⟨by decide +kernel, by decide +kernel⟩, by decide +kernel, rfl⟩
theorem fiX1_widowBits : FI yX1_widowBits := ⟨tg 386 (by decide +kernel) (by decide +kernel), tg 387 (by decide +kernel) (by decide +kernel)⟩
abbrev mX1_freeBits : MD := (RX1, cX1_freeBits, 3, (some .int), 2, 43)
set_option maxRecDepth 20000 in
theorem fvX1_freeBits : FV yX1_freeBits mX1_freeBits 0 := ⟨by decide +kernel, tg 461 rfl rfl, tg 47 (by decide +kernel) (by decide +kernel), ⟨by decide +kernel, by decide +kernel⟩, by decide +kernel, rfl⟩
theorem fiX1_freeBits : FI yX1_freeBits := ⟨tg 459 (by decide +kernel) (by decide +kernel), tg 460 (by decide +kernel) (by decide +kernel)⟩
abbrev mX1_stuckBits : MD := (RX1, cX1_stuckBits, 4, (some .int), 0, 0)
set_option maxRecDepth 20000 in
theorem fvX1_stuckBits : FV yX1_stuckBits mX1_stuckBits 1 := ⟨by decide +kernel, tg 345 rfl rfl, tg 47 (by decide +kernel) (by decide +kernel), ⟨by decide +kernel, by decide +kernel⟩, by decide +kernel, rfl⟩
theorem fiX1_stuckBits : FI yX1_stuckBits := ⟨tg 343 (by decide +kernel) (by decide +kernel), tg 344 (by decide +kernel) (by decide +kernel)⟩
abbrev mX1_fateBits : MD := (RX1, cX1_fateBits, 4, (some .int), 0, 0)
set_option maxRecDepth 20000 in
theorem fvX1_fateBits : FV yX1_fateBits mX1_fateBits 1 := ⟨by decide +kernel, tg 579 rfl rfl, tg 47 (by decide +kernel) (by decide +kernel), ⟨by decide +kernel, by decide +kernel⟩, by decide +kernel, rfl⟩
theorem fiX1_fateBits : FI yX1_fateBits := ⟨tg 577 (by decide +kernel) (by decide +kernel), tg 578 (by decide +kernel) (by decide +kernel)⟩
abbrev mX1_goodFor : MD := (RX1, cX1_goodFor, 4, (some .int), 2, 51)
set_option maxRecDepth 20000 in
theorem fvX1_goodFor : FV yX1_goodFor mX1_goodFor 1 := ⟨by decide +kernel, tg 349 rfl rfl, tg 47 (by decide +kernel) (by decide +kernel), ⟨by decide +kernel, by decide +kernel⟩, by decide +kernel, rfl⟩
theorem fiX1_goodFor : FI yX1_goodFor := ⟨tg 347 (by decide +kernel) (by decide +kernel), tg 348 (by decide +kernel) (by decide +kernel)⟩
abbrev mX1_affordable : MD := (RX1, cX1_affordable, 5, (some .int), 3, 74)
set_option maxRecDepth 20000 in
theorem fvX1_affordable : FV yX1_affordable mX1_affordable 1 := ⟨by decide +kernel, tg 519 rfl rfl, tg 47 (by decide +kernel) (by decide +kernel), ⟨by decide +kernel, by decide +kernel⟩, by decide +kernel, rfl⟩
theorem fiX1_affordable : FI yX1_affordable := ⟨tg 517 (by decide +kernel) (by decide +kernel), tg 518 (by decide +kernel) (by decide +kernel)⟩
abbrev mX1_livingPairs : MD := (RX1, cX1_livingPairs, 4, (some .int), 3, 65)
set_option maxRecDepth 20000 in
theorem fvX1_livingPairs : FV yX1_livingPairs mX1_livingPairs 0 := ⟨by decide +kernel, tg 540 rfl rfl, tg 47 (by decide +kernel) (by decide +kernel), ⟨by decide +kernel, by decide +kernel⟩, by decide +kernel, rfl⟩
theorem fiX1_livingPairs : FI yX1_livingPairs := ⟨tg 538 (by decide +kernel) (by decide +kernel), tg 539 (by decide +kernel) (by decide +kernel)⟩
abbrev mX1_canStick : MD := (RX1, cX1_canStick, 3, (some .boolean), 2, 43)
set_option maxRecDepth 20000 in
theorem fvX1_canStick : FV yX1_canStick mX1_canStick 2 := ⟨by decide +kernel, tg 408 rfl rfl, tg 47 (by decide +kernel) (by decide +kernel), ⟨by decide +kernel, by decide +kernel⟩, by decide +kernel, rfl⟩
theorem fiX1_canStick : FI yX1_canStick := ⟨tg 406 (by decide +kernel) (by decide +kernel), tg 407 (by decide +kernel) (by decide +kernel)⟩
abbrev mX1_stickOn : MD := (RX1, cX1_stickOn, 3, none, 1, 30)
set_option maxRecDepth 20000 in
theorem fvX1_stickOn : FV yX1_stickOn mX1_stickOn 2 := ⟨by decide +kernel, tg 413 rfl rfl, tg 47 (by decide +kernel) (by decide +kernel), ⟨by decide +kernel, by decide +kernel⟩, by decide +kernel, rfl⟩
theorem fiX1_stickOn : FI yX1_stickOn := ⟨tg 411 (by decide +kernel) (by decide +kernel), tg 412 (by decide +kernel) (by decide +kernel)⟩
abbrev mX1_canSend : MD := (RX1, cX1_canSend, 2, (some .boolean), 3, 74)
set_option maxRecDepth 20000 in
theorem fvX1_canSend : FV yX1_canSend mX1_canSend 1 := ⟨by decide +kernel, tg 422 rfl rfl, tg 47 (by decide +kernel) (by decide +kernel), ⟨by decide +kernel, by decide +kernel⟩, by decide +kernel, rfl⟩
theorem fiX1_canSend : FI yX1_canSend := ⟨tg 420 (by decide +kernel) (by decide +kernel), tg 421 (by decide +kernel) (by decide +kernel)⟩
abbrev mX1_sendOff : MD := (RX1, cX1_sendOff, 2, none, 0, 0)
set_option maxRecDepth 20000 in
theorem fvX1_sendOff : FV yX1_sendOff mX1_sendOff 1 := ⟨by decide +kernel, tg 427 rfl rfl, tg 47 (by decide +kernel) (by decide +kernel), ⟨by decide +kernel, by decide +kernel⟩, by decide +kernel, rfl⟩
theorem fiX1_sendOff : FI yX1_sendOff := ⟨tg 425 (by decide +kernel) (by decide +kernel), tg 426 (by decide +kernel) (by decide +kernel)⟩
abbrev mX1_partTwo : MD := (RX1, cX1_partTwo, 3, none, 1, 23)
set_option maxRecDepth 20000 in
theorem fvX1_partTwo : FV yX1_partTwo mX1_partTwo 2 := ⟨by decide +kernel, tg 436 rfl rfl, tg 47 (by decide +kernel) (by decide +kernel), ⟨by decide +kernel, by decide +kernel⟩, by decide +kernel, rfl⟩
theorem fiX1_partTwo : FI yX1_partTwo := ⟨tg 434 (by decide +kernel) (by decide +kernel), tg 435 (by decide +kernel) (by decide +kernel)⟩
abbrev mX1_passWeek : MD := (RX1, cX1_passWeek, 2, none, 4, 89)
set_option maxRecDepth 20000 in
theorem fvX1_passWeek : FV yX1_passWeek mX1_passWeek 0 := ⟨by decide +kernel, tg 376 rfl rfl, tg 47 (by decide +kernel) (by decide +kernel), ⟨by decide +kernel, by decide +kernel⟩, by decide +kernel, rfl⟩
theorem fiX1_passWeek : FI yX1_passWeek := ⟨tg 374 (by decide +kernel) (by decide +kernel), tg 375 (by decide +kernel) (by decide +kernel)⟩
abbrev mX1_growOlder : MD := (RX1, cX1_growOlder, 4, none, 0, 0)
set_option maxRecDepth 20000 in
theorem fvX1_growOlder : FV yX1_growOlder mX1_growOlder 2 := ⟨by decide +kernel, tg 384 rfl rfl, tg 47 (by decide +kernel) (by decide +kernel), ⟨by decide +kernel, by decide +kernel⟩, by decide +kernel, rfl⟩
theorem fiX1_growOlder : FI yX1_growOlder := ⟨tg 383 (by decide +kernel) (by decide +kernel), tg 8 (by decide +kernel) (by decide +kernel)⟩
abbrev mX1_carry : MD := (RX1, cX1_carry, 2, none, 3, 65)
set_option maxRecDepth 20000 in
theorem fvX1_carry : FV yX1_carry mX1_carry 1 := ⟨by decide +kernel, tg 392 rfl rfl, tg 47 (by decide +kernel) (by decide +kernel), ⟨by decide +kernel, by decide +kernel⟩, by decide +kernel, rfl⟩
theorem fiX1_carry : FI yX1_carry := ⟨tg 391 (by decide +kernel) (by decide +kernel), tg 9 (by decide +kernel) (by decide +kernel)⟩
abbrev mX1_does : MD := (RX1, cX1_does, 5, (some .boolean), 5, 110)
set_option maxRecDepth 20000 in
theorem fvX1_does : FV yX1_does mX1_does 1 := ⟨by decide +kernel, tg 486 rfl rfl, tg 47 (by decide +kernel) (by decide +kernel), ⟨by decide +kernel, by decide +kernel⟩, by decide +kernel, rfl⟩
theorem fiX1_does : FI yX1_does := ⟨tg 484 (by decide +kernel) (by decide +kernel), tg 485 (by decide +kernel) (by decide +kernel)⟩
abbrev mX2_begin : MD := (RX2, cX2_begin, 1, none, 0, 0)
set_option maxRecDepth 20000 in
theorem fvX2_begin : FV yX2_begin mX2_begin 0 := ⟨by decide +kernel, tg 236 rfl rfl, tg 46 (by decide +kernel) (by decide +kernel), ⟨by decide +kernel, by decide +kernel⟩, by decide +kernel, rfl⟩
theorem fiX2_begin : FI yX2_begin := ⟨tg 234 (by decide +kernel) (by decide +kernel), tg 235 (by decide +kernel) (by decide +kernel)⟩
abbrev mX2_mayEnd : MD := (RX2, cX2_mayEnd, 1, (some .boolean), 0, 0)
set_option maxRecDepth 20000 in
theorem fvX2_mayEnd : FV yX2_mayEnd mX2_mayEnd 0 := ⟨by decide +kernel, tg 301 rfl rfl, tg 46 (by decide +kernel) (by decide +kernel), ⟨by decide +kernel, by decide +kernel⟩, by decide +kernel, rfl⟩
theorem fiX2_mayEnd : FI yX2_mayEnd := ⟨tg 299 (by decide +kernel) (by decide +kernel), tg 300 (by decide +kernel) (by decide +kernel)⟩
abbrev mX2_takes : MD := (RX2, cX2_takes, 4, (some .boolean), 4, 87)
set_option maxRecDepth 20000 in
theorem fvX2_takes : FV yX2_takes mX2_takes 2 := ⟨by decide +kernel, tg 240 rfl rfl, tg 46 (by decide +kernel) (by decide +kernel), ⟨by decide +kernel, by decide +kernel⟩, by decide +kernel, rfl⟩
theorem fiX2_takes : FI yX2_takes := ⟨tg 238 (by decide +kernel) (by decide +kernel), tg 239 (by decide +kernel) (by decide +kernel)⟩
abbrev mX2_opens : MD := (RX2, cX2_opens, 4, (some .boolean), 3, 63)
set_option maxRecDepth 20000 in
theorem fvX2_opens : FV yX2_opens mX2_opens 2 := ⟨by decide +kernel, tg 244 rfl rfl, tg 46 (by decide +kernel) (by decide +kernel), ⟨by decide +kernel, by decide +kernel⟩, by decide +kernel, rfl⟩
theorem fiX2_opens : FI yX2_opens := ⟨tg 243 (by decide +kernel) (by decide +kernel), tg 1 (by decide +kernel) (by decide +kernel)⟩
abbrev mX2_takesOfStamp : MD := (RX2, cX2_takesOfStamp, 3, (some .boolean), 1, 23)
set_option maxRecDepth 20000 in
theorem fvX2_takesOfStamp : FV yX2_takesOfStamp mX2_takesOfStamp 2 := ⟨by decide +kernel, tg 264 rfl rfl, tg 46 (by decide +kernel) (by decide +kernel), ⟨by decide +kernel, by decide +kernel⟩, by decide +kernel, rfl⟩
theorem fiX2_takesOfStamp : FI yX2_takesOfStamp := ⟨tg 263 (by decide +kernel) (by decide +kernel), tg 2 (by decide +kernel) (by decide +kernel)⟩
abbrev mX2_takesOfJoin : MD := (RX2, cX2_takesOfJoin, 3, (some .boolean), 3, 65)
set_option maxRecDepth 20000 in
theorem fvX2_takesOfJoin : FV yX2_takesOfJoin mX2_takesOfJoin 2 := ⟨by decide +kernel, tg 276 rfl rfl, tg 46 (by decide +kernel) (by decide +kernel), ⟨by decide +kernel, by decide +kernel⟩, by decide +kernel, rfl⟩
theorem fiX2_takesOfJoin : FI yX2_takesOfJoin := ⟨tg 275 (by decide +kernel) (by decide +kernel), tg 4 (by decide +kernel) (by decide +kernel)⟩
abbrev mX2_takesOfLetter : MD := (RX2, cX2_takesOfLetter, 3, (some .boolean), 1, 22)
set_option maxRecDepth 20000 in
theorem fvX2_takesOfLetter : FV yX2_takesOfLetter mX2_takesOfLetter 2 := ⟨by decide +kernel, tg 293 rfl rfl, tg 46 (by decide +kernel) (by decide +kernel), ⟨by decide +kernel, by decide +kernel⟩, by decide +kernel, rfl⟩
theorem fiX2_takesOfLetter : FI yX2_takesOfLetter := ⟨tg 292 (by decide +kernel) (by decide +kernel), tg 5 (by decide +kernel) (by decide +kernel)⟩
abbrev mX2_hold : MD := (RX2, cX2_hold, 2, none, 0, 0)
set_option maxRecDepth 20000 in
theorem fvX2_hold : FV yX2_hold mX2_hold 1 := ⟨by decide +kernel, tg 268 rfl rfl, tg 46 (by decide +kernel) (by decide +kernel), ⟨by decide +kernel, by decide +kernel⟩, by decide +kernel, rfl⟩
theorem fiX2_hold : FI yX2_hold := ⟨tg 267 (by decide +kernel) (by decide +kernel), tg 3 (by decide +kernel) (by decide +kernel)⟩
abbrev mX3_write : MD := (RX3, cX3_write, 2, (some .int), 0, 0)
set_option maxRecDepth 20000 in
theorem fvX3_write : FV yX3_write mX3_write 1 := ⟨by decide +kernel, tg 213 rfl rfl, tg 45 (by decide +kernel) (by decide +kernel), ⟨by decide +kernel, by decide +kernel⟩, by decide +kernel, rfl⟩
theorem fiX3_write : FI yX3_write := ⟨tg 211 (by decide +kernel) (by decide +kernel), tg 212 (by decide +kernel) (by decide +kernel)⟩
abbrev mX3_wipe : MD := (RX3, cX3_wipe, 2, (some .int), 0, 0)
set_option maxRecDepth 20000 in
theorem fvX3_wipe : FV yX3_wipe mX3_wipe 0 := ⟨by decide +kernel, tg 217 rfl rfl, tg 45 (by decide +kernel) (by decide +kernel), ⟨by decide +kernel, by decide +kernel⟩, by decide +kernel, rfl⟩
theorem fiX3_wipe : FI yX3_wipe := ⟨tg 215 (by decide +kernel) (by decide +kernel), tg 216 (by decide +kernel) (by decide +kernel)⟩
abbrev mX3_fault : MD := (RX3, cX3_fault, 1, (some .int), 6, 132)
set_option maxRecDepth 20000 in
theorem fvX3_fault : FV yX3_fault mX3_fault 0 := ⟨by decide +kernel, tg 221 rfl rfl, tg 45 (by decide +kernel) (by decide +kernel), ⟨by decide +kernel, by decide +kernel⟩, by decide +kernel, rfl⟩
theorem fiX3_fault : FI yX3_fault := ⟨tg 219 (by decide +kernel) (by decide +kernel), tg 220 (by decide +kernel) (by decide +kernel)⟩
abbrev mX3_album : MD := (RX3, cX3_album, 2, (some .int), 6, 132)
set_option maxRecDepth 20000 in
theorem fvX3_album : FV yX3_album mX3_album 0 := ⟨by decide +kernel, tg 305 rfl rfl, tg 45 (by decide +kernel) (by decide +kernel), ⟨by decide +kernel, by decide +kernel⟩, by decide +kernel, rfl⟩
theorem fiX3_album : FI yX3_album := ⟨tg 303 (by decide +kernel) (by decide +kernel), tg 304 (by decide +kernel) (by decide +kernel)⟩
abbrev mX3_stamp : MD := (RX3, cX3_stamp, 3, (some .int), 2, 51)
set_option maxRecDepth 20000 in
theorem fvX3_stamp : FV yX3_stamp mX3_stamp 2 := ⟨by decide +kernel, tg 316 rfl rfl, tg 45 (by decide +kernel) (by decide +kernel), ⟨by decide +kernel, by decide +kernel⟩, by decide +kernel, rfl⟩
theorem fiX3_stamp : FI yX3_stamp := ⟨tg 314 (by decide +kernel) (by decide +kernel), tg 315 (by decide +kernel) (by decide +kernel)⟩
abbrev mX3_letter : MD := (RX3, cX3_letter, 3, (some .int), 3, 74)
set_option maxRecDepth 20000 in
theorem fvX3_letter : FV yX3_letter mX3_letter 2 := ⟨by decide +kernel, tg 337 rfl rfl, tg 45 (by decide +kernel) (by decide +kernel), ⟨by decide +kernel, by decide +kernel⟩, by decide +kernel, rfl⟩
theorem fiX3_letter : FI yX3_letter := ⟨tg 335 (by decide +kernel) (by decide +kernel), tg 336 (by decide +kernel) (by decide +kernel)⟩
abbrev mX3_week : MD := (RX3, cX3_week, 1, (some .int), 5, 110)
set_option maxRecDepth 20000 in
theorem fvX3_week : FV yX3_week mX3_week 0 := ⟨by decide +kernel, tg 355 rfl rfl, tg 45 (by decide +kernel) (by decide +kernel), ⟨by decide +kernel, by decide +kernel⟩, by decide +kernel, rfl⟩
theorem fiX3_week : FI yX3_week := ⟨tg 353 (by decide +kernel) (by decide +kernel), tg 354 (by decide +kernel) (by decide +kernel)⟩
abbrev mX3_stick : MD := (RX3, cX3_stick, 3, (some .int), 3, 103)
set_option maxRecDepth 20000 in
theorem fvX3_stick : FV yX3_stick mX3_stick 2 := ⟨by decide +kernel, tg 404 rfl rfl, tg 45 (by decide +kernel) (by decide +kernel), ⟨by decide +kernel, by decide +kernel⟩, by decide +kernel, rfl⟩
theorem fiX3_stick : FI yX3_stick := ⟨tg 402 (by decide +kernel) (by decide +kernel), tg 403 (by decide +kernel) (by decide +kernel)⟩
abbrev mX3_send : MD := (RX3, cX3_send, 2, (some .int), 4, 103)
set_option maxRecDepth 20000 in
theorem fvX3_send : FV yX3_send mX3_send 1 := ⟨by decide +kernel, tg 418 rfl rfl, tg 45 (by decide +kernel) (by decide +kernel), ⟨by decide +kernel, by decide +kernel⟩, by decide +kernel, rfl⟩
theorem fiX3_send : FI yX3_send := ⟨tg 416 (by decide +kernel) (by decide +kernel), tg 417 (by decide +kernel) (by decide +kernel)⟩
abbrev mX3_part : MD := (RX3, cX3_part, 3, (some .int), 3, 103)
set_option maxRecDepth 20000 in
theorem fvX3_part : FV yX3_part mX3_part 2 := ⟨by decide +kernel, tg 431 rfl rfl, tg 45 (by decide +kernel) (by decide +kernel), ⟨by decide +kernel, by decide +kernel⟩, by decide +kernel, rfl⟩
theorem fiX3_part : FI yX3_part := ⟨tg 429 (by decide +kernel) (by decide +kernel), tg 430 (by decide +kernel) (by decide +kernel)⟩
abbrev mX3_damp : MD := (RX3, cX3_damp, 1, (some .int), 3, 103)
set_option maxRecDepth 20000 in
theorem fvX3_damp : FV yX3_damp mX3_damp 0 := ⟨by decide +kernel, tg 440 rfl rfl, tg 45 (by decide +kernel) (by decide +kernel), ⟨by decide +kernel, by decide +kernel⟩, by decide +kernel, rfl⟩
theorem fiX3_damp : FI yX3_damp := ⟨tg 438 (by decide +kernel) (by decide +kernel), tg 439 (by decide +kernel) (by decide +kernel)⟩
abbrev mX3_undo : MD := (RX3, cX3_undo, 1, (some .int), 2, 83)
set_option maxRecDepth 20000 in
theorem fvX3_undo : FV yX3_undo mX3_undo 0 := ⟨by decide +kernel, tg 444 rfl rfl, tg 45 (by decide +kernel) (by decide +kernel), ⟨by decide +kernel, by decide +kernel⟩, by decide +kernel, rfl⟩
theorem fiX3_undo : FI yX3_undo := ⟨tg 442 (by decide +kernel) (by decide +kernel), tg 443 (by decide +kernel) (by decide +kernel)⟩
abbrev mX3_lives : MD := (RX3, cX3_lives, 3, (some .int), 5, 110)
set_option maxRecDepth 20000 in
theorem fvX3_lives : FV yX3_lives mX3_lives 1 := ⟨by decide +kernel, tg 452 rfl rfl, tg 45 (by decide +kernel) (by decide +kernel), ⟨by decide +kernel, by decide +kernel⟩, by decide +kernel, rfl⟩
theorem fiX3_lives : FI yX3_lives := ⟨tg 450 (by decide +kernel) (by decide +kernel), tg 451 (by decide +kernel) (by decide +kernel)⟩
abbrev mX3_comes : MD := (RX3, cX3_comes, 3, (some .int), 6, 134)
set_option maxRecDepth 20000 in
theorem fvX3_comes : FV yX3_comes mX3_comes 2 := ⟨by decide +kernel, tg 456 rfl rfl, tg 45 (by decide +kernel) (by decide +kernel), ⟨by decide +kernel, by decide +kernel⟩, by decide +kernel, rfl⟩
theorem fiX3_comes : FI yX3_comes := ⟨tg 454 (by decide +kernel) (by decide +kernel), tg 455 (by decide +kernel) (by decide +kernel)⟩
abbrev mX3_fewest : MD := (RX3, cX3_fewest, 6, (some .int), 6, 134)
set_option maxRecDepth 20000 in
theorem fvX3_fewest : FV yX3_fewest mX3_fewest 1 := ⟨by decide +kernel, tg 469 rfl rfl, tg 45 (by decide +kernel) (by decide +kernel), ⟨by decide +kernel, by decide +kernel⟩, by decide +kernel, rfl⟩
theorem fiX3_fewest : FI yX3_fewest := ⟨tg 467 (by decide +kernel) (by decide +kernel), tg 468 (by decide +kernel) (by decide +kernel)⟩
abbrev mX3_block : MD := (RX3, cX3_block, 4, (some .int), 1, 23)
set_option maxRecDepth 20000 in
theorem fvX3_block : FV yX3_block mX3_block 1 := ⟨by decide +kernel, tg 473 rfl rfl, tg 45 (by decide +kernel) (by decide +kernel), ⟨by decide +kernel, by decide +kernel⟩, by decide +kernel, rfl⟩
theorem fiX3_block : FI yX3_block := ⟨tg 471 (by decide +kernel) (by decide +kernel), tg 472 (by decide +kernel) (by decide +kernel)⟩
abbrev mX3_judge : MD := (RX3, cX3_judge, 7, (some .int), 6, 134)
set_option maxRecDepth 20000 in
theorem fvX3_judge : FV yX3_judge mX3_judge 2 := ⟨by decide +kernel, tg 481 rfl rfl, tg 45 (by decide +kernel) (by decide +kernel), ⟨by decide +kernel, by decide +kernel⟩, by decide +kernel, rfl⟩
theorem fiX3_judge : FI yX3_judge := ⟨tg 479 (by decide +kernel) (by decide +kernel), tg 480 (by decide +kernel) (by decide +kernel)⟩
abbrev mX3_see : MD := (RX3, cX3_see, 4, (some .int), 1, 21)
set_option maxRecDepth 20000 in
theorem fvX3_see : FV yX3_see mX3_see 3 := ⟨by decide +kernel, tg 496 rfl rfl, tg 45 (by decide +kernel) (by decide +kernel), ⟨by decide +kernel, by decide +kernel⟩, by decide +kernel, rfl⟩
theorem fiX3_see : FI yX3_see := ⟨tg 494 (by decide +kernel) (by decide +kernel), tg 495 (by decide +kernel) (by decide +kernel)⟩
abbrev mX3_unsee : MD := (RX3, cX3_unsee, 2, (some .int), 0, 0)
set_option maxRecDepth 20000 in
theorem fvX3_unsee : FV yX3_unsee mX3_unsee 0 := ⟨by decide +kernel, tg 500 rfl rfl, tg 45 (by decide +kernel) (by decide +kernel), ⟨by decide +kernel, by decide +kernel⟩, by decide +kernel, rfl⟩
theorem fiX3_unsee : FI yX3_unsee := ⟨tg 498 (by decide +kernel) (by decide +kernel), tg 499 (by decide +kernel) (by decide +kernel)⟩
abbrev mX3_bought : MD := (RX3, cX3_bought, 4, (some .int), 2, 46)
set_option maxRecDepth 20000 in
theorem fvX3_bought : FV yX3_bought mX3_bought 1 := ⟨by decide +kernel, tg 504 rfl rfl, tg 45 (by decide +kernel) (by decide +kernel), ⟨by decide +kernel, by decide +kernel⟩, by decide +kernel, rfl⟩
theorem fiX3_bought : FI yX3_bought := ⟨tg 502 (by decide +kernel) (by decide +kernel), tg 503 (by decide +kernel) (by decide +kernel)⟩
abbrev mX3_share : MD := (RX3, cX3_share, 10, (some .int), 4, 98)
set_option maxRecDepth 20000 in
theorem fvX3_share : FV yX3_share mX3_share 2 := ⟨by decide +kernel, tg 512 rfl rfl, tg 45 (by decide +kernel) (by decide +kernel), ⟨by decide +kernel, by decide +kernel⟩, by decide +kernel, rfl⟩
theorem fiX3_share : FI yX3_share := ⟨tg 510 (by decide +kernel) (by decide +kernel), tg 511 (by decide +kernel) (by decide +kernel)⟩
abbrev mX3_rests : MD := (RX3, cX3_rests, 12, (some .int), 2, 51)
set_option maxRecDepth 20000 in
theorem fvX3_rests : FV yX3_rests mX3_rests 4 := ⟨by decide +kernel, tg 529 rfl rfl, tg 45 (by decide +kernel) (by decide +kernel), ⟨by decide +kernel, by decide +kernel⟩, by decide +kernel, rfl⟩
theorem fiX3_rests : FI yX3_rests := ⟨tg 527 (by decide +kernel) (by decide +kernel), tg 528 (by decide +kernel) (by decide +kernel)⟩
abbrev mX3_born : MD := (RX3, cX3_born, 7, (some .int), 4, 88)
set_option maxRecDepth 20000 in
theorem fvX3_born : FV yX3_born mX3_born 3 := ⟨by decide +kernel, tg 536 rfl rfl, tg 45 (by decide +kernel) (by decide +kernel), ⟨by decide +kernel, by decide +kernel⟩, by decide +kernel, rfl⟩
theorem fiX3_born : FI yX3_born := ⟨tg 534 (by decide +kernel) (by decide +kernel), tg 535 (by decide +kernel) (by decide +kernel)⟩
abbrev mX3_seed : MD := (RX3, cX3_seed, 5, (some .long), 0, 0)
set_option maxRecDepth 20000 in
theorem fvX3_seed : FV yX3_seed mX3_seed 1 := ⟨by decide +kernel, tg 551 rfl rfl, tg 45 (by decide +kernel) (by decide +kernel), ⟨by decide +kernel, by decide +kernel⟩, by decide +kernel, rfl⟩
theorem fiX3_seed : FI yX3_seed := ⟨tg 549 (by decide +kernel) (by decide +kernel), tg 550 (by decide +kernel) (by decide +kernel)⟩
abbrev mX3_years : MD := (RX3, cX3_years, 4, (some .int), 6, 133)
set_option maxRecDepth 20000 in
theorem fvX3_years : FV yX3_years mX3_years 1 := ⟨by decide +kernel, tg 555 rfl rfl, tg 45 (by decide +kernel) (by decide +kernel), ⟨by decide +kernel, by decide +kernel⟩, by decide +kernel, rfl⟩
theorem fiX3_years : FI yX3_years := ⟨tg 553 (by decide +kernel) (by decide +kernel), tg 554 (by decide +kernel) (by decide +kernel)⟩
abbrev mX3_keep : MD := (RX3, cX3_keep, 2, (some .int), 2, 83)
set_option maxRecDepth 20000 in
theorem fvX3_keep : FV yX3_keep mX3_keep 1 := ⟨by decide +kernel, tg 566 rfl rfl, tg 45 (by decide +kernel) (by decide +kernel), ⟨by decide +kernel, by decide +kernel⟩, by decide +kernel, rfl⟩
theorem fiX3_keep : FI yX3_keep := ⟨tg 564 (by decide +kernel) (by decide +kernel), tg 565 (by decide +kernel) (by decide +kernel)⟩
abbrev mX3_again : MD := (RX3, cX3_again, 2, (some .int), 2, 83)
set_option maxRecDepth 20000 in
theorem fvX3_again : FV yX3_again mX3_again 1 := ⟨by decide +kernel, tg 570 rfl rfl, tg 45 (by decide +kernel) (by decide +kernel), ⟨by decide +kernel, by decide +kernel⟩, by decide +kernel, rfl⟩
theorem fiX3_again : FI yX3_again := ⟨tg 568 (by decide +kernel) (by decide +kernel), tg 569 (by decide +kernel) (by decide +kernel)⟩
abbrev mX3_count : MD := (RX3, cX3_count, 2, (some .int), 4, 89)
set_option maxRecDepth 20000 in
theorem fvX3_count : FV yX3_count mX3_count 1 := ⟨by decide +kernel, tg 574 rfl rfl, tg 45 (by decide +kernel) (by decide +kernel), ⟨by decide +kernel, by decide +kernel⟩, by decide +kernel, rfl⟩
theorem fiX3_count : FI yX3_count := ⟨tg 572 (by decide +kernel) (by decide +kernel), tg 573 (by decide +kernel) (by decide +kernel)⟩
abbrev mX3_readInto : MD := (RX3, cX3_readInto, 3, (some .int), 5, 110)
set_option maxRecDepth 20000 in
theorem fvX3_readInto : FV yX3_readInto mX3_readInto 1 := ⟨by decide +kernel, tg 225 rfl rfl, tg 45 (by decide +kernel) (by decide +kernel), ⟨by decide +kernel, by decide +kernel⟩, by decide +kernel, rfl⟩
theorem fiX3_readInto : FI yX3_readInto := ⟨tg 224 (by decide +kernel) (by decide +kernel), tg 0 (by decide +kernel) (by decide +kernel)⟩
abbrev mX3_remember : MD := (RX3, cX3_remember, 1, none, 2, 83)
set_option maxRecDepth 20000 in
theorem fvX3_remember : FV yX3_remember mX3_remember 0 := ⟨by decide +kernel, tg 359 rfl rfl, tg 45 (by decide +kernel) (by decide +kernel), ⟨by decide +kernel, by decide +kernel⟩, by decide +kernel, rfl⟩
theorem fiX3_remember : FI yX3_remember := ⟨tg 358 (by decide +kernel) (by decide +kernel), tg 6 (by decide +kernel) (by decide +kernel)⟩
abbrev mX3_tryToSend : MD := (RX3, cX3_tryToSend, 5, (some .int), 5, 110)
set_option maxRecDepth 20000 in
theorem fvX3_tryToSend : FV yX3_tryToSend mX3_tryToSend 2 := ⟨by decide +kernel, tg 465 rfl rfl, tg 45 (by decide +kernel) (by decide +kernel), ⟨by decide +kernel, by decide +kernel⟩, by decide +kernel, rfl⟩
theorem fiX3_tryToSend : FI yX3_tryToSend := ⟨tg 464 (by decide +kernel) (by decide +kernel), tg 10 (by decide +kernel) (by decide +kernel)⟩
abbrev mX3_agreesWithSeen : MD := (RX3, cX3_agreesWithSeen, 5, (some .boolean), 1, 22)
set_option maxRecDepth 20000 in
theorem fvX3_agreesWithSeen : FV yX3_agreesWithSeen mX3_agreesWithSeen 2 := ⟨by decide +kernel, tg 508 rfl rfl, tg 45 (by decide +kernel) (by decide +kernel), ⟨by decide +kernel, by decide +kernel⟩, by decide +kernel, rfl⟩
theorem fiX3_agreesWithSeen : FI yX3_agreesWithSeen := ⟨tg 507 (by decide +kernel) (by decide +kernel), tg 11 (by decide +kernel) (by decide +kernel)⟩
abbrev mX3_tryWeeks : MD := (RX3, cX3_tryWeeks, 4, none, 5, 110)
set_option maxRecDepth 20000 in
theorem fvX3_tryWeeks : FV yX3_tryWeeks mX3_tryWeeks 1 := ⟨by decide +kernel, tg 562 rfl rfl, tg 45 (by decide +kernel) (by decide +kernel), ⟨by decide +kernel, by decide +kernel⟩, by decide +kernel, rfl⟩
theorem fiX3_tryWeeks : FI yX3_tryWeeks := ⟨tg 561 (by decide +kernel) (by decide +kernel), tg 12 (by decide +kernel) (by decide +kernel)⟩
abbrev mX3_isContent : MD := (RX3, cX3_isContent, 4, (some .boolean), 0, 0)
set_option maxRecDepth 20000 in
theorem fvX3_isContent : FV yX3_isContent mX3_isContent 3 := ⟨by decide +kernel, tg 532 rfl rfl, tg 45 (by decide +kernel) (by decide +kernel), ⟨by decide +kernel, by decide +kernel⟩, by decide +kernel, rfl⟩
theorem fsX3_isContent : FS yX3_isContent := tg 531 (by decide +kernel) (by decide +kernel)
abbrev mX3_toldPart : MD := (RX3, cX3_toldPart, 9, (some .int), 1, 30)
set_option maxRecDepth 20000 in
theorem fvX3_toldPart : FV yX3_toldPart mX3_toldPart 3 := ⟨by decide +kernel, tg 522 rfl rfl, tg 45 (by decide +kernel) (by decide +kernel), ⟨by decide +kernel, by decide +kernel⟩, by decide +kernel, rfl⟩
theorem fsX3_toldPart : FS yX3_toldPart := tg 521 (by decide +kernel) (by decide +kernel)
abbrev mX3_commonDivisor : MD := (RX3, cX3_commonDivisor, 11, (some .long), 0, 0)
set_option maxRecDepth 20000 in
theorem fvX3_commonDivisor : FV yX3_commonDivisor mX3_commonDivisor 2 := ⟨by decide +kernel, tg 525 rfl rfl, tg 45 (by decide +kernel) (by decide +kernel), ⟨by decide +kernel, by decide +kernel⟩, by decide +kernel, rfl⟩
theorem fsX3_commonDivisor : FS yX3_commonDivisor := tg 524 (by decide +kernel) (by decide +kernel)
abbrev mX3_factorial : MD := (RX3, cX3_factorial, 4, (some .long), 0, 0)
set_option maxRecDepth 20000 in
theorem fvX3_factorial : FV yX3_factorial mX3_factorial 1 := ⟨by decide +kernel, tg 515 rfl rfl, tg 45 (by decide +kernel) (by decide +kernel), ⟨by decide +kernel, by decide +kernel⟩, by decide +kernel, rfl⟩
theorem fsX3_factorial : FS yX3_factorial := tg 514 (by decide +kernel) (by decide +kernel)
abbrev mX3_power : MD := (RX3, cX3_power, 5, (some .long), 0, 0)
set_option maxRecDepth 20000 in
theorem fvX3_power : FV yX3_power mX3_power 2 := ⟨by decide +kernel, tg 547 rfl rfl, tg 45 (by decide +kernel) (by decide +kernel), ⟨by decide +kernel, by decide +kernel⟩, by decide +kernel, rfl⟩
theorem fsX3_power : FS yX3_power := tg 546 (by decide +kernel) (by decide +kernel)
abbrev mX3_choose : MD := (RX3, cX3_choose, 5, (some .long), 0, 0)
set_option maxRecDepth 20000 in
theorem fvX3_choose : FV yX3_choose mX3_choose 2 := ⟨by decide +kernel, tg 544 rfl rfl, tg 45 (by decide +kernel) (by decide +kernel), ⟨by decide +kernel, by decide +kernel⟩, by decide +kernel, rfl⟩
theorem fsX3_choose : FS yX3_choose := tg 543 (by decide +kernel) (by decide +kernel)
abbrev mX4_in : MD := (RX4, cX4_in, 6, (some .boolean), 0, 0)
set_option maxRecDepth 20000 in
theorem fvX4_in : FV yX4_in mX4_in 3 := ⟨by decide +kernel, tg 666 rfl rfl, tg 50 (by decide +kernel) (by decide +kernel), ⟨by decide +kernel, by decide +kernel⟩, by decide +kernel, rfl⟩
theorem fsX4_in : FS yX4_in := tg 665 (by decide +kernel) (by decide +kernel)
abbrev mX4_has : MD := (RX4, cX4_has, 2, (some .boolean), 0, 0)
set_option maxRecDepth 20000 in
theorem fvX4_has : FV yX4_has mX4_has 2 := ⟨by decide +kernel, tg 690 rfl rfl, tg 50 (by decide +kernel) (by decide +kernel), ⟨by decide +kernel, by decide +kernel⟩, by decide +kernel, rfl⟩
theorem fsX4_has : FS yX4_has := tg 689 (by decide +kernel) (by decide +kernel)
abbrev mX4_ones : MD := (RX4, cX4_ones, 3, (some .int), 0, 0)
set_option maxRecDepth 20000 in
theorem fvX4_ones : FV yX4_ones mX4_ones 1 := ⟨by decide +kernel, tg 765 rfl rfl, tg 50 (by decide +kernel) (by decide +kernel), ⟨by decide +kernel, by decide +kernel⟩, by decide +kernel, rfl⟩
theorem fsX4_ones : FS yX4_ones := tg 764 (by decide +kernel) (by decide +kernel)
abbrev mX4_write : MD := (RX4, cX4_write, 2, (some .int), 1, 25)
set_option maxRecDepth 20000 in
theorem fvX4_write : FV yX4_write mX4_write 1 := ⟨by decide +kernel, tg 662 rfl rfl, tg 50 (by decide +kernel) (by decide +kernel), ⟨by decide +kernel, by decide +kernel⟩, by decide +kernel, rfl⟩
theorem fiX4_write : FI yX4_write := ⟨tg 660 (by decide +kernel) (by decide +kernel), tg 661 (by decide +kernel) (by decide +kernel)⟩
abbrev mX4_wipe : MD := (RX4, cX4_wipe, 2, (some .int), 0, 0)
set_option maxRecDepth 20000 in
theorem fvX4_wipe : FV yX4_wipe mX4_wipe 0 := ⟨by decide +kernel, tg 670 rfl rfl, tg 50 (by decide +kernel) (by decide +kernel), ⟨by decide +kernel, by decide +kernel⟩, by decide +kernel, rfl⟩
theorem fiX4_wipe : FI yX4_wipe := ⟨tg 668 (by decide +kernel) (by decide +kernel), tg 669 (by decide +kernel) (by decide +kernel)⟩
abbrev mX4_figureOf : MD := (RX4, cX4_figureOf, 3, (some .int), 1, 25)
set_option maxRecDepth 20000 in
theorem fvX4_figureOf : FV yX4_figureOf mX4_figureOf 1 := ⟨by decide +kernel, tg 686 rfl rfl, tg 50 (by decide +kernel) (by decide +kernel), ⟨by decide +kernel, by decide +kernel⟩, by decide +kernel, rfl⟩
theorem fiX4_figureOf : FI yX4_figureOf := ⟨tg 685 (by decide +kernel) (by decide +kernel), tg 15 (by decide +kernel) (by decide +kernel)⟩
abbrev mX4_left : MD := (RX4, cX4_left, 2, (some .int), 0, 0)
set_option maxRecDepth 20000 in
theorem fvX4_left : FV yX4_left mX4_left 1 := ⟨by decide +kernel, tg 698 rfl rfl, tg 50 (by decide +kernel) (by decide +kernel), ⟨by decide +kernel, by decide +kernel⟩, by decide +kernel, rfl⟩
theorem fiX4_left : FI yX4_left := ⟨tg 697 (by decide +kernel) (by decide +kernel), tg 17 (by decide +kernel) (by decide +kernel)⟩
abbrev mX4_firstsLeft : MD := (RX4, cX4_firstsLeft, 3, (some .int), 1, 21)
set_option maxRecDepth 20000 in
theorem fvX4_firstsLeft : FV yX4_firstsLeft mX4_firstsLeft 0 := ⟨by decide +kernel, tg 694 rfl rfl, tg 50 (by decide +kernel) (by decide +kernel), ⟨by decide +kernel, by decide +kernel⟩, by decide +kernel, rfl⟩
theorem fiX4_firstsLeft : FI yX4_firstsLeft := ⟨tg 693 (by decide +kernel) (by decide +kernel), tg 16 (by decide +kernel) (by decide +kernel)⟩
abbrev mX4_readText : MD := (RX4, cX4_readText, 2, (some .int), 3, 70)
set_option maxRecDepth 20000 in
theorem fvX4_readText : FV yX4_readText mX4_readText 0 := ⟨by decide +kernel, tg 678 rfl rfl, tg 50 (by decide +kernel) (by decide +kernel), ⟨by decide +kernel, by decide +kernel⟩, by decide +kernel, rfl⟩
theorem fiX4_readText : FI yX4_readText := ⟨tg 677 (by decide +kernel) (by decide +kernel), tg 13 (by decide +kernel) (by decide +kernel)⟩
abbrev mX4_readPart : MD := (RX4, cX4_readPart, 4, none, 2, 47)
set_option maxRecDepth 20000 in
theorem fvX4_readPart : FV yX4_readPart mX4_readPart 1 := ⟨by decide +kernel, tg 682 rfl rfl, tg 50 (by decide +kernel) (by decide +kernel), ⟨by decide +kernel, by decide +kernel⟩, by decide +kernel, rfl⟩
theorem fiX4_readPart : FI yX4_readPart := ⟨tg 681 (by decide +kernel) (by decide +kernel), tg 14 (by decide +kernel) (by decide +kernel)⟩
abbrev mX4_fault : MD := (RX4, cX4_fault, 1, (some .int), 4, 91)
set_option maxRecDepth 20000 in
theorem fvX4_fault : FV yX4_fault mX4_fault 0 := ⟨by decide +kernel, tg 674 rfl rfl, tg 50 (by decide +kernel) (by decide +kernel), ⟨by decide +kernel, by decide +kernel⟩, by decide +kernel, rfl⟩
theorem fiX4_fault : FI yX4_fault := ⟨tg 672 (by decide +kernel) (by decide +kernel), tg 673 (by decide +kernel) (by decide +kernel)⟩
abbrev mX4_album : MD := (RX4, cX4_album, 2, (some .int), 4, 91)
set_option maxRecDepth 20000 in
theorem fvX4_album : FV yX4_album mX4_album 0 := ⟨by decide +kernel, tg 702 rfl rfl, tg 50 (by decide +kernel) (by decide +kernel), ⟨by decide +kernel, by decide +kernel⟩, by decide +kernel, rfl⟩
theorem fiX4_album : FI yX4_album := ⟨tg 700 (by decide +kernel) (by decide +kernel), tg 701 (by decide +kernel) (by decide +kernel)⟩
abbrev mX4_isStamp : MD := (RX4, cX4_isStamp, 2, (some .boolean), 1, 25)
set_option maxRecDepth 20000 in
theorem fvX4_isStamp : FV yX4_isStamp mX4_isStamp 1 := ⟨by decide +kernel, tg 710 rfl rfl, tg 50 (by decide +kernel) (by decide +kernel), ⟨by decide +kernel, by decide +kernel⟩, by decide +kernel, rfl⟩
theorem fiX4_isStamp : FI yX4_isStamp := ⟨tg 709 (by decide +kernel) (by decide +kernel), tg 18 (by decide +kernel) (by decide +kernel)⟩
abbrev mX4_isLetter : MD := (RX4, cX4_isLetter, 2, (some .boolean), 1, 25)
set_option maxRecDepth 20000 in
theorem fvX4_isLetter : FV yX4_isLetter mX4_isLetter 1 := ⟨by decide +kernel, tg 730 rfl rfl, tg 50 (by decide +kernel) (by decide +kernel), ⟨by decide +kernel, by decide +kernel⟩, by decide +kernel, rfl⟩
theorem fiX4_isLetter : FI yX4_isLetter := ⟨tg 729 (by decide +kernel) (by decide +kernel), tg 22 (by decide +kernel) (by decide +kernel)⟩
abbrev mX4_span : MD := (RX4, cX4_span, 3, (some .int), 0, 0)
set_option maxRecDepth 20000 in
theorem fvX4_span : FV yX4_span mX4_span 2 := ⟨by decide +kernel, tg 714 rfl rfl, tg 50 (by decide +kernel) (by decide +kernel), ⟨by decide +kernel, by decide +kernel⟩, by decide +kernel, rfl⟩
theorem fiX4_span : FI yX4_span := ⟨tg 713 (by decide +kernel) (by decide +kernel), tg 19 (by decide +kernel) (by decide +kernel)⟩
abbrev mX4_isAlive : MD := (RX4, cX4_isAlive, 3, (some .boolean), 1, 22)
set_option maxRecDepth 20000 in
theorem fvX4_isAlive : FV yX4_isAlive mX4_isAlive 2 := ⟨by decide +kernel, tg 722 rfl rfl, tg 50 (by decide +kernel) (by decide +kernel), ⟨by decide +kernel, by decide +kernel⟩, by decide +kernel, rfl⟩
theorem fiX4_isAlive : FI yX4_isAlive := ⟨tg 721 (by decide +kernel) (by decide +kernel), tg 21 (by decide +kernel) (by decide +kernel)⟩
abbrev mX4_living : MD := (RX4, cX4_living, 4, (some .int), 2, 44)
set_option maxRecDepth 20000 in
theorem fvX4_living : FV yX4_living mX4_living 1 := ⟨by decide +kernel, tg 754 rfl rfl, tg 50 (by decide +kernel) (by decide +kernel), ⟨by decide +kernel, by decide +kernel⟩, by decide +kernel, rfl⟩
theorem fiX4_living : FI yX4_living := ⟨tg 753 (by decide +kernel) (by decide +kernel), tg 27 (by decide +kernel) (by decide +kernel)⟩
abbrev mX4_rate : MD := (RX4, cX4_rate, 5, (some .int), 0, 0)
set_option maxRecDepth 20000 in
theorem fvX4_rate : FV yX4_rate mX4_rate 2 := ⟨by decide +kernel, tg 718 rfl rfl, tg 50 (by decide +kernel) (by decide +kernel), ⟨by decide +kernel, by decide +kernel⟩, by decide +kernel, rfl⟩
theorem fiX4_rate : FI yX4_rate := ⟨tg 717 (by decide +kernel) (by decide +kernel), tg 20 (by decide +kernel) (by decide +kernel)⟩
abbrev mX4_onLetter : MD := (RX4, cX4_onLetter, 5, (some .int), 0, 0)
set_option maxRecDepth 20000 in
theorem fvX4_onLetter : FV yX4_onLetter mX4_onLetter 2 := ⟨by decide +kernel, tg 734 rfl rfl, tg 50 (by decide +kernel) (by decide +kernel), ⟨by decide +kernel, by decide +kernel⟩, by decide +kernel, rfl⟩
theorem fiX4_onLetter : FI yX4_onLetter := ⟨tg 733 (by decide +kernel) (by decide +kernel), tg 23 (by decide +kernel) (by decide +kernel)⟩
abbrev mX4_goodFor : MD := (RX4, cX4_goodFor, 5, (some .int), 2, 44)
set_option maxRecDepth 20000 in
theorem fvX4_goodFor : FV yX4_goodFor mX4_goodFor 2 := ⟨by decide +kernel, tg 738 rfl rfl, tg 50 (by decide +kernel) (by decide +kernel), ⟨by decide +kernel, by decide +kernel⟩, by decide +kernel, rfl⟩
theorem fiX4_goodFor : FI yX4_goodFor := ⟨tg 737 (by decide +kernel) (by decide +kernel), tg 24 (by decide +kernel) (by decide +kernel)⟩
abbrev mX4_widows : MD := (RX4, cX4_widows, 5, (some .int), 3, 67)
set_option maxRecDepth 20000 in
theorem fvX4_widows : FV yX4_widows mX4_widows 1 := ⟨by decide +kernel, tg 762 rfl rfl, tg 50 (by decide +kernel) (by decide +kernel), ⟨by decide +kernel, by decide +kernel⟩, by decide +kernel, rfl⟩
theorem fiX4_widows : FI yX4_widows := ⟨tg 761 (by decide +kernel) (by decide +kernel), tg 29 (by decide +kernel) (by decide +kernel)⟩
abbrev mX4_age : MD := (RX4, cX4_age, 5, none, 1, 21)
set_option maxRecDepth 20000 in
theorem fvX4_age : FV yX4_age mX4_age 3 := ⟨by decide +kernel, tg 758 rfl rfl, tg 50 (by decide +kernel) (by decide +kernel), ⟨by decide +kernel, by decide +kernel⟩, by decide +kernel, rfl⟩
theorem fiX4_age : FI yX4_age := ⟨tg 757 (by decide +kernel) (by decide +kernel), tg 28 (by decide +kernel) (by decide +kernel)⟩
abbrev mX4_passOn : MD := (RX4, cX4_passOn, 6, none, 4, 91)
set_option maxRecDepth 20000 in
theorem fvX4_passOn : FV yX4_passOn mX4_passOn 1 := ⟨by decide +kernel, tg 750 rfl rfl, tg 50 (by decide +kernel) (by decide +kernel), ⟨by decide +kernel, by decide +kernel⟩, by decide +kernel, rfl⟩
theorem fiX4_passOn : FI yX4_passOn := ⟨tg 749 (by decide +kernel) (by decide +kernel), tg 26 (by decide +kernel) (by decide +kernel)⟩
abbrev mX4_stamp : MD := (RX4, cX4_stamp, 3, (some .int), 2, 46)
set_option maxRecDepth 20000 in
theorem fvX4_stamp : FV yX4_stamp mX4_stamp 2 := ⟨by decide +kernel, tg 706 rfl rfl, tg 50 (by decide +kernel) (by decide +kernel), ⟨by decide +kernel, by decide +kernel⟩, by decide +kernel, rfl⟩
theorem fiX4_stamp : FI yX4_stamp := ⟨tg 704 (by decide +kernel) (by decide +kernel), tg 705 (by decide +kernel) (by decide +kernel)⟩
abbrev mX4_letter : MD := (RX4, cX4_letter, 3, (some .int), 3, 68)
set_option maxRecDepth 20000 in
theorem fvX4_letter : FV yX4_letter mX4_letter 2 := ⟨by decide +kernel, tg 726 rfl rfl, tg 50 (by decide +kernel) (by decide +kernel), ⟨by decide +kernel, by decide +kernel⟩, by decide +kernel, rfl⟩
theorem fiX4_letter : FI yX4_letter := ⟨tg 724 (by decide +kernel) (by decide +kernel), tg 725 (by decide +kernel) (by decide +kernel)⟩
abbrev mX4_keepAct : MD := (RX4, cX4_keepAct, 2, none, 0, 0)
set_option maxRecDepth 20000 in
theorem fvX4_keepAct : FV yX4_keepAct mX4_keepAct 0 := ⟨by decide +kernel, tg 746 rfl rfl, tg 50 (by decide +kernel) (by decide +kernel), ⟨by decide +kernel, by decide +kernel⟩, by decide +kernel, rfl⟩
theorem fiX4_keepAct : FI yX4_keepAct := ⟨tg 745 (by decide +kernel) (by decide +kernel), tg 25 (by decide +kernel) (by decide +kernel)⟩
abbrev mX4_week : MD := (RX4, cX4_week, 1, (some .int), 5, 116)
set_option maxRecDepth 20000 in
theorem fvX4_week : FV yX4_week mX4_week 0 := ⟨by decide +kernel, tg 742 rfl rfl, tg 50 (by decide +kernel) (by decide +kernel), ⟨by decide +kernel, by decide +kernel⟩, by decide +kernel, rfl⟩
theorem fiX4_week : FI yX4_week := ⟨tg 740 (by decide +kernel) (by decide +kernel), tg 741 (by decide +kernel) (by decide +kernel)⟩
abbrev mX4_isFree : MD := (RX4, cX4_isFree, 3, (some .boolean), 2, 44)
set_option maxRecDepth 20000 in
theorem fvX4_isFree : FV yX4_isFree mX4_isFree 2 := ⟨by decide +kernel, tg 777 rfl rfl, tg 50 (by decide +kernel) (by decide +kernel), ⟨by decide +kernel, by decide +kernel⟩, by decide +kernel, rfl⟩
theorem fiX4_isFree : FI yX4_isFree := ⟨tg 776 (by decide +kernel) (by decide +kernel), tg 31 (by decide +kernel) (by decide +kernel)⟩
abbrev mX4_canStick : MD := (RX4, cX4_canStick, 4, (some .boolean), 3, 66)
set_option maxRecDepth 20000 in
theorem fvX4_canStick : FV yX4_canStick mX4_canStick 3 := ⟨by decide +kernel, tg 773 rfl rfl, tg 50 (by decide +kernel) (by decide +kernel), ⟨by decide +kernel, by decide +kernel⟩, by decide +kernel, rfl⟩
theorem fiX4_canStick : FI yX4_canStick := ⟨tg 772 (by decide +kernel) (by decide +kernel), tg 30 (by decide +kernel) (by decide +kernel)⟩
abbrev mX4_stickOn : MD := (RX4, cX4_stickOn, 5, none, 0, 0)
set_option maxRecDepth 20000 in
theorem fvX4_stickOn : FV yX4_stickOn mX4_stickOn 3 := ⟨by decide +kernel, tg 781 rfl rfl, tg 50 (by decide +kernel) (by decide +kernel), ⟨by decide +kernel, by decide +kernel⟩, by decide +kernel, rfl⟩
theorem fiX4_stickOn : FI yX4_stickOn := ⟨tg 780 (by decide +kernel) (by decide +kernel), tg 32 (by decide +kernel) (by decide +kernel)⟩
abbrev mX4_stick : MD := (RX4, cX4_stick, 3, (some .int), 4, 89)
set_option maxRecDepth 20000 in
theorem fvX4_stick : FV yX4_stick mX4_stick 2 := ⟨by decide +kernel, tg 769 rfl rfl, tg 50 (by decide +kernel) (by decide +kernel), ⟨by decide +kernel, by decide +kernel⟩, by decide +kernel, rfl⟩
theorem fiX4_stick : FI yX4_stick := ⟨tg 767 (by decide +kernel) (by decide +kernel), tg 768 (by decide +kernel) (by decide +kernel)⟩
abbrev mX4_canSend : MD := (RX4, cX4_canSend, 3, (some .boolean), 3, 68)
set_option maxRecDepth 20000 in
theorem fvX4_canSend : FV yX4_canSend mX4_canSend 2 := ⟨by decide +kernel, tg 789 rfl rfl, tg 50 (by decide +kernel) (by decide +kernel), ⟨by decide +kernel, by decide +kernel⟩, by decide +kernel, rfl⟩
theorem fiX4_canSend : FI yX4_canSend := ⟨tg 788 (by decide +kernel) (by decide +kernel), tg 33 (by decide +kernel) (by decide +kernel)⟩
abbrev mX4_send : MD := (RX4, cX4_send, 2, (some .int), 4, 90)
set_option maxRecDepth 20000 in
theorem fvX4_send : FV yX4_send mX4_send 1 := ⟨by decide +kernel, tg 785 rfl rfl, tg 50 (by decide +kernel) (by decide +kernel), ⟨by decide +kernel, by decide +kernel⟩, by decide +kernel, rfl⟩
theorem fiX4_send : FI yX4_send := ⟨tg 783 (by decide +kernel) (by decide +kernel), tg 784 (by decide +kernel) (by decide +kernel)⟩
abbrev mX4_canPart : MD := (RX4, cX4_canPart, 4, (some .boolean), 2, 46)
set_option maxRecDepth 20000 in
theorem fvX4_canPart : FV yX4_canPart mX4_canPart 3 := ⟨by decide +kernel, tg 797 rfl rfl, tg 50 (by decide +kernel) (by decide +kernel), ⟨by decide +kernel, by decide +kernel⟩, by decide +kernel, rfl⟩
theorem fiX4_canPart : FI yX4_canPart := ⟨tg 796 (by decide +kernel) (by decide +kernel), tg 34 (by decide +kernel) (by decide +kernel)⟩
abbrev mX4_partOn : MD := (RX4, cX4_partOn, 5, none, 2, 45)
set_option maxRecDepth 20000 in
theorem fvX4_partOn : FV yX4_partOn mX4_partOn 3 := ⟨by decide +kernel, tg 801 rfl rfl, tg 50 (by decide +kernel) (by decide +kernel), ⟨by decide +kernel, by decide +kernel⟩, by decide +kernel, rfl⟩
theorem fiX4_partOn : FI yX4_partOn := ⟨tg 800 (by decide +kernel) (by decide +kernel), tg 35 (by decide +kernel) (by decide +kernel)⟩
abbrev mX4_part : MD := (RX4, cX4_part, 3, (some .int), 3, 69)
set_option maxRecDepth 20000 in
theorem fvX4_part : FV yX4_part mX4_part 2 := ⟨by decide +kernel, tg 793 rfl rfl, tg 50 (by decide +kernel) (by decide +kernel), ⟨by decide +kernel, by decide +kernel⟩, by decide +kernel, rfl⟩
theorem fiX4_part : FI yX4_part := ⟨tg 791 (by decide +kernel) (by decide +kernel), tg 792 (by decide +kernel) (by decide +kernel)⟩
abbrev mX4_damp : MD := (RX4, cX4_damp, 1, (some .int), 1, 21)
set_option maxRecDepth 20000 in
theorem fvX4_damp : FV yX4_damp mX4_damp 0 := ⟨by decide +kernel, tg 805 rfl rfl, tg 50 (by decide +kernel) (by decide +kernel), ⟨by decide +kernel, by decide +kernel⟩, by decide +kernel, rfl⟩
theorem fiX4_damp : FI yX4_damp := ⟨tg 803 (by decide +kernel) (by decide +kernel), tg 804 (by decide +kernel) (by decide +kernel)⟩
abbrev mX4_undo : MD := (RX4, cX4_undo, 2, (some .int), 0, 0)
set_option maxRecDepth 20000 in
theorem fvX4_undo : FV yX4_undo mX4_undo 0 := ⟨by decide +kernel, tg 809 rfl rfl, tg 50 (by decide +kernel) (by decide +kernel), ⟨by decide +kernel, by decide +kernel⟩, by decide +kernel, rfl⟩
theorem fiX4_undo : FI yX4_undo := ⟨tg 807 (by decide +kernel) (by decide +kernel), tg 808 (by decide +kernel) (by decide +kernel)⟩
abbrev mX4_layTrial : MD := (RX4, cX4_layTrial, 2, none, 0, 0)
set_option maxRecDepth 20000 in
theorem fvX4_layTrial : FV yX4_layTrial mX4_layTrial 0 := ⟨by decide +kernel, tg 817 rfl rfl, tg 50 (by decide +kernel) (by decide +kernel), ⟨by decide +kernel, by decide +kernel⟩, by decide +kernel, rfl⟩
theorem fiX4_layTrial : FI yX4_layTrial := ⟨tg 816 (by decide +kernel) (by decide +kernel), tg 36 (by decide +kernel) (by decide +kernel)⟩
abbrev mX4_lives : MD := (RX4, cX4_lives, 3, (some .int), 5, 116)
set_option maxRecDepth 20000 in
theorem fvX4_lives : FV yX4_lives mX4_lives 1 := ⟨by decide +kernel, tg 813 rfl rfl, tg 50 (by decide +kernel) (by decide +kernel), ⟨by decide +kernel, by decide +kernel⟩, by decide +kernel, rfl⟩
theorem fiX4_lives : FI yX4_lives := ⟨tg 811 (by decide +kernel) (by decide +kernel), tg 812 (by decide +kernel) (by decide +kernel)⟩
abbrev mX4_ends : MD := (RX4, cX4_ends, 4, (some .int), 5, 116)
set_option maxRecDepth 20000 in
theorem fvX4_ends : FV yX4_ends mX4_ends 2 := ⟨by decide +kernel, tg 829 rfl rfl, tg 50 (by decide +kernel) (by decide +kernel), ⟨by decide +kernel, by decide +kernel⟩, by decide +kernel, rfl⟩
theorem fiX4_ends : FI yX4_ends := ⟨tg 828 (by decide +kernel) (by decide +kernel), tg 38 (by decide +kernel) (by decide +kernel)⟩
abbrev mX4_freeOnes : MD := (RX4, cX4_freeOnes, 3, (some .int), 3, 66)
set_option maxRecDepth 20000 in
theorem fvX4_freeOnes : FV yX4_freeOnes mX4_freeOnes 0 := ⟨by decide +kernel, tg 825 rfl rfl, tg 50 (by decide +kernel) (by decide +kernel), ⟨by decide +kernel, by decide +kernel⟩, by decide +kernel, rfl⟩
theorem fiX4_freeOnes : FI yX4_freeOnes := ⟨tg 824 (by decide +kernel) (by decide +kernel), tg 37 (by decide +kernel) (by decide +kernel)⟩
abbrev mX4_comes : MD := (RX4, cX4_comes, 3, (some .int), 6, 139)
set_option maxRecDepth 20000 in
theorem fvX4_comes : FV yX4_comes mX4_comes 2 := ⟨by decide +kernel, tg 821 rfl rfl, tg 50 (by decide +kernel) (by decide +kernel), ⟨by decide +kernel, by decide +kernel⟩, by decide +kernel, rfl⟩
theorem fiX4_comes : FI yX4_comes := ⟨tg 819 (by decide +kernel) (by decide +kernel), tg 820 (by decide +kernel) (by decide +kernel)⟩
abbrev mX4_fewest : MD := (RX4, cX4_fewest, 5, (some .int), 6, 139)
set_option maxRecDepth 20000 in
theorem fvX4_fewest : FV yX4_fewest mX4_fewest 1 := ⟨by decide +kernel, tg 833 rfl rfl, tg 50 (by decide +kernel) (by decide +kernel), ⟨by decide +kernel, by decide +kernel⟩, by decide +kernel, rfl⟩
theorem fiX4_fewest : FI yX4_fewest := ⟨tg 831 (by decide +kernel) (by decide +kernel), tg 832 (by decide +kernel) (by decide +kernel)⟩
abbrev mX4_block : MD := (RX4, cX4_block, 5, (some .int), 2, 46)
set_option maxRecDepth 20000 in
theorem fvX4_block : FV yX4_block mX4_block 1 := ⟨by decide +kernel, tg 837 rfl rfl, tg 50 (by decide +kernel) (by decide +kernel), ⟨by decide +kernel, by decide +kernel⟩, by decide +kernel, rfl⟩
theorem fiX4_block : FI yX4_block := ⟨tg 835 (by decide +kernel) (by decide +kernel), tg 836 (by decide +kernel) (by decide +kernel)⟩
abbrev mX4_tenTo : MD := (RX4, cX4_tenTo, 4, (some .long), 0, 0)
set_option maxRecDepth 20000 in
theorem fvX4_tenTo : FV yX4_tenTo mX4_tenTo 1 := ⟨by decide +kernel, tg 845 rfl rfl, tg 50 (by decide +kernel) (by decide +kernel), ⟨by decide +kernel, by decide +kernel⟩, by decide +kernel, rfl⟩
theorem fsX4_tenTo : FS yX4_tenTo := tg 844 (by decide +kernel) (by decide +kernel)
abbrev mX4_tryThing : MD := (RX4, cX4_tryThing, 5, (some .boolean), 5, 116)
set_option maxRecDepth 20000 in
theorem fvX4_tryThing : FV yX4_tryThing mX4_tryThing 3 := ⟨by decide +kernel, tg 851 rfl rfl, tg 50 (by decide +kernel) (by decide +kernel), ⟨by decide +kernel, by decide +kernel⟩, by decide +kernel, rfl⟩
theorem fiX4_tryThing : FI yX4_tryThing := ⟨tg 850 (by decide +kernel) (by decide +kernel), tg 39 (by decide +kernel) (by decide +kernel)⟩
abbrev mX4_judge : MD := (RX4, cX4_judge, 6, (some .int), 6, 140)
set_option maxRecDepth 20000 in
theorem fvX4_judge : FV yX4_judge mX4_judge 2 := ⟨by decide +kernel, tg 841 rfl rfl, tg 50 (by decide +kernel) (by decide +kernel), ⟨by decide +kernel, by decide +kernel⟩, by decide +kernel, rfl⟩
theorem fiX4_judge : FI yX4_judge := ⟨tg 839 (by decide +kernel) (by decide +kernel), tg 840 (by decide +kernel) (by decide +kernel)⟩
abbrev mX4_see : MD := (RX4, cX4_see, 4, (some .int), 2, 46)
set_option maxRecDepth 20000 in
theorem fvX4_see : FV yX4_see mX4_see 3 := ⟨by decide +kernel, tg 855 rfl rfl, tg 50 (by decide +kernel) (by decide +kernel), ⟨by decide +kernel, by decide +kernel⟩, by decide +kernel, rfl⟩
theorem fiX4_see : FI yX4_see := ⟨tg 853 (by decide +kernel) (by decide +kernel), tg 854 (by decide +kernel) (by decide +kernel)⟩
abbrev mX4_unsee : MD := (RX4, cX4_unsee, 2, (some .int), 0, 0)
set_option maxRecDepth 20000 in
theorem fvX4_unsee : FV yX4_unsee mX4_unsee 0 := ⟨by decide +kernel, tg 860 rfl rfl, tg 50 (by decide +kernel) (by decide +kernel), ⟨by decide +kernel, by decide +kernel⟩, by decide +kernel, rfl⟩
theorem fiX4_unsee : FI yX4_unsee := ⟨tg 858 (by decide +kernel) (by decide +kernel), tg 859 (by decide +kernel) (by decide +kernel)⟩
abbrev mX4_bought : MD := (RX4, cX4_bought, 7, (some .int), 2, 46)
set_option maxRecDepth 20000 in
theorem fvX4_bought : FV yX4_bought mX4_bought 1 := ⟨by decide +kernel, tg 864 rfl rfl, tg 50 (by decide +kernel) (by decide +kernel), ⟨by decide +kernel, by decide +kernel⟩, by decide +kernel, rfl⟩
theorem fiX4_bought : FI yX4_bought := ⟨tg 862 (by decide +kernel) (by decide +kernel), tg 863 (by decide +kernel) (by decide +kernel)⟩
abbrev mX4_factorial : MD := (RX4, cX4_factorial, 3, (some .int), 0, 0)
set_option maxRecDepth 20000 in
theorem fvX4_factorial : FV yX4_factorial mX4_factorial 1 := ⟨by decide +kernel, tg 871 rfl rfl, tg 50 (by decide +kernel) (by decide +kernel), ⟨by decide +kernel, by decide +kernel⟩, by decide +kernel, rfl⟩
theorem fsX4_factorial : FS yX4_factorial := tg 870 (by decide +kernel) (by decide +kernel)
abbrev mX4_common : MD := (RX4, cX4_common, 10, (some .long), 0, 0)
set_option maxRecDepth 20000 in
theorem fvX4_common : FV yX4_common mX4_common 2 := ⟨by decide +kernel, tg 878 rfl rfl, tg 50 (by decide +kernel) (by decide +kernel), ⟨by decide +kernel, by decide +kernel⟩, by decide +kernel, rfl⟩
theorem fsX4_common : FS yX4_common := tg 877 (by decide +kernel) (by decide +kernel)
abbrev mX4_paidBy : MD := (RX4, cX4_paidBy, 4, (some .int), 3, 68)
set_option maxRecDepth 20000 in
theorem fvX4_paidBy : FV yX4_paidBy mX4_paidBy 1 := ⟨by decide +kernel, tg 875 rfl rfl, tg 50 (by decide +kernel) (by decide +kernel), ⟨by decide +kernel, by decide +kernel⟩, by decide +kernel, rfl⟩
theorem fiX4_paidBy : FI yX4_paidBy := ⟨tg 874 (by decide +kernel) (by decide +kernel), tg 40 (by decide +kernel) (by decide +kernel)⟩
abbrev mX4_share : MD := (RX4, cX4_share, 6, (some .int), 4, 91)
set_option maxRecDepth 20000 in
theorem fvX4_share : FV yX4_share mX4_share 2 := ⟨by decide +kernel, tg 868 rfl rfl, tg 50 (by decide +kernel) (by decide +kernel), ⟨by decide +kernel, by decide +kernel⟩, by decide +kernel, rfl⟩
theorem fiX4_share : FI yX4_share := ⟨tg 866 (by decide +kernel) (by decide +kernel), tg 867 (by decide +kernel) (by decide +kernel)⟩
abbrev mX4_gain : MD := (RX4, cX4_gain, 5, (some .int), 1, 24)
set_option maxRecDepth 20000 in
theorem fvX4_gain : FV yX4_gain mX4_gain 4 := ⟨by decide +kernel, tg 890 rfl rfl, tg 50 (by decide +kernel) (by decide +kernel), ⟨by decide +kernel, by decide +kernel⟩, by decide +kernel, rfl⟩
theorem fiX4_gain : FI yX4_gain := ⟨tg 889 (by decide +kernel) (by decide +kernel), tg 42 (by decide +kernel) (by decide +kernel)⟩
abbrev mX4_isRest : MD := (RX4, cX4_isRest, 6, (some .boolean), 2, 48)
set_option maxRecDepth 20000 in
theorem fvX4_isRest : FV yX4_isRest mX4_isRest 5 := ⟨by decide +kernel, tg 886 rfl rfl, tg 50 (by decide +kernel) (by decide +kernel), ⟨by decide +kernel, by decide +kernel⟩, by decide +kernel, rfl⟩
theorem fiX4_isRest : FI yX4_isRest := ⟨tg 885 (by decide +kernel) (by decide +kernel), tg 41 (by decide +kernel) (by decide +kernel)⟩
abbrev mX4_rests : MD := (RX4, cX4_rests, 8, (some .int), 3, 73)
set_option maxRecDepth 20000 in
theorem fvX4_rests : FV yX4_rests mX4_rests 4 := ⟨by decide +kernel, tg 882 rfl rfl, tg 50 (by decide +kernel) (by decide +kernel), ⟨by decide +kernel, by decide +kernel⟩, by decide +kernel, rfl⟩
theorem fiX4_rests : FI yX4_rests := ⟨tg 880 (by decide +kernel) (by decide +kernel), tg 881 (by decide +kernel) (by decide +kernel)⟩
abbrev mX4_born : MD := (RX4, cX4_born, 10, (some .int), 3, 67)
set_option maxRecDepth 20000 in
theorem fvX4_born : FV yX4_born mX4_born 3 := ⟨by decide +kernel, tg 894 rfl rfl, tg 50 (by decide +kernel) (by decide +kernel), ⟨by decide +kernel, by decide +kernel⟩, by decide +kernel, rfl⟩
theorem fiX4_born : FI yX4_born := ⟨tg 892 (by decide +kernel) (by decide +kernel), tg 893 (by decide +kernel) (by decide +kernel)⟩
abbrev mX4_seed : MD := (RX4, cX4_seed, 5, (some .long), 0, 0)
set_option maxRecDepth 20000 in
theorem fvX4_seed : FV yX4_seed mX4_seed 1 := ⟨by decide +kernel, tg 898 rfl rfl, tg 50 (by decide +kernel) (by decide +kernel), ⟨by decide +kernel, by decide +kernel⟩, by decide +kernel, rfl⟩
theorem fiX4_seed : FI yX4_seed := ⟨tg 896 (by decide +kernel) (by decide +kernel), tg 897 (by decide +kernel) (by decide +kernel)⟩
abbrev mX4_years : MD := (RX4, cX4_years, 6, (some .int), 5, 116)
set_option maxRecDepth 20000 in
theorem fvX4_years : FV yX4_years mX4_years 1 := ⟨by decide +kernel, tg 902 rfl rfl, tg 50 (by decide +kernel) (by decide +kernel), ⟨by decide +kernel, by decide +kernel⟩, by decide +kernel, rfl⟩
theorem fiX4_years : FI yX4_years := ⟨tg 900 (by decide +kernel) (by decide +kernel), tg 901 (by decide +kernel) (by decide +kernel)⟩
abbrev mX4_keep : MD := (RX4, cX4_keep, 3, (some .int), 1, 25)
set_option maxRecDepth 20000 in
theorem fvX4_keep : FV yX4_keep mX4_keep 1 := ⟨by decide +kernel, tg 909 rfl rfl, tg 50 (by decide +kernel) (by decide +kernel), ⟨by decide +kernel, by decide +kernel⟩, by decide +kernel, rfl⟩
theorem fiX4_keep : FI yX4_keep := ⟨tg 907 (by decide +kernel) (by decide +kernel), tg 908 (by decide +kernel) (by decide +kernel)⟩
abbrev mX4_again : MD := (RX4, cX4_again, 3, (some .int), 1, 25)
set_option maxRecDepth 20000 in
theorem fvX4_again : FV yX4_again mX4_again 1 := ⟨by decide +kernel, tg 913 rfl rfl, tg 50 (by decide +kernel) (by decide +kernel), ⟨by decide +kernel, by decide +kernel⟩, by decide +kernel, rfl⟩
theorem fiX4_again : FI yX4_again := ⟨tg 911 (by decide +kernel) (by decide +kernel), tg 912 (by decide +kernel) (by decide +kernel)⟩
abbrev mX4_lettersThatAre : MD := (RX4, cX4_lettersThatAre, 4, (some .int), 0, 0)
set_option maxRecDepth 20000 in
theorem fvX4_lettersThatAre : FV yX4_lettersThatAre mX4_lettersThatAre 1 := ⟨by decide +kernel, tg 921 rfl rfl, tg 50 (by decide +kernel) (by decide +kernel), ⟨by decide +kernel, by decide +kernel⟩, by decide +kernel, rfl⟩
theorem fiX4_lettersThatAre : FI yX4_lettersThatAre := ⟨tg 920 (by decide +kernel) (by decide +kernel), tg 43 (by decide +kernel) (by decide +kernel)⟩
abbrev mX4_count : MD := (RX4, cX4_count, 2, (some .int), 4, 91)
set_option maxRecDepth 20000 in
theorem fvX4_count : FV yX4_count mX4_count 1 := ⟨by decide +kernel, tg 917 rfl rfl, tg 50 (by decide +kernel) (by decide +kernel), ⟨by decide +kernel, by decide +kernel⟩, by decide +kernel, rfl⟩
theorem fiX4_count : FI yX4_count := ⟨tg 915 (by decide +kernel) (by decide +kernel), tg 916 (by decide +kernel) (by decide +kernel)⟩
abbrev mJ6_bitCount_0f7a4 : MD := (RJ6, cJ6_bitCount_0f7a4, 1, (some .int), 0, 0)
set_option maxRecDepth 20000 in
theorem fvJ6_bitCount_0f7a4 : FV yJ6_bitCount_0f7a4 mJ6_bitCount_0f7a4 1 := ⟨by decide +kernel, tg 397 rfl rfl, tg 53 (by decide +kernel) (by decide +kernel), ⟨by decide +kernel, by decide +kernel⟩, by decide +kernel, rfl⟩
theorem fsJ6_bitCount_0f7a4 : FS yJ6_bitCount_0f7a4 := tg 396 (by decide +kernel) (by decide +kernel)
abbrev mJ7_fill_53178 : MD := (RJ7, cJ7_fill_53178, 4, none, 0, 0)
set_option maxRecDepth 20000 in
theorem fvJ7_fill_53178 : FV yJ7_fill_53178 mJ7_fill_53178 2 := ⟨by decide +kernel, tg 232 rfl rfl, tg 51 (by decide +kernel) (by decide +kernel), ⟨by decide +kernel, by decide +kernel⟩, by decide +kernel, rfl⟩
theorem fsJ7_fill_53178 : FS yJ7_fill_53178 := tg 231 (by decide +kernel) (by decide +kernel)
set_option maxRecDepth 20000 in
theorem mm_max : Cond.static Lib.Math.max.name ∈ TG ∧ Cond.initialized "java/lang/Math" ∈ TG ∧ Cond.code Lib.Math.max.name Lib.Math.max.code 2 (some .int) ∈ TG := ⟨tg 157 (by decide +kernel) (by decide +kernel), tg 49 (by decide +kernel) (by decide +kernel), tg 158 (by decide +kernel) (by decide +kernel)⟩
set_option maxRecDepth 20000 in
theorem mm_min : Cond.static Lib.Math.min.name ∈ TG ∧ Cond.initialized "java/lang/Math" ∈ TG ∧ Cond.code Lib.Math.min.name Lib.Math.min.code 2 (some .int) ∈ TG := ⟨tg 327 (by decide +kernel) (by decide +kernel), tg 49 (by decide +kernel) (by decide +kernel), tg 328 (by decide +kernel) (by decide +kernel)⟩
theorem acNat : Cond.native arraycopyName ∈ TG := tg 312 (by decide +kernel) (by decide +kernel)
theorem acSta : Cond.static arraycopyName ∈ TG := tg 311 (by decide +kernel) (by decide +kernel)
theorem acIni : Cond.initialized "java/lang/System" ∈ TG := tg 52 (by decide +kernel) (by decide +kernel)
