theorem dX5_strokeFault_14 : decode cX5_strokeFault 14 = .ok (.bipush 9, 2) := by decide +kernel
theorem dX5_strokeFault_16 : decode cX5_strokeFault 16 = .ok (.if_icmp .gt 9, 3) := by decide +kernel
theorem dX5_strokeFault_19 : decode cX5_strokeFault 19 = .ok (.iload_n 1, 1) := by decide +kernel
theorem dX5_strokeFault_20 : decode cX5_strokeFault 20 = .ok (.bipush 9, 2) := by decide +kernel
theorem dX5_strokeFault_22 : decode cX5_strokeFault 22 = .ok (.if_icmp .le 8, 3) := by decide +kernel
theorem dX5_strokeFault_25 : decode cX5_strokeFault 25 = .ok (.bipush (-6), 2) := by decide +kernel
theorem dX5_strokeFault_27 : decode cX5_strokeFault 27 = .ok (.goto 4, 3) := by decide +kernel
theorem dX5_strokeFault_30 : decode cX5_strokeFault 30 = .ok (.iconst 0, 1) := by decide +kernel
theorem dX5_strokeFault_31 : decode cX5_strokeFault 31 = .ok (.ireturn, 1) := by decide +kernel
theorem dX5_growthFault_0 : decode cX5_growthFault 0 = .ok (.iload_n 0, 1) := by decide +kernel
theorem dX5_growthFault_1 : decode cX5_growthFault 1 = .ok (.iload_n 1, 1) := by decide +kernel
theorem dX5_growthFault_2 : decode cX5_growthFault 2 = .ok (.invokestatic 179, 3) := by decide +kernel
theorem dX5_growthFault_5 : decode cX5_growthFault 5 = .ok (.istore_n 3, 1) := by decide +kernel
theorem dX5_growthFault_6 : decode cX5_growthFault 6 = .ok (.iload_n 2, 1) := by decide +kernel
theorem dX5_growthFault_7 : decode cX5_growthFault 7 = .ok (.iconst 2, 1) := by decide +kernel
theorem dX5_growthFault_8 : decode cX5_growthFault 8 = .ok (.bipush 9, 2) := by decide +kernel
theorem dX5_growthFault_10 : decode cX5_growthFault 10 = .ok (.invokestatic 49, 3) := by decide +kernel
theorem dX5_growthFault_13 : decode cX5_growthFault 13 = .ok (.istore 4, 2) := by decide +kernel
theorem dX5_growthFault_15 : decode cX5_growthFault 15 = .ok (.iload_n 3, 1) := by decide +kernel
theorem dX5_growthFault_16 : decode cX5_growthFault 16 = .ok (.bipush (-4), 2) := by decide +kernel
theorem dX5_growthFault_18 : decode cX5_growthFault 18 = .ok (.if_icmp .eq 10, 3) := by decide +kernel
theorem dX5_growthFault_21 : decode cX5_growthFault 21 = .ok (.iload 4, 2) := by decide +kernel
theorem dX5_growthFault_23 : decode cX5_growthFault 23 = .ok (.bipush (-4), 2) := by decide +kernel
theorem dX5_growthFault_25 : decode cX5_growthFault 25 = .ok (.if_icmp .ne 6, 3) := by decide +kernel
theorem dX5_growthFault_28 : decode cX5_growthFault 28 = .ok (.bipush (-4), 2) := by decide +kernel
theorem dX5_growthFault_30 : decode cX5_growthFault 30 = .ok (.ireturn, 1) := by decide +kernel
theorem dX5_growthFault_31 : decode cX5_growthFault 31 = .ok (.iload_n 3, 1) := by decide +kernel
theorem dX5_growthFault_32 : decode cX5_growthFault 32 = .ok (.ifCond .eq 7, 3) := by decide +kernel
theorem dX5_growthFault_35 : decode cX5_growthFault 35 = .ok (.iload_n 3, 1) := by decide +kernel
theorem dX5_growthFault_36 : decode cX5_growthFault 36 = .ok (.goto 5, 3) := by decide +kernel
theorem dX5_growthFault_39 : decode cX5_growthFault 39 = .ok (.iload 4, 2) := by decide +kernel
theorem dX5_growthFault_41 : decode cX5_growthFault 41 = .ok (.ireturn, 1) := by decide +kernel
theorem dX5_rangeFault_0 : decode cX5_rangeFault 0 = .ok (.iload_n 0, 1) := by decide +kernel
theorem dX5_rangeFault_1 : decode cX5_rangeFault 1 = .ok (.iload_n 1, 1) := by decide +kernel
theorem dX5_rangeFault_2 : decode cX5_rangeFault 2 = .ok (.if_icmp .ge 6, 3) := by decide +kernel
theorem dX5_rangeFault_5 : decode cX5_rangeFault 5 = .ok (.bipush (-4), 2) := by decide +kernel
theorem dX5_rangeFault_7 : decode cX5_rangeFault 7 = .ok (.ireturn, 1) := by decide +kernel
theorem dX5_rangeFault_8 : decode cX5_rangeFault 8 = .ok (.iload_n 0, 1) := by decide +kernel
theorem dX5_rangeFault_9 : decode cX5_rangeFault 9 = .ok (.iload_n 2, 1) := by decide +kernel
theorem dX5_rangeFault_10 : decode cX5_rangeFault 10 = .ok (.if_icmp .le 8, 3) := by decide +kernel
theorem dX5_rangeFault_13 : decode cX5_rangeFault 13 = .ok (.bipush (-6), 2) := by decide +kernel
theorem dX5_rangeFault_15 : decode cX5_rangeFault 15 = .ok (.goto 4, 3) := by decide +kernel
theorem dX5_rangeFault_18 : decode cX5_rangeFault 18 = .ok (.iconst 0, 1) := by decide +kernel
theorem dX5_rangeFault_19 : decode cX5_rangeFault 19 = .ok (.ireturn, 1) := by decide +kernel
theorem dX5_fitsSetting_0 : decode cX5_fitsSetting 0 = .ok (.iload_n 1, 1) := by decide +kernel
theorem dX5_fitsSetting_1 : decode cX5_fitsSetting 1 = .ok (.getstatic 87, 3) := by decide +kernel
theorem dX5_fitsSetting_4 : decode cX5_fitsSetting 4 = .ok (.iload_n 0, 1) := by decide +kernel
theorem dX5_fitsSetting_5 : decode cX5_fitsSetting 5 = .ok (.iaload, 1) := by decide +kernel
theorem dX5_fitsSetting_6 : decode cX5_fitsSetting 6 = .ok (.getstatic 90, 3) := by decide +kernel
theorem dX5_fitsSetting_9 : decode cX5_fitsSetting 9 = .ok (.iload_n 0, 1) := by decide +kernel
theorem dX5_fitsSetting_10 : decode cX5_fitsSetting 10 = .ok (.iaload, 1) := by decide +kernel
theorem dX5_fitsSetting_11 : decode cX5_fitsSetting 11 = .ok (.invokestatic 73, 3) := by decide +kernel
theorem dX5_fitsSetting_14 : decode cX5_fitsSetting 14 = .ok (.ireturn, 1) := by decide +kernel
theorem dX5_bestForFigures_0 : decode cX5_bestForFigures 0 = .ok (.iconst 0, 1) := by decide +kernel
theorem dX5_bestForFigures_1 : decode cX5_bestForFigures 1 = .ok (.istore_n 2, 1) := by decide +kernel
theorem dX5_bestForFigures_2 : decode cX5_bestForFigures 2 = .ok (.iconst 1, 1) := by decide +kernel
theorem dX5_bestForFigures_3 : decode cX5_bestForFigures 3 = .ok (.istore_n 3, 1) := by decide +kernel
theorem dX5_bestForFigures_4 : decode cX5_bestForFigures 4 = .ok (.iload_n 3, 1) := by decide +kernel
theorem dX5_bestForFigures_5 : decode cX5_bestForFigures 5 = .ok (.iload_n 0, 1) := by decide +kernel
theorem dX5_bestForFigures_6 : decode cX5_bestForFigures 6 = .ok (.if_icmp .gt 30, 3) := by decide +kernel
theorem dX5_bestForFigures_9 : decode cX5_bestForFigures 9 = .ok (.iload_n 3, 1) := by decide +kernel
theorem dX5_bestForFigures_10 : decode cX5_bestForFigures 10 = .ok (.iload_n 0, 1) := by decide +kernel
theorem dX5_bestForFigures_11 : decode cX5_bestForFigures 11 = .ok (.iload_n 3, 1) := by decide +kernel
theorem dX5_bestForFigures_12 : decode cX5_bestForFigures 12 = .ok (.isub, 1) := by decide +kernel
theorem dX5_bestForFigures_13 : decode cX5_bestForFigures 13 = .ok (.iload_n 1, 1) := by decide +kernel
theorem dX5_bestForFigures_14 : decode cX5_bestForFigures 14 = .ok (.invokestatic 229, 3) := by decide +kernel
theorem dX5_bestForFigures_17 : decode cX5_bestForFigures 17 = .ok (.iload_n 2, 1) := by decide +kernel
theorem dX5_bestForFigures_18 : decode cX5_bestForFigures 18 = .ok (.iload_n 0, 1) := by decide +kernel
theorem dX5_bestForFigures_19 : decode cX5_bestForFigures 19 = .ok (.iload_n 2, 1) := by decide +kernel
theorem dX5_bestForFigures_20 : decode cX5_bestForFigures 20 = .ok (.isub, 1) := by decide +kernel
theorem dX5_bestForFigures_21 : decode cX5_bestForFigures 21 = .ok (.iload_n 1, 1) := by decide +kernel
theorem dX5_bestForFigures_22 : decode cX5_bestForFigures 22 = .ok (.invokestatic 229, 3) := by decide +kernel
theorem dX5_bestForFigures_25 : decode cX5_bestForFigures 25 = .ok (.if_icmp .le 5, 3) := by decide +kernel
theorem dX5_bestForFigures_28 : decode cX5_bestForFigures 28 = .ok (.iload_n 3, 1) := by decide +kernel
theorem dX5_bestForFigures_29 : decode cX5_bestForFigures 29 = .ok (.istore_n 2, 1) := by decide +kernel
theorem dX5_bestForFigures_30 : decode cX5_bestForFigures 30 = .ok (.iinc 3 1, 3) := by decide +kernel
theorem dX5_bestForFigures_33 : decode cX5_bestForFigures 33 = .ok (.goto (-29), 3) := by decide +kernel
theorem dX5_bestForFigures_36 : decode cX5_bestForFigures 36 = .ok (.iload_n 2, 1) := by decide +kernel
theorem dX5_bestForFigures_37 : decode cX5_bestForFigures 37 = .ok (.ireturn, 1) := by decide +kernel
theorem dX5_marksTogether_0 : decode cX5_marksTogether 0 = .ok (.bipush 60, 2) := by decide +kernel
theorem dX5_marksTogether_2 : decode cX5_marksTogether 2 = .ok (.iload_n 0, 1) := by decide +kernel
theorem dX5_marksTogether_3 : decode cX5_marksTogether 3 = .ok (.imul, 1) := by decide +kernel
theorem dX5_marksTogether_4 : decode cX5_marksTogether 4 = .ok (.iload_n 0, 1) := by decide +kernel
theorem dX5_marksTogether_5 : decode cX5_marksTogether 5 = .ok (.iload_n 0, 1) := by decide +kernel
theorem dX5_marksTogether_6 : decode cX5_marksTogether 6 = .ok (.imul, 1) := by decide +kernel
theorem dX5_marksTogether_7 : decode cX5_marksTogether 7 = .ok (.isub, 1) := by decide +kernel
theorem dX5_marksTogether_8 : decode cX5_marksTogether 8 = .ok (.istore_n 3, 1) := by decide +kernel
theorem dX5_marksTogether_9 : decode cX5_marksTogether 9 = .ok (.bipush 40, 2) := by decide +kernel
theorem dX5_marksTogether_11 : decode cX5_marksTogether 11 = .ok (.iload_n 1, 1) := by decide +kernel
theorem dX5_marksTogether_12 : decode cX5_marksTogether 12 = .ok (.imul, 1) := by decide +kernel
theorem dX5_marksTogether_13 : decode cX5_marksTogether 13 = .ok (.iload_n 1, 1) := by decide +kernel
theorem dX5_marksTogether_14 : decode cX5_marksTogether 14 = .ok (.iload_n 1, 1) := by decide +kernel
theorem dX5_marksTogether_15 : decode cX5_marksTogether 15 = .ok (.imul, 1) := by decide +kernel
theorem dX5_marksTogether_16 : decode cX5_marksTogether 16 = .ok (.iconst 4, 1) := by decide +kernel
theorem dX5_marksTogether_17 : decode cX5_marksTogether 17 = .ok (.idiv, 1) := by decide +kernel
theorem dX5_marksTogether_18 : decode cX5_marksTogether 18 = .ok (.iadd, 1) := by decide +kernel
theorem dX5_marksTogether_19 : decode cX5_marksTogether 19 = .ok (.istore 4, 2) := by decide +kernel
theorem dX5_marksTogether_21 : decode cX5_marksTogether 21 = .ok (.iload_n 2, 1) := by decide +kernel
theorem dX5_marksTogether_22 : decode cX5_marksTogether 22 = .ok (.iload_n 3, 1) := by decide +kernel
theorem dX5_marksTogether_23 : decode cX5_marksTogether 23 = .ok (.imul, 1) := by decide +kernel
theorem dX5_marksTogether_24 : decode cX5_marksTogether 24 = .ok (.bipush 100, 2) := by decide +kernel
theorem dX5_marksTogether_26 : decode cX5_marksTogether 26 = .ok (.iload_n 2, 1) := by decide +kernel
theorem dX5_marksTogether_27 : decode cX5_marksTogether 27 = .ok (.isub, 1) := by decide +kernel
theorem dX5_marksTogether_28 : decode cX5_marksTogether 28 = .ok (.iload 4, 2) := by decide +kernel
theorem dX5_marksTogether_30 : decode cX5_marksTogether 30 = .ok (.imul, 1) := by decide +kernel
theorem dX5_marksTogether_31 : decode cX5_marksTogether 31 = .ok (.iadd, 1) := by decide +kernel
theorem dX5_marksTogether_32 : decode cX5_marksTogether 32 = .ok (.bipush 100, 2) := by decide +kernel
theorem dX5_marksTogether_34 : decode cX5_marksTogether 34 = .ok (.idiv, 1) := by decide +kernel
theorem dX5_marksTogether_35 : decode cX5_marksTogether 35 = .ok (.ireturn, 1) := by decide +kernel
theorem dX5_partOfFraction_0 : decode cX5_partOfFraction 0 = .ok (.iload_n 0, 1) := by decide +kernel
theorem dX5_partOfFraction_1 : decode cX5_partOfFraction 1 = .ok (.iload_n 1, 1) := by decide +kernel
theorem dX5_partOfFraction_2 : decode cX5_partOfFraction 2 = .ok (.invokestatic 253, 3) := by decide +kernel
theorem dX5_partOfFraction_5 : decode cX5_partOfFraction 5 = .ok (.istore_n 3, 1) := by decide +kernel
theorem dX5_partOfFraction_6 : decode cX5_partOfFraction 6 = .ok (.iload_n 3, 1) := by decide +kernel
theorem dX5_partOfFraction_7 : decode cX5_partOfFraction 7 = .ok (.ifCond .ne 13, 3) := by decide +kernel
theorem dX5_partOfFraction_10 : decode cX5_partOfFraction 10 = .ok (.iload_n 2, 1) := by decide +kernel
theorem dX5_partOfFraction_11 : decode cX5_partOfFraction 11 = .ok (.ifCond .ne 7, 3) := by decide +kernel
theorem dX5_partOfFraction_14 : decode cX5_partOfFraction 14 = .ok (.lconst 0, 1) := by decide +kernel
theorem dX5_partOfFraction_15 : decode cX5_partOfFraction 15 = .ok (.goto 4, 3) := by decide +kernel
theorem dX5_partOfFraction_18 : decode cX5_partOfFraction 18 = .ok (.lconst 1, 1) := by decide +kernel
theorem dX5_partOfFraction_19 : decode cX5_partOfFraction 19 = .ok (.lreturn, 1) := by decide +kernel
theorem dX5_partOfFraction_20 : decode cX5_partOfFraction 20 = .ok (.iload_n 2, 1) := by decide +kernel
theorem dX5_partOfFraction_21 : decode cX5_partOfFraction 21 = .ok (.ifCond .ne 10, 3) := by decide +kernel
theorem dX5_partOfFraction_24 : decode cX5_partOfFraction 24 = .ok (.iload_n 0, 1) := by decide +kernel
theorem dX5_partOfFraction_25 : decode cX5_partOfFraction 25 = .ok (.iload_n 3, 1) := by decide +kernel
theorem dX5_partOfFraction_26 : decode cX5_partOfFraction 26 = .ok (.idiv, 1) := by decide +kernel
theorem dX5_partOfFraction_27 : decode cX5_partOfFraction 27 = .ok (.i2l, 1) := by decide +kernel
theorem dX5_partOfFraction_28 : decode cX5_partOfFraction 28 = .ok (.goto 7, 3) := by decide +kernel
theorem dX5_partOfFraction_31 : decode cX5_partOfFraction 31 = .ok (.iload_n 1, 1) := by decide +kernel
theorem dX5_partOfFraction_32 : decode cX5_partOfFraction 32 = .ok (.iload_n 3, 1) := by decide +kernel
theorem dX5_partOfFraction_33 : decode cX5_partOfFraction 33 = .ok (.idiv, 1) := by decide +kernel
theorem dX5_partOfFraction_34 : decode cX5_partOfFraction 34 = .ok (.i2l, 1) := by decide +kernel
theorem dX5_partOfFraction_35 : decode cX5_partOfFraction 35 = .ok (.lreturn, 1) := by decide +kernel
theorem dX5_commonDivisor_0 : decode cX5_commonDivisor 0 = .ok (.iload_n 0, 1) := by decide +kernel
theorem dX5_commonDivisor_1 : decode cX5_commonDivisor 1 = .ok (.istore_n 2, 1) := by decide +kernel
theorem dX5_commonDivisor_2 : decode cX5_commonDivisor 2 = .ok (.iload_n 1, 1) := by decide +kernel
theorem dX5_commonDivisor_3 : decode cX5_commonDivisor 3 = .ok (.istore_n 3, 1) := by decide +kernel
theorem dX5_commonDivisor_4 : decode cX5_commonDivisor 4 = .ok (.iconst 0, 1) := by decide +kernel
theorem dX5_commonDivisor_5 : decode cX5_commonDivisor 5 = .ok (.istore 4, 2) := by decide +kernel
theorem dX5_commonDivisor_7 : decode cX5_commonDivisor 7 = .ok (.iload 4, 2) := by decide +kernel
theorem dX5_commonDivisor_9 : decode cX5_commonDivisor 9 = .ok (.bipush 64, 2) := by decide +kernel
theorem dX5_commonDivisor_11 : decode cX5_commonDivisor 11 = .ok (.if_icmp .ge 23, 3) := by decide +kernel
theorem dX5_commonDivisor_14 : decode cX5_commonDivisor 14 = .ok (.iload_n 3, 1) := by decide +kernel
theorem dX5_commonDivisor_15 : decode cX5_commonDivisor 15 = .ok (.ifCond .eq 19, 3) := by decide +kernel
theorem dX5_commonDivisor_18 : decode cX5_commonDivisor 18 = .ok (.iload_n 2, 1) := by decide +kernel
theorem dX5_commonDivisor_19 : decode cX5_commonDivisor 19 = .ok (.iload_n 3, 1) := by decide +kernel
theorem dX5_commonDivisor_20 : decode cX5_commonDivisor 20 = .ok (.irem, 1) := by decide +kernel
theorem dX5_commonDivisor_21 : decode cX5_commonDivisor 21 = .ok (.istore 5, 2) := by decide +kernel
theorem dX5_commonDivisor_23 : decode cX5_commonDivisor 23 = .ok (.iload_n 3, 1) := by decide +kernel
theorem dX5_commonDivisor_24 : decode cX5_commonDivisor 24 = .ok (.istore_n 2, 1) := by decide +kernel
theorem dX5_commonDivisor_25 : decode cX5_commonDivisor 25 = .ok (.iload 5, 2) := by decide +kernel
theorem dX5_commonDivisor_27 : decode cX5_commonDivisor 27 = .ok (.istore_n 3, 1) := by decide +kernel
theorem dX5_commonDivisor_28 : decode cX5_commonDivisor 28 = .ok (.iinc 4 1, 3) := by decide +kernel
theorem dX5_commonDivisor_31 : decode cX5_commonDivisor 31 = .ok (.goto (-24), 3) := by decide +kernel
theorem dX5_commonDivisor_34 : decode cX5_commonDivisor 34 = .ok (.iload_n 2, 1) := by decide +kernel
theorem dX5_commonDivisor_35 : decode cX5_commonDivisor 35 = .ok (.ireturn, 1) := by decide +kernel
theorem dX5_isFoot_0 : decode cX5_isFoot 0 = .ok (.iload_n 0, 1) := by decide +kernel
theorem dX5_isFoot_1 : decode cX5_isFoot 1 = .ok (.iconst 0, 1) := by decide +kernel
theorem dX5_isFoot_2 : decode cX5_isFoot 2 = .ok (.iconst 1, 1) := by decide +kernel
theorem dX5_isFoot_3 : decode cX5_isFoot 3 = .ok (.invokestatic 73, 3) := by decide +kernel
theorem dX5_isFoot_6 : decode cX5_isFoot 6 = .ok (.ireturn, 1) := by decide +kernel
theorem dX5_isHour_0 : decode cX5_isHour 0 = .ok (.iload_n 0, 1) := by decide +kernel
theorem dX5_isHour_1 : decode cX5_isHour 1 = .ok (.iconst 0, 1) := by decide +kernel
theorem dX5_isHour_2 : decode cX5_isHour 2 = .ok (.bipush 11, 2) := by decide +kernel
theorem dX5_isHour_4 : decode cX5_isHour 4 = .ok (.invokestatic 73, 3) := by decide +kernel
theorem dX5_isHour_7 : decode cX5_isHour 7 = .ok (.ireturn, 1) := by decide +kernel
theorem dX5_isSpot_0 : decode cX5_isSpot 0 = .ok (.iload_n 0, 1) := by decide +kernel
theorem dX5_isSpot_1 : decode cX5_isSpot 1 = .ok (.invokestatic 170, 3) := by decide +kernel
theorem dX5_isSpot_4 : decode cX5_isSpot 4 = .ok (.ifCond .eq 14, 3) := by decide +kernel
theorem dX5_isSpot_7 : decode cX5_isSpot 7 = .ok (.iload_n 1, 1) := by decide +kernel
theorem dX5_isSpot_8 : decode cX5_isSpot 8 = .ok (.invokestatic 115, 3) := by decide +kernel
theorem dX5_isSpot_11 : decode cX5_isSpot 11 = .ok (.ifCond .eq 7, 3) := by decide +kernel
theorem dX5_isSpot_14 : decode cX5_isSpot 14 = .ok (.iconst 1, 1) := by decide +kernel
theorem dX5_isSpot_15 : decode cX5_isSpot 15 = .ok (.goto 4, 3) := by decide +kernel
theorem dX5_isSpot_18 : decode cX5_isSpot 18 = .ok (.iconst 0, 1) := by decide +kernel
theorem dX5_isSpot_19 : decode cX5_isSpot 19 = .ok (.ireturn, 1) := by decide +kernel
theorem dX5_spot_0 : decode cX5_spot 0 = .ok (.iload_n 0, 1) := by decide +kernel
theorem dX5_spot_1 : decode cX5_spot 1 = .ok (.bipush 12, 2) := by decide +kernel
theorem dX5_spot_3 : decode cX5_spot 3 = .ok (.imul, 1) := by decide +kernel
theorem dX5_spot_4 : decode cX5_spot 4 = .ok (.iload_n 1, 1) := by decide +kernel
theorem dX5_spot_5 : decode cX5_spot 5 = .ok (.iadd, 1) := by decide +kernel
theorem dX5_spot_6 : decode cX5_spot 6 = .ok (.ireturn, 1) := by decide +kernel
theorem dX5_hourAhead_0 : decode cX5_hourAhead 0 = .ok (.iload_n 0, 1) := by decide +kernel
theorem dX5_hourAhead_1 : decode cX5_hourAhead 1 = .ok (.ifCond .ne 8, 3) := by decide +kernel
theorem dX5_hourAhead_4 : decode cX5_hourAhead 4 = .ok (.bipush 11, 2) := by decide +kernel
theorem dX5_hourAhead_6 : decode cX5_hourAhead 6 = .ok (.goto 6, 3) := by decide +kernel
theorem dX5_hourAhead_9 : decode cX5_hourAhead 9 = .ok (.iload_n 0, 1) := by decide +kernel
theorem dX5_hourAhead_10 : decode cX5_hourAhead 10 = .ok (.iconst 1, 1) := by decide +kernel
theorem dX5_hourAhead_11 : decode cX5_hourAhead 11 = .ok (.isub, 1) := by decide +kernel
theorem dX5_hourAhead_12 : decode cX5_hourAhead 12 = .ok (.ireturn, 1) := by decide +kernel
theorem dX5_hourBehind_0 : decode cX5_hourBehind 0 = .ok (.iload_n 0, 1) := by decide +kernel
theorem dX5_hourBehind_1 : decode cX5_hourBehind 1 = .ok (.bipush 11, 2) := by decide +kernel
theorem dX5_hourBehind_3 : decode cX5_hourBehind 3 = .ok (.if_icmp .ne 7, 3) := by decide +kernel
theorem dX5_hourBehind_6 : decode cX5_hourBehind 6 = .ok (.iconst 0, 1) := by decide +kernel
theorem dX5_hourBehind_7 : decode cX5_hourBehind 7 = .ok (.goto 6, 3) := by decide +kernel
theorem dX5_hourBehind_10 : decode cX5_hourBehind 10 = .ok (.iload_n 0, 1) := by decide +kernel
theorem dX5_hourBehind_11 : decode cX5_hourBehind 11 = .ok (.iconst 1, 1) := by decide +kernel
theorem dX5_hourBehind_12 : decode cX5_hourBehind 12 = .ok (.iadd, 1) := by decide +kernel
theorem dX5_hourBehind_13 : decode cX5_hourBehind 13 = .ok (.ireturn, 1) := by decide +kernel
theorem dX5_within_0 : decode cX5_within 0 = .ok (.iload_n 0, 1) := by decide +kernel
theorem dX5_within_1 : decode cX5_within 1 = .ok (.iload_n 1, 1) := by decide +kernel
theorem dX5_within_2 : decode cX5_within 2 = .ok (.if_icmp .lt 12, 3) := by decide +kernel
theorem dX5_within_5 : decode cX5_within 5 = .ok (.iload_n 0, 1) := by decide +kernel
theorem dX5_within_6 : decode cX5_within 6 = .ok (.iload_n 2, 1) := by decide +kernel
theorem dX5_within_7 : decode cX5_within 7 = .ok (.if_icmp .gt 7, 3) := by decide +kernel
theorem dX5_within_10 : decode cX5_within 10 = .ok (.iconst 1, 1) := by decide +kernel
theorem dX5_within_11 : decode cX5_within 11 = .ok (.goto 4, 3) := by decide +kernel
theorem dX5_within_14 : decode cX5_within 14 = .ok (.iconst 0, 1) := by decide +kernel
theorem dX5_within_15 : decode cX5_within 15 = .ok (.ireturn, 1) := by decide +kernel
theorem dX5_bounded_0 : decode cX5_bounded 0 = .ok (.iconst 0, 1) := by decide +kernel
theorem dX5_bounded_1 : decode cX5_bounded 1 = .ok (.iload_n 0, 1) := by decide +kernel
theorem dX5_bounded_2 : decode cX5_bounded 2 = .ok (.iload_n 1, 1) := by decide +kernel
theorem dX5_bounded_3 : decode cX5_bounded 3 = .ok (.invokestatic 256, 3) := by decide +kernel
theorem dX5_bounded_6 : decode cX5_bounded 6 = .ok (.invokestatic 261, 3) := by decide +kernel
theorem dX5_bounded_9 : decode cX5_bounded 9 = .ok (.ireturn, 1) := by decide +kernel
