theorem dX6_init_0 : decode cX6_init 0 = .ok (.aload_n 0, 1) := by decide +kernel
theorem dX6_init_1 : decode cX6_init 1 = .ok (.invokespecial 1, 3) := by decide +kernel
theorem dX6_init_4 : decode cX6_init 4 = .ok (.aload_n 0, 1) := by decide +kernel
theorem dX6_init_5 : decode cX6_init 5 = .ok (.bipush 24, 2) := by decide +kernel
theorem dX6_init_7 : decode cX6_init 7 = .ok (.newarray .int, 2) := by decide +kernel
theorem dX6_init_9 : decode cX6_init 9 = .ok (.putfield 7, 3) := by decide +kernel
theorem dX6_init_12 : decode cX6_init 12 = .ok (.aload_n 0, 1) := by decide +kernel
theorem dX6_init_13 : decode cX6_init 13 = .ok (.bipush 24, 2) := by decide +kernel
theorem dX6_init_15 : decode cX6_init 15 = .ok (.newarray .int, 2) := by decide +kernel
theorem dX6_init_17 : decode cX6_init 17 = .ok (.putfield 13, 3) := by decide +kernel
theorem dX6_init_20 : decode cX6_init 20 = .ok (.aload_n 0, 1) := by decide +kernel
theorem dX6_init_21 : decode cX6_init 21 = .ok (.iconst 5, 1) := by decide +kernel
theorem dX6_init_22 : decode cX6_init 22 = .ok (.newarray .int, 2) := by decide +kernel
theorem dX6_init_24 : decode cX6_init 24 = .ok (.putfield 16, 3) := by decide +kernel
theorem dX6_init_27 : decode cX6_init 27 = .ok (.aload_n 0, 1) := by decide +kernel
theorem dX6_init_28 : decode cX6_init 28 = .ok (.bipush 27, 2) := by decide +kernel
theorem dX6_init_30 : decode cX6_init 30 = .ok (.newarray .int, 2) := by decide +kernel
theorem dX6_init_32 : decode cX6_init 32 = .ok (.putfield 19, 3) := by decide +kernel
theorem dX6_init_35 : decode cX6_init 35 = .ok (.aload_n 0, 1) := by decide +kernel
theorem dX6_init_36 : decode cX6_init 36 = .ok (.bipush 27, 2) := by decide +kernel
theorem dX6_init_38 : decode cX6_init 38 = .ok (.newarray .int, 2) := by decide +kernel
theorem dX6_init_40 : decode cX6_init 40 = .ok (.putfield 22, 3) := by decide +kernel
theorem dX6_init_43 : decode cX6_init 43 = .ok (.aload_n 0, 1) := by decide +kernel
theorem dX6_init_44 : decode cX6_init 44 = .ok (.bipush 27, 2) := by decide +kernel
theorem dX6_init_46 : decode cX6_init 46 = .ok (.newarray .int, 2) := by decide +kernel
theorem dX6_init_48 : decode cX6_init 48 = .ok (.putfield 25, 3) := by decide +kernel
theorem dX6_init_51 : decode cX6_init 51 = .ok (.aload_n 0, 1) := by decide +kernel
theorem dX6_init_52 : decode cX6_init 52 = .ok (.sipush 324, 3) := by decide +kernel
theorem dX6_init_55 : decode cX6_init 55 = .ok (.newarray .int, 2) := by decide +kernel
theorem dX6_init_57 : decode cX6_init 57 = .ok (.putfield 28, 3) := by decide +kernel
theorem dX6_init_60 : decode cX6_init 60 = .ok (.aload_n 0, 1) := by decide +kernel
theorem dX6_init_61 : decode cX6_init 61 = .ok (.bipush 7, 2) := by decide +kernel
theorem dX6_init_63 : decode cX6_init 63 = .ok (.newarray .int, 2) := by decide +kernel
theorem dX6_init_65 : decode cX6_init 65 = .ok (.putfield 31, 3) := by decide +kernel
theorem dX6_init_68 : decode cX6_init 68 = .ok (.aload_n 0, 1) := by decide +kernel
theorem dX6_init_69 : decode cX6_init 69 = .ok (.bipush 96, 2) := by decide +kernel
theorem dX6_init_71 : decode cX6_init 71 = .ok (.newarray .int, 2) := by decide +kernel
theorem dX6_init_73 : decode cX6_init 73 = .ok (.putfield 34, 3) := by decide +kernel
theorem dX6_init_76 : decode cX6_init 76 = .ok (.aload_n 0, 1) := by decide +kernel
theorem dX6_init_77 : decode cX6_init 77 = .ok (.bipush 49, 2) := by decide +kernel
theorem dX6_init_79 : decode cX6_init 79 = .ok (.newarray .int, 2) := by decide +kernel
theorem dX6_init_81 : decode cX6_init 81 = .ok (.putfield 37, 3) := by decide +kernel
theorem dX6_init_84 : decode cX6_init 84 = .ok (.aload_n 0, 1) := by decide +kernel
theorem dX6_init_85 : decode cX6_init 85 = .ok (.bipush 49, 2) := by decide +kernel
theorem dX6_init_87 : decode cX6_init 87 = .ok (.newarray .int, 2) := by decide +kernel
theorem dX6_init_89 : decode cX6_init 89 = .ok (.putfield 40, 3) := by decide +kernel
theorem dX6_init_92 : decode cX6_init 92 = .ok (.aload_n 0, 1) := by decide +kernel
theorem dX6_init_93 : decode cX6_init 93 = .ok (.sipush 147, 3) := by decide +kernel
theorem dX6_init_96 : decode cX6_init 96 = .ok (.newarray .int, 2) := by decide +kernel
theorem dX6_init_98 : decode cX6_init 98 = .ok (.putfield 43, 3) := by decide +kernel
theorem dX6_init_101 : decode cX6_init 101 = .ok (.aload_n 0, 1) := by decide +kernel
theorem dX6_init_102 : decode cX6_init 102 = .ok (.sipush 146, 3) := by decide +kernel
theorem dX6_init_105 : decode cX6_init 105 = .ok (.newarray .int, 2) := by decide +kernel
theorem dX6_init_107 : decode cX6_init 107 = .ok (.putfield 46, 3) := by decide +kernel
theorem dX6_init_110 : decode cX6_init 110 = .ok (.aload_n 0, 1) := by decide +kernel
theorem dX6_init_111 : decode cX6_init 111 = .ok (.sipush 146, 3) := by decide +kernel
theorem dX6_init_114 : decode cX6_init 114 = .ok (.newarray .int, 2) := by decide +kernel
theorem dX6_init_116 : decode cX6_init 116 = .ok (.putfield 49, 3) := by decide +kernel
theorem dX6_init_119 : decode cX6_init 119 = .ok (.aload_n 0, 1) := by decide +kernel
theorem dX6_init_120 : decode cX6_init 120 = .ok (.bipush 12, 2) := by decide +kernel
theorem dX6_init_122 : decode cX6_init 122 = .ok (.newarray .int, 2) := by decide +kernel
theorem dX6_init_124 : decode cX6_init 124 = .ok (.putfield 52, 3) := by decide +kernel
theorem dX6_init_127 : decode cX6_init 127 = .ok (.aload_n 0, 1) := by decide +kernel
theorem dX6_init_128 : decode cX6_init 128 = .ok (.iconst 0, 1) := by decide +kernel
theorem dX6_init_129 : decode cX6_init 129 = .ok (.putfield 55, 3) := by decide +kernel
theorem dX6_init_132 : decode cX6_init 132 = .ok (.aload_n 0, 1) := by decide +kernel
theorem dX6_init_133 : decode cX6_init 133 = .ok (.getfield 16, 3) := by decide +kernel
theorem dX6_init_136 : decode cX6_init 136 = .ok (.iconst 0, 1) := by decide +kernel
theorem dX6_init_137 : decode cX6_init 137 = .ok (.bipush 40, 2) := by decide +kernel
theorem dX6_init_139 : decode cX6_init 139 = .ok (.iastore, 1) := by decide +kernel
theorem dX6_init_140 : decode cX6_init 140 = .ok (.aload_n 0, 1) := by decide +kernel
theorem dX6_init_141 : decode cX6_init 141 = .ok (.getfield 16, 3) := by decide +kernel
theorem dX6_init_144 : decode cX6_init 144 = .ok (.iconst 1, 1) := by decide +kernel
theorem dX6_init_145 : decode cX6_init 145 = .ok (.iconst 1, 1) := by decide +kernel
theorem dX6_init_146 : decode cX6_init 146 = .ok (.iastore, 1) := by decide +kernel
theorem dX6_init_147 : decode cX6_init 147 = .ok (.aload_n 0, 1) := by decide +kernel
theorem dX6_init_148 : decode cX6_init 148 = .ok (.getfield 16, 3) := by decide +kernel
theorem dX6_init_151 : decode cX6_init 151 = .ok (.iconst 2, 1) := by decide +kernel
theorem dX6_init_152 : decode cX6_init 152 = .ok (.bipush 60, 2) := by decide +kernel
theorem dX6_init_154 : decode cX6_init 154 = .ok (.iastore, 1) := by decide +kernel
theorem dX6_init_155 : decode cX6_init 155 = .ok (.return_, 1) := by decide +kernel
theorem dX6_in_0 : decode cX6_in 0 = .ok (.lload_n 0, 1) := by decide +kernel
theorem dX6_in_1 : decode cX6_in 1 = .ok (.lload_n 2, 1) := by decide +kernel
theorem dX6_in_2 : decode cX6_in 2 = .ok (.lcmp, 1) := by decide +kernel
theorem dX6_in_3 : decode cX6_in 3 = .ok (.ifCond .lt 14, 3) := by decide +kernel
theorem dX6_in_6 : decode cX6_in 6 = .ok (.lload_n 0, 1) := by decide +kernel
theorem dX6_in_7 : decode cX6_in 7 = .ok (.lload 4, 2) := by decide +kernel
theorem dX6_in_9 : decode cX6_in 9 = .ok (.lcmp, 1) := by decide +kernel
theorem dX6_in_10 : decode cX6_in 10 = .ok (.ifCond .gt 7, 3) := by decide +kernel
theorem dX6_in_13 : decode cX6_in 13 = .ok (.iconst 1, 1) := by decide +kernel
theorem dX6_in_14 : decode cX6_in 14 = .ok (.goto 4, 3) := by decide +kernel
theorem dX6_in_17 : decode cX6_in 17 = .ok (.iconst 0, 1) := by decide +kernel
theorem dX6_in_18 : decode cX6_in 18 = .ok (.ireturn, 1) := by decide +kernel
theorem dX6_refuse_0 : decode cX6_refuse 0 = .ok (.aload_n 0, 1) := by decide +kernel
theorem dX6_refuse_1 : decode cX6_refuse 1 = .ok (.getfield 31, 3) := by decide +kernel
theorem dX6_refuse_4 : decode cX6_refuse 4 = .ok (.iload_n 1, 1) := by decide +kernel
theorem dX6_refuse_5 : decode cX6_refuse 5 = .ok (.ineg, 1) := by decide +kernel
theorem dX6_refuse_6 : decode cX6_refuse 6 = .ok (.dup2, 1) := by decide +kernel
theorem dX6_refuse_7 : decode cX6_refuse 7 = .ok (.iaload, 1) := by decide +kernel
theorem dX6_refuse_8 : decode cX6_refuse 8 = .ok (.iconst 1, 1) := by decide +kernel
theorem dX6_refuse_9 : decode cX6_refuse 9 = .ok (.iadd, 1) := by decide +kernel
theorem dX6_refuse_10 : decode cX6_refuse 10 = .ok (.iastore, 1) := by decide +kernel
theorem dX6_refuse_11 : decode cX6_refuse 11 = .ok (.iload_n 1, 1) := by decide +kernel
theorem dX6_refuse_12 : decode cX6_refuse 12 = .ok (.ireturn, 1) := by decide +kernel
theorem dX6_isFoot_0 : decode cX6_isFoot 0 = .ok (.iload_n 0, 1) := by decide +kernel
theorem dX6_isFoot_1 : decode cX6_isFoot 1 = .ok (.i2l, 1) := by decide +kernel
theorem dX6_isFoot_2 : decode cX6_isFoot 2 = .ok (.lconst 0, 1) := by decide +kernel
theorem dX6_isFoot_3 : decode cX6_isFoot 3 = .ok (.lconst 1, 1) := by decide +kernel
theorem dX6_isFoot_4 : decode cX6_isFoot 4 = .ok (.invokestatic 59, 3) := by decide +kernel
theorem dX6_isFoot_7 : decode cX6_isFoot 7 = .ok (.ireturn, 1) := by decide +kernel
theorem dX6_isHour_0 : decode cX6_isHour 0 = .ok (.iload_n 0, 1) := by decide +kernel
theorem dX6_isHour_1 : decode cX6_isHour 1 = .ok (.i2l, 1) := by decide +kernel
theorem dX6_isHour_2 : decode cX6_isHour 2 = .ok (.lconst 0, 1) := by decide +kernel
theorem dX6_isHour_3 : decode cX6_isHour 3 = .ok (.ldc2_w 63, 3) := by decide +kernel
theorem dX6_isHour_6 : decode cX6_isHour 6 = .ok (.invokestatic 59, 3) := by decide +kernel
theorem dX6_isHour_9 : decode cX6_isHour 9 = .ok (.ireturn, 1) := by decide +kernel
theorem dX6_isTrace_0 : decode cX6_isTrace 0 = .ok (.iload_n 1, 1) := by decide +kernel
theorem dX6_isTrace_1 : decode cX6_isTrace 1 = .ok (.i2l, 1) := by decide +kernel
theorem dX6_isTrace_2 : decode cX6_isTrace 2 = .ok (.lconst 0, 1) := by decide +kernel
theorem dX6_isTrace_3 : decode cX6_isTrace 3 = .ok (.aload_n 0, 1) := by decide +kernel
theorem dX6_isTrace_4 : decode cX6_isTrace 4 = .ok (.getfield 65, 3) := by decide +kernel
theorem dX6_isTrace_7 : decode cX6_isTrace 7 = .ok (.iconst 1, 1) := by decide +kernel
theorem dX6_isTrace_8 : decode cX6_isTrace 8 = .ok (.isub, 1) := by decide +kernel
theorem dX6_isTrace_9 : decode cX6_isTrace 9 = .ok (.i2l, 1) := by decide +kernel
theorem dX6_isTrace_10 : decode cX6_isTrace 10 = .ok (.invokestatic 59, 3) := by decide +kernel
theorem dX6_isTrace_13 : decode cX6_isTrace 13 = .ok (.ireturn, 1) := by decide +kernel
theorem dX6_wrongNumber_0 : decode cX6_wrongNumber 0 = .ok (.iload_n 0, 1) := by decide +kernel
theorem dX6_wrongNumber_1 : decode cX6_wrongNumber 1 = .ok (.iload_n 1, 1) := by decide +kernel
theorem dX6_wrongNumber_2 : decode cX6_wrongNumber 2 = .ok (.if_icmp .ge 8, 3) := by decide +kernel
theorem dX6_wrongNumber_5 : decode cX6_wrongNumber 5 = .ok (.bipush (-4), 2) := by decide +kernel
theorem dX6_wrongNumber_7 : decode cX6_wrongNumber 7 = .ok (.goto 14, 3) := by decide +kernel
theorem dX6_wrongNumber_10 : decode cX6_wrongNumber 10 = .ok (.iload_n 0, 1) := by decide +kernel
theorem dX6_wrongNumber_11 : decode cX6_wrongNumber 11 = .ok (.iload_n 2, 1) := by decide +kernel
theorem dX6_wrongNumber_12 : decode cX6_wrongNumber 12 = .ok (.if_icmp .le 8, 3) := by decide +kernel
theorem dX6_wrongNumber_15 : decode cX6_wrongNumber 15 = .ok (.bipush (-6), 2) := by decide +kernel
theorem dX6_wrongNumber_17 : decode cX6_wrongNumber 17 = .ok (.goto 4, 3) := by decide +kernel
theorem dX6_wrongNumber_20 : decode cX6_wrongNumber 20 = .ok (.iconst 0, 1) := by decide +kernel
theorem dX6_wrongNumber_21 : decode cX6_wrongNumber 21 = .ok (.ireturn, 1) := by decide +kernel
theorem dX6_wrongTwo_0 : decode cX6_wrongTwo 0 = .ok (.iload_n 0, 1) := by decide +kernel
theorem dX6_wrongTwo_1 : decode cX6_wrongTwo 1 = .ok (.iconst 1, 1) := by decide +kernel
theorem dX6_wrongTwo_2 : decode cX6_wrongTwo 2 = .ok (.if_icmp .lt 8, 3) := by decide +kernel
theorem dX6_wrongTwo_5 : decode cX6_wrongTwo 5 = .ok (.iload_n 1, 1) := by decide +kernel
theorem dX6_wrongTwo_6 : decode cX6_wrongTwo 6 = .ok (.iconst 1, 1) := by decide +kernel
theorem dX6_wrongTwo_7 : decode cX6_wrongTwo 7 = .ok (.if_icmp .ge 8, 3) := by decide +kernel
theorem dX6_wrongTwo_10 : decode cX6_wrongTwo 10 = .ok (.bipush (-4), 2) := by decide +kernel
theorem dX6_wrongTwo_12 : decode cX6_wrongTwo 12 = .ok (.goto 21, 3) := by decide +kernel
theorem dX6_wrongTwo_15 : decode cX6_wrongTwo 15 = .ok (.iload_n 0, 1) := by decide +kernel
theorem dX6_wrongTwo_16 : decode cX6_wrongTwo 16 = .ok (.bipush 9, 2) := by decide +kernel
theorem dX6_wrongTwo_18 : decode cX6_wrongTwo 18 = .ok (.if_icmp .gt 9, 3) := by decide +kernel
theorem dX6_wrongTwo_21 : decode cX6_wrongTwo 21 = .ok (.iload_n 1, 1) := by decide +kernel
theorem dX6_wrongTwo_22 : decode cX6_wrongTwo 22 = .ok (.bipush 9, 2) := by decide +kernel
theorem dX6_wrongTwo_24 : decode cX6_wrongTwo 24 = .ok (.if_icmp .le 8, 3) := by decide +kernel
theorem dX6_wrongTwo_27 : decode cX6_wrongTwo 27 = .ok (.bipush (-6), 2) := by decide +kernel
theorem dX6_wrongTwo_29 : decode cX6_wrongTwo 29 = .ok (.goto 4, 3) := by decide +kernel
theorem dX6_wrongTwo_32 : decode cX6_wrongTwo 32 = .ok (.iconst 0, 1) := by decide +kernel
theorem dX6_wrongTwo_33 : decode cX6_wrongTwo 33 = .ok (.ireturn, 1) := by decide +kernel
theorem dX6_plainly_0 : decode cX6_plainly 0 = .ok (.iload_n 0, 1) := by decide +kernel
theorem dX6_plainly_1 : decode cX6_plainly 1 = .ok (.ifCond .ge 8, 3) := by decide +kernel
theorem dX6_plainly_4 : decode cX6_plainly 4 = .ok (.iload_n 0, 1) := by decide +kernel
theorem dX6_plainly_5 : decode cX6_plainly 5 = .ok (.ineg, 1) := by decide +kernel
theorem dX6_plainly_6 : decode cX6_plainly 6 = .ok (.goto 4, 3) := by decide +kernel
theorem dX6_plainly_9 : decode cX6_plainly 9 = .ok (.iload_n 0, 1) := by decide +kernel
theorem dX6_plainly_10 : decode cX6_plainly 10 = .ok (.ireturn, 1) := by decide +kernel
theorem dX6_held_0 : decode cX6_held 0 = .ok (.iload_n 0, 1) := by decide +kernel
theorem dX6_held_1 : decode cX6_held 1 = .ok (.ifCond .ge 7, 3) := by decide +kernel
theorem dX6_held_4 : decode cX6_held 4 = .ok (.iconst 0, 1) := by decide +kernel
theorem dX6_held_5 : decode cX6_held 5 = .ok (.goto 13, 3) := by decide +kernel
theorem dX6_held_8 : decode cX6_held 8 = .ok (.iload_n 0, 1) := by decide +kernel
theorem dX6_held_9 : decode cX6_held 9 = .ok (.iload_n 1, 1) := by decide +kernel
theorem dX6_held_10 : decode cX6_held 10 = .ok (.if_icmp .le 7, 3) := by decide +kernel
theorem dX6_held_13 : decode cX6_held 13 = .ok (.iload_n 1, 1) := by decide +kernel
theorem dX6_held_14 : decode cX6_held 14 = .ok (.goto 4, 3) := by decide +kernel
theorem dX6_held_17 : decode cX6_held 17 = .ok (.iload_n 0, 1) := by decide +kernel
theorem dX6_held_18 : decode cX6_held 18 = .ok (.ireturn, 1) := by decide +kernel
theorem dX6_ones_0 : decode cX6_ones 0 = .ok (.iconst 0, 1) := by decide +kernel
theorem dX6_ones_1 : decode cX6_ones 1 = .ok (.istore_n 1, 1) := by decide +kernel
theorem dX6_ones_2 : decode cX6_ones 2 = .ok (.iload_n 0, 1) := by decide +kernel
theorem dX6_ones_3 : decode cX6_ones 3 = .ok (.istore_n 2, 1) := by decide +kernel
theorem dX6_ones_4 : decode cX6_ones 4 = .ok (.iload_n 2, 1) := by decide +kernel
theorem dX6_ones_5 : decode cX6_ones 5 = .ok (.ifCond .eq 15, 3) := by decide +kernel
theorem dX6_ones_8 : decode cX6_ones 8 = .ok (.iinc 1 1, 3) := by decide +kernel
theorem dX6_ones_11 : decode cX6_ones 11 = .ok (.iload_n 2, 1) := by decide +kernel
theorem dX6_ones_12 : decode cX6_ones 12 = .ok (.iload_n 2, 1) := by decide +kernel
theorem dX6_ones_13 : decode cX6_ones 13 = .ok (.iconst 1, 1) := by decide +kernel
theorem dX6_ones_14 : decode cX6_ones 14 = .ok (.isub, 1) := by decide +kernel
theorem dX6_ones_15 : decode cX6_ones 15 = .ok (.iand, 1) := by decide +kernel
theorem dX6_ones_16 : decode cX6_ones 16 = .ok (.istore_n 2, 1) := by decide +kernel
theorem dX6_ones_17 : decode cX6_ones 17 = .ok (.goto (-13), 3) := by decide +kernel
theorem dX6_ones_20 : decode cX6_ones 20 = .ok (.iload_n 1, 1) := by decide +kernel
theorem dX6_ones_21 : decode cX6_ones 21 = .ok (.ireturn, 1) := by decide +kernel
theorem dX6_paceAt_0 : decode cX6_paceAt 0 = .ok (.bipush 60, 2) := by decide +kernel
theorem dX6_paceAt_2 : decode cX6_paceAt 2 = .ok (.iload_n 2, 1) := by decide +kernel
theorem dX6_paceAt_3 : decode cX6_paceAt 3 = .ok (.imul, 1) := by decide +kernel
theorem dX6_paceAt_4 : decode cX6_paceAt 4 = .ok (.istore 4, 2) := by decide +kernel
theorem dX6_paceAt_6 : decode cX6_paceAt 6 = .ok (.iconst 1, 1) := by decide +kernel
theorem dX6_paceAt_7 : decode cX6_paceAt 7 = .ok (.istore 5, 2) := by decide +kernel
theorem dX6_paceAt_9 : decode cX6_paceAt 9 = .ok (.iload 5, 2) := by decide +kernel
theorem dX6_paceAt_11 : decode cX6_paceAt 11 = .ok (.iload_n 3, 1) := by decide +kernel
theorem dX6_paceAt_12 : decode cX6_paceAt 12 = .ok (.if_icmp .gt 48, 3) := by decide +kernel
theorem dX6_paceAt_15 : decode cX6_paceAt 15 = .ok (.iload 4, 2) := by decide +kernel
theorem dX6_paceAt_17 : decode cX6_paceAt 17 = .ok (.iconst 3, 1) := by decide +kernel
theorem dX6_paceAt_18 : decode cX6_paceAt 18 = .ok (.aload_n 0, 1) := by decide +kernel
theorem dX6_paceAt_19 : decode cX6_paceAt 19 = .ok (.getfield 16, 3) := by decide +kernel
theorem dX6_paceAt_22 : decode cX6_paceAt 22 = .ok (.iconst 1, 1) := by decide +kernel
theorem dX6_paceAt_23 : decode cX6_paceAt 23 = .ok (.iaload, 1) := by decide +kernel
theorem dX6_paceAt_24 : decode cX6_paceAt 24 = .ok (.aload_n 0, 1) := by decide +kernel
theorem dX6_paceAt_25 : decode cX6_paceAt 25 = .ok (.getfield 7, 3) := by decide +kernel
theorem dX6_paceAt_28 : decode cX6_paceAt 28 = .ok (.bipush 12, 2) := by decide +kernel
theorem dX6_paceAt_30 : decode cX6_paceAt 30 = .ok (.iload_n 1, 1) := by decide +kernel
theorem dX6_paceAt_31 : decode cX6_paceAt 31 = .ok (.imul, 1) := by decide +kernel
theorem dX6_paceAt_32 : decode cX6_paceAt 32 = .ok (.iload 5, 2) := by decide +kernel
theorem dX6_paceAt_34 : decode cX6_paceAt 34 = .ok (.iadd, 1) := by decide +kernel
theorem dX6_paceAt_35 : decode cX6_paceAt 35 = .ok (.iaload, 1) := by decide +kernel
theorem dX6_paceAt_36 : decode cX6_paceAt 36 = .ok (.iadd, 1) := by decide +kernel
theorem dX6_paceAt_37 : decode cX6_paceAt 37 = .ok (.imul, 1) := by decide +kernel
theorem dX6_paceAt_38 : decode cX6_paceAt 38 = .ok (.isub, 1) := by decide +kernel
theorem dX6_paceAt_39 : decode cX6_paceAt 39 = .ok (.istore 4, 2) := by decide +kernel
theorem dX6_paceAt_41 : decode cX6_paceAt 41 = .ok (.iload 4, 2) := by decide +kernel
theorem dX6_paceAt_43 : decode cX6_paceAt 43 = .ok (.ifCond .ge 7, 3) := by decide +kernel
theorem dX6_paceAt_46 : decode cX6_paceAt 46 = .ok (.iconst 0, 1) := by decide +kernel
theorem dX6_paceAt_47 : decode cX6_paceAt 47 = .ok (.goto 5, 3) := by decide +kernel
theorem dX6_paceAt_50 : decode cX6_paceAt 50 = .ok (.iload 4, 2) := by decide +kernel
theorem dX6_paceAt_52 : decode cX6_paceAt 52 = .ok (.istore 4, 2) := by decide +kernel
theorem dX6_paceAt_54 : decode cX6_paceAt 54 = .ok (.iinc 5 1, 3) := by decide +kernel
theorem dX6_paceAt_57 : decode cX6_paceAt 57 = .ok (.goto (-48), 3) := by decide +kernel
theorem dX6_paceAt_60 : decode cX6_paceAt 60 = .ok (.iload 4, 2) := by decide +kernel
theorem dX6_paceAt_62 : decode cX6_paceAt 62 = .ok (.ireturn, 1) := by decide +kernel
theorem dX6_latestAhead_0 : decode cX6_latestAhead 0 = .ok (.iload_n 2, 1) := by decide +kernel
theorem dX6_latestAhead_1 : decode cX6_latestAhead 1 = .ok (.iconst 1, 1) := by decide +kernel
theorem dX6_latestAhead_2 : decode cX6_latestAhead 2 = .ok (.isub, 1) := by decide +kernel
theorem dX6_latestAhead_3 : decode cX6_latestAhead 3 = .ok (.istore_n 3, 1) := by decide +kernel
theorem dX6_latestAhead_4 : decode cX6_latestAhead 4 = .ok (.iload_n 3, 1) := by decide +kernel
theorem dX6_latestAhead_5 : decode cX6_latestAhead 5 = .ok (.ifCond .lt 19, 3) := by decide +kernel
theorem dX6_latestAhead_8 : decode cX6_latestAhead 8 = .ok (.aload_n 0, 1) := by decide +kernel
theorem dX6_latestAhead_9 : decode cX6_latestAhead 9 = .ok (.getfield 19, 3) := by decide +kernel
theorem dX6_latestAhead_12 : decode cX6_latestAhead 12 = .ok (.iload_n 3, 1) := by decide +kernel
theorem dX6_latestAhead_13 : decode cX6_latestAhead 13 = .ok (.iaload, 1) := by decide +kernel
theorem dX6_latestAhead_14 : decode cX6_latestAhead 14 = .ok (.iload_n 1, 1) := by decide +kernel
theorem dX6_latestAhead_15 : decode cX6_latestAhead 15 = .ok (.if_icmp .eq 9, 3) := by decide +kernel
theorem dX6_latestAhead_18 : decode cX6_latestAhead 18 = .ok (.iinc 3 (-1), 3) := by decide +kernel
theorem dX6_latestAhead_21 : decode cX6_latestAhead 21 = .ok (.goto (-17), 3) := by decide +kernel
theorem dX6_latestAhead_24 : decode cX6_latestAhead 24 = .ok (.iload_n 3, 1) := by decide +kernel
theorem dX6_latestAhead_25 : decode cX6_latestAhead 25 = .ok (.ireturn, 1) := by decide +kernel
theorem dX6_lookedAt_0 : decode cX6_lookedAt 0 = .ok (.aload_n 0, 1) := by decide +kernel
theorem dX6_lookedAt_1 : decode cX6_lookedAt 1 = .ok (.iload_n 2, 1) := by decide +kernel
theorem dX6_lookedAt_2 : decode cX6_lookedAt 2 = .ok (.aload_n 0, 1) := by decide +kernel
theorem dX6_lookedAt_3 : decode cX6_lookedAt 3 = .ok (.getfield 65, 3) := by decide +kernel
theorem dX6_lookedAt_6 : decode cX6_lookedAt 6 = .ok (.invokevirtual 68, 3) := by decide +kernel
theorem dX6_lookedAt_9 : decode cX6_lookedAt 9 = .ok (.istore 4, 2) := by decide +kernel
theorem dX6_lookedAt_11 : decode cX6_lookedAt 11 = .ok (.iload 4, 2) := by decide +kernel
theorem dX6_lookedAt_13 : decode cX6_lookedAt 13 = .ok (.ifCond .ge 7, 3) := by decide +kernel
theorem dX6_lookedAt_16 : decode cX6_lookedAt 16 = .ok (.iload_n 1, 1) := by decide +kernel
theorem dX6_lookedAt_17 : decode cX6_lookedAt 17 = .ok (.goto 27, 3) := by decide +kernel
theorem dX6_lookedAt_20 : decode cX6_lookedAt 20 = .ok (.iload_n 1, 1) := by decide +kernel
theorem dX6_lookedAt_21 : decode cX6_lookedAt 21 = .ok (.aload_n 0, 1) := by decide +kernel
theorem dX6_lookedAt_22 : decode cX6_lookedAt 22 = .ok (.getfield 28, 3) := by decide +kernel
theorem dX6_lookedAt_25 : decode cX6_lookedAt 25 = .ok (.bipush 12, 2) := by decide +kernel
theorem dX6_lookedAt_27 : decode cX6_lookedAt 27 = .ok (.iload 4, 2) := by decide +kernel
theorem dX6_lookedAt_29 : decode cX6_lookedAt 29 = .ok (.imul, 1) := by decide +kernel
theorem dX6_lookedAt_30 : decode cX6_lookedAt 30 = .ok (.iload_n 3, 1) := by decide +kernel
theorem dX6_lookedAt_31 : decode cX6_lookedAt 31 = .ok (.iadd, 1) := by decide +kernel
theorem dX6_lookedAt_32 : decode cX6_lookedAt 32 = .ok (.iaload, 1) := by decide +kernel
theorem dX6_lookedAt_33 : decode cX6_lookedAt 33 = .ok (.iload_n 1, 1) := by decide +kernel
theorem dX6_lookedAt_34 : decode cX6_lookedAt 34 = .ok (.isub, 1) := by decide +kernel
theorem dX6_lookedAt_35 : decode cX6_lookedAt 35 = .ok (.iconst 2, 1) := by decide +kernel
theorem dX6_lookedAt_36 : decode cX6_lookedAt 36 = .ok (.idiv, 1) := by decide +kernel
theorem dX6_lookedAt_37 : decode cX6_lookedAt 37 = .ok (.iadd, 1) := by decide +kernel
theorem dX6_lookedAt_38 : decode cX6_lookedAt 38 = .ok (.sipush 999, 3) := by decide +kernel
theorem dX6_lookedAt_41 : decode cX6_lookedAt 41 = .ok (.invokestatic 72, 3) := by decide +kernel
theorem dX6_lookedAt_44 : decode cX6_lookedAt 44 = .ok (.ireturn, 1) := by decide +kernel
theorem dX6_wobbledBy_0 : decode cX6_wobbledBy 0 = .ok (.iload_n 1, 1) := by decide +kernel
theorem dX6_wobbledBy_1 : decode cX6_wobbledBy 1 = .ok (.aload_n 0, 1) := by decide +kernel
theorem dX6_wobbledBy_2 : decode cX6_wobbledBy 2 = .ok (.getfield 75, 3) := by decide +kernel
theorem dX6_wobbledBy_5 : decode cX6_wobbledBy 5 = .ok (.if_icmp .ne 10, 3) := by decide +kernel
theorem dX6_wobbledBy_8 : decode cX6_wobbledBy 8 = .ok (.aload_n 0, 1) := by decide +kernel
theorem dX6_wobbledBy_9 : decode cX6_wobbledBy 9 = .ok (.getfield 75, 3) := by decide +kernel
theorem dX6_wobbledBy_12 : decode cX6_wobbledBy 12 = .ok (.goto 22, 3) := by decide +kernel
theorem dX6_wobbledBy_15 : decode cX6_wobbledBy 15 = .ok (.iload_n 1, 1) := by decide +kernel
theorem dX6_wobbledBy_16 : decode cX6_wobbledBy 16 = .ok (.aload_n 0, 1) := by decide +kernel
theorem dX6_wobbledBy_17 : decode cX6_wobbledBy 17 = .ok (.getfield 75, 3) := by decide +kernel
theorem dX6_wobbledBy_20 : decode cX6_wobbledBy 20 = .ok (.iconst 1, 1) := by decide +kernel
theorem dX6_wobbledBy_21 : decode cX6_wobbledBy 21 = .ok (.iadd, 1) := by decide +kernel
theorem dX6_wobbledBy_22 : decode cX6_wobbledBy 22 = .ok (.if_icmp .ne 11, 3) := by decide +kernel
theorem dX6_wobbledBy_25 : decode cX6_wobbledBy 25 = .ok (.aload_n 0, 1) := by decide +kernel
theorem dX6_wobbledBy_26 : decode cX6_wobbledBy 26 = .ok (.getfield 75, 3) := by decide +kernel
theorem dX6_wobbledBy_29 : decode cX6_wobbledBy 29 = .ok (.ineg, 1) := by decide +kernel
theorem dX6_wobbledBy_30 : decode cX6_wobbledBy 30 = .ok (.goto 4, 3) := by decide +kernel
theorem dX6_wobbledBy_33 : decode cX6_wobbledBy 33 = .ok (.iconst 0, 1) := by decide +kernel
theorem dX6_wobbledBy_34 : decode cX6_wobbledBy 34 = .ok (.ireturn, 1) := by decide +kernel
theorem dX6_radiusBy_0 : decode cX6_radiusBy 0 = .ok (.aload_n 0, 1) := by decide +kernel
theorem dX6_radiusBy_1 : decode cX6_radiusBy 1 = .ok (.iload_n 2, 1) := by decide +kernel
theorem dX6_radiusBy_2 : decode cX6_radiusBy 2 = .ok (.iload_n 3, 1) := by decide +kernel
theorem dX6_radiusBy_3 : decode cX6_radiusBy 3 = .ok (.iload 5, 2) := by decide +kernel
theorem dX6_radiusBy_5 : decode cX6_radiusBy 5 = .ok (.invokevirtual 78, 3) := by decide +kernel
theorem dX6_radiusBy_8 : decode cX6_radiusBy 8 = .ok (.iload 4, 2) := by decide +kernel
theorem dX6_radiusBy_10 : decode cX6_radiusBy 10 = .ok (.idiv, 1) := by decide +kernel
theorem dX6_radiusBy_11 : decode cX6_radiusBy 11 = .ok (.sipush 999, 3) := by decide +kernel
theorem dX6_radiusBy_14 : decode cX6_radiusBy 14 = .ok (.invokestatic 72, 3) := by decide +kernel
theorem dX6_radiusBy_17 : decode cX6_radiusBy 17 = .ok (.istore 6, 2) := by decide +kernel
theorem dX6_radiusBy_19 : decode cX6_radiusBy 19 = .ok (.iload 6, 2) := by decide +kernel
theorem dX6_radiusBy_21 : decode cX6_radiusBy 21 = .ok (.aload_n 0, 1) := by decide +kernel
theorem dX6_radiusBy_22 : decode cX6_radiusBy 22 = .ok (.getfield 16, 3) := by decide +kernel
theorem dX6_radiusBy_25 : decode cX6_radiusBy 25 = .ok (.iconst 0, 1) := by decide +kernel
theorem dX6_radiusBy_26 : decode cX6_radiusBy 26 = .ok (.iaload, 1) := by decide +kernel
theorem dX6_radiusBy_27 : decode cX6_radiusBy 27 = .ok (.iload 6, 2) := by decide +kernel
theorem dX6_radiusBy_29 : decode cX6_radiusBy 29 = .ok (.isub, 1) := by decide +kernel
theorem dX6_radiusBy_30 : decode cX6_radiusBy 30 = .ok (.iconst 4, 1) := by decide +kernel
theorem dX6_radiusBy_31 : decode cX6_radiusBy 31 = .ok (.idiv, 1) := by decide +kernel
theorem dX6_radiusBy_32 : decode cX6_radiusBy 32 = .ok (.iadd, 1) := by decide +kernel
theorem dX6_radiusBy_33 : decode cX6_radiusBy 33 = .ok (.sipush 999, 3) := by decide +kernel
theorem dX6_radiusBy_36 : decode cX6_radiusBy 36 = .ok (.invokestatic 72, 3) := by decide +kernel
theorem dX6_radiusBy_39 : decode cX6_radiusBy 39 = .ok (.istore 7, 2) := by decide +kernel
theorem dX6_radiusBy_41 : decode cX6_radiusBy 41 = .ok (.iload_n 1, 1) := by decide +kernel
theorem dX6_radiusBy_42 : decode cX6_radiusBy 42 = .ok (.tableswitch 100 0 5 #[38, 41, 51, 54, 70, 84], 38) := by decide +kernel
theorem dX6_radiusBy_80 : decode cX6_radiusBy 80 = .ok (.iload 6, 2) := by decide +kernel
theorem dX6_radiusBy_82 : decode cX6_radiusBy 82 = .ok (.ireturn, 1) := by decide +kernel
theorem dX6_radiusBy_83 : decode cX6_radiusBy 83 = .ok (.aload_n 0, 1) := by decide +kernel
theorem dX6_radiusBy_84 : decode cX6_radiusBy 84 = .ok (.iload 6, 2) := by decide +kernel
theorem dX6_radiusBy_86 : decode cX6_radiusBy 86 = .ok (.iload_n 2, 1) := by decide +kernel
theorem dX6_radiusBy_87 : decode cX6_radiusBy 87 = .ok (.iload 5, 2) := by decide +kernel
theorem dX6_radiusBy_89 : decode cX6_radiusBy 89 = .ok (.invokevirtual 82, 3) := by decide +kernel
theorem dX6_radiusBy_92 : decode cX6_radiusBy 92 = .ok (.ireturn, 1) := by decide +kernel
theorem dX6_radiusBy_93 : decode cX6_radiusBy 93 = .ok (.iload 7, 2) := by decide +kernel
theorem dX6_radiusBy_95 : decode cX6_radiusBy 95 = .ok (.ireturn, 1) := by decide +kernel
theorem dX6_radiusBy_96 : decode cX6_radiusBy 96 = .ok (.aload_n 0, 1) := by decide +kernel
theorem dX6_radiusBy_97 : decode cX6_radiusBy 97 = .ok (.iload 6, 2) := by decide +kernel
theorem dX6_radiusBy_99 : decode cX6_radiusBy 99 = .ok (.iload_n 2, 1) := by decide +kernel
theorem dX6_radiusBy_100 : decode cX6_radiusBy 100 = .ok (.iload 5, 2) := by decide +kernel
theorem dX6_radiusBy_102 : decode cX6_radiusBy 102 = .ok (.bipush 11, 2) := by decide +kernel
theorem dX6_radiusBy_104 : decode cX6_radiusBy 104 = .ok (.iadd, 1) := by decide +kernel
theorem dX6_radiusBy_105 : decode cX6_radiusBy 105 = .ok (.bipush 12, 2) := by decide +kernel
theorem dX6_radiusBy_107 : decode cX6_radiusBy 107 = .ok (.irem, 1) := by decide +kernel
theorem dX6_radiusBy_108 : decode cX6_radiusBy 108 = .ok (.invokevirtual 82, 3) := by decide +kernel
theorem dX6_radiusBy_111 : decode cX6_radiusBy 111 = .ok (.ireturn, 1) := by decide +kernel
theorem dX6_radiusBy_112 : decode cX6_radiusBy 112 = .ok (.iload 6, 2) := by decide +kernel
theorem dX6_radiusBy_114 : decode cX6_radiusBy 114 = .ok (.iload 5, 2) := by decide +kernel
theorem dX6_radiusBy_116 : decode cX6_radiusBy 116 = .ok (.iconst 2, 1) := by decide +kernel
theorem dX6_radiusBy_117 : decode cX6_radiusBy 117 = .ok (.irem, 1) := by decide +kernel
theorem dX6_radiusBy_118 : decode cX6_radiusBy 118 = .ok (.iadd, 1) := by decide +kernel
theorem dX6_radiusBy_119 : decode cX6_radiusBy 119 = .ok (.sipush 999, 3) := by decide +kernel
theorem dX6_radiusBy_122 : decode cX6_radiusBy 122 = .ok (.invokestatic 72, 3) := by decide +kernel
theorem dX6_radiusBy_125 : decode cX6_radiusBy 125 = .ok (.ireturn, 1) := by decide +kernel
theorem dX6_radiusBy_126 : decode cX6_radiusBy 126 = .ok (.iload 7, 2) := by decide +kernel
theorem dX6_radiusBy_128 : decode cX6_radiusBy 128 = .ok (.aload_n 0, 1) := by decide +kernel
theorem dX6_radiusBy_129 : decode cX6_radiusBy 129 = .ok (.iload 5, 2) := by decide +kernel
theorem dX6_radiusBy_131 : decode cX6_radiusBy 131 = .ok (.invokevirtual 85, 3) := by decide +kernel
theorem dX6_radiusBy_134 : decode cX6_radiusBy 134 = .ok (.iadd, 1) := by decide +kernel
theorem dX6_radiusBy_135 : decode cX6_radiusBy 135 = .ok (.sipush 999, 3) := by decide +kernel
theorem dX6_radiusBy_138 : decode cX6_radiusBy 138 = .ok (.invokestatic 72, 3) := by decide +kernel
theorem dX6_radiusBy_141 : decode cX6_radiusBy 141 = .ok (.ireturn, 1) := by decide +kernel
theorem dX6_radiusBy_142 : decode cX6_radiusBy 142 = .ok (.aload_n 0, 1) := by decide +kernel
theorem dX6_radiusBy_143 : decode cX6_radiusBy 143 = .ok (.aload_n 0, 1) := by decide +kernel
theorem dX6_radiusBy_144 : decode cX6_radiusBy 144 = .ok (.iload 6, 2) := by decide +kernel
theorem dX6_radiusBy_146 : decode cX6_radiusBy 146 = .ok (.iload_n 2, 1) := by decide +kernel
theorem dX6_radiusBy_147 : decode cX6_radiusBy 147 = .ok (.iload 5, 2) := by decide +kernel
theorem dX6_radiusBy_149 : decode cX6_radiusBy 149 = .ok (.invokevirtual 82, 3) := by decide +kernel
theorem dX6_radiusBy_152 : decode cX6_radiusBy 152 = .ok (.iload_n 2, 1) := by decide +kernel
theorem dX6_radiusBy_153 : decode cX6_radiusBy 153 = .ok (.iload 5, 2) := by decide +kernel
theorem dX6_radiusBy_155 : decode cX6_radiusBy 155 = .ok (.invokevirtual 89, 3) := by decide +kernel
theorem dX6_radiusBy_158 : decode cX6_radiusBy 158 = .ok (.ireturn, 1) := by decide +kernel
theorem dX6_strays_0 : decode cX6_strays 0 = .ok (.aload_n 0, 1) := by decide +kernel
theorem dX6_strays_1 : decode cX6_strays 1 = .ok (.getfield 13, 3) := by decide +kernel
theorem dX6_strays_4 : decode cX6_strays 4 = .ok (.bipush 12, 2) := by decide +kernel
theorem dX6_strays_6 : decode cX6_strays 6 = .ok (.iload_n 2, 1) := by decide +kernel
theorem dX6_strays_7 : decode cX6_strays 7 = .ok (.imul, 1) := by decide +kernel
theorem dX6_strays_8 : decode cX6_strays 8 = .ok (.iload_n 3, 1) := by decide +kernel
theorem dX6_strays_9 : decode cX6_strays 9 = .ok (.iadd, 1) := by decide +kernel
theorem dX6_strays_10 : decode cX6_strays 10 = .ok (.iaload, 1) := by decide +kernel
theorem dX6_strays_11 : decode cX6_strays 11 = .ok (.istore 4, 2) := by decide +kernel
theorem dX6_strays_13 : decode cX6_strays 13 = .ok (.iload 4, 2) := by decide +kernel
theorem dX6_strays_15 : decode cX6_strays 15 = .ok (.ifCond .ne 7, 3) := by decide +kernel
theorem dX6_strays_18 : decode cX6_strays 18 = .ok (.iload_n 1, 1) := by decide +kernel
theorem dX6_strays_19 : decode cX6_strays 19 = .ok (.goto 23, 3) := by decide +kernel
theorem dX6_strays_22 : decode cX6_strays 22 = .ok (.iload_n 1, 1) := by decide +kernel
theorem dX6_strays_23 : decode cX6_strays 23 = .ok (.iload 4, 2) := by decide +kernel
theorem dX6_strays_25 : decode cX6_strays 25 = .ok (.iload_n 1, 1) := by decide +kernel
theorem dX6_strays_26 : decode cX6_strays 26 = .ok (.isub, 1) := by decide +kernel
theorem dX6_strays_27 : decode cX6_strays 27 = .ok (.aload_n 0, 1) := by decide +kernel
theorem dX6_strays_28 : decode cX6_strays 28 = .ok (.getfield 75, 3) := by decide +kernel
theorem dX6_strays_31 : decode cX6_strays 31 = .ok (.imul, 1) := by decide +kernel
theorem dX6_strays_32 : decode cX6_strays 32 = .ok (.bipush 10, 2) := by decide +kernel
theorem dX6_strays_34 : decode cX6_strays 34 = .ok (.idiv, 1) := by decide +kernel
theorem dX6_strays_35 : decode cX6_strays 35 = .ok (.iadd, 1) := by decide +kernel
theorem dX6_strays_36 : decode cX6_strays 36 = .ok (.sipush 999, 3) := by decide +kernel
theorem dX6_strays_39 : decode cX6_strays 39 = .ok (.invokestatic 72, 3) := by decide +kernel
theorem dX6_strays_42 : decode cX6_strays 42 = .ok (.ireturn, 1) := by decide +kernel
theorem dX6_drawBy_0 : decode cX6_drawBy 0 = .ok (.aload_n 0, 1) := by decide +kernel
theorem dX6_drawBy_1 : decode cX6_drawBy 1 = .ok (.getfield 65, 3) := by decide +kernel
theorem dX6_drawBy_4 : decode cX6_drawBy 4 = .ok (.istore 5, 2) := by decide +kernel
theorem dX6_drawBy_6 : decode cX6_drawBy 6 = .ok (.iconst 0, 1) := by decide +kernel
theorem dX6_drawBy_7 : decode cX6_drawBy 7 = .ok (.istore 6, 2) := by decide +kernel
theorem dX6_drawBy_9 : decode cX6_drawBy 9 = .ok (.iload 6, 2) := by decide +kernel
theorem dX6_drawBy_11 : decode cX6_drawBy 11 = .ok (.bipush 12, 2) := by decide +kernel
theorem dX6_drawBy_13 : decode cX6_drawBy 13 = .ok (.if_icmp .ge 33, 3) := by decide +kernel
theorem dX6_drawBy_16 : decode cX6_drawBy 16 = .ok (.aload_n 0, 1) := by decide +kernel
theorem dX6_drawBy_17 : decode cX6_drawBy 17 = .ok (.getfield 28, 3) := by decide +kernel
theorem dX6_drawBy_20 : decode cX6_drawBy 20 = .ok (.bipush 12, 2) := by decide +kernel
theorem dX6_drawBy_22 : decode cX6_drawBy 22 = .ok (.iload 5, 2) := by decide +kernel
theorem dX6_drawBy_24 : decode cX6_drawBy 24 = .ok (.imul, 1) := by decide +kernel
theorem dX6_drawBy_25 : decode cX6_drawBy 25 = .ok (.iload 6, 2) := by decide +kernel
theorem dX6_drawBy_27 : decode cX6_drawBy 27 = .ok (.iadd, 1) := by decide +kernel
theorem dX6_drawBy_28 : decode cX6_drawBy 28 = .ok (.aload_n 0, 1) := by decide +kernel
theorem dX6_drawBy_29 : decode cX6_drawBy 29 = .ok (.iload_n 1, 1) := by decide +kernel
theorem dX6_drawBy_30 : decode cX6_drawBy 30 = .ok (.iload_n 2, 1) := by decide +kernel
theorem dX6_drawBy_31 : decode cX6_drawBy 31 = .ok (.iload_n 3, 1) := by decide +kernel
theorem dX6_drawBy_32 : decode cX6_drawBy 32 = .ok (.iload 4, 2) := by decide +kernel
theorem dX6_drawBy_34 : decode cX6_drawBy 34 = .ok (.iload 6, 2) := by decide +kernel
theorem dX6_drawBy_36 : decode cX6_drawBy 36 = .ok (.invokevirtual 92, 3) := by decide +kernel
theorem dX6_drawBy_39 : decode cX6_drawBy 39 = .ok (.iastore, 1) := by decide +kernel
theorem dX6_drawBy_40 : decode cX6_drawBy 40 = .ok (.iinc 6 1, 3) := by decide +kernel
theorem dX6_drawBy_43 : decode cX6_drawBy 43 = .ok (.goto (-34), 3) := by decide +kernel
theorem dX6_drawBy_46 : decode cX6_drawBy 46 = .ok (.aload_n 0, 1) := by decide +kernel
theorem dX6_drawBy_47 : decode cX6_drawBy 47 = .ok (.getfield 19, 3) := by decide +kernel
theorem dX6_drawBy_50 : decode cX6_drawBy 50 = .ok (.iload 5, 2) := by decide +kernel
theorem dX6_drawBy_52 : decode cX6_drawBy 52 = .ok (.iload_n 2, 1) := by decide +kernel
theorem dX6_drawBy_53 : decode cX6_drawBy 53 = .ok (.iastore, 1) := by decide +kernel
theorem dX6_drawBy_54 : decode cX6_drawBy 54 = .ok (.aload_n 0, 1) := by decide +kernel
theorem dX6_drawBy_55 : decode cX6_drawBy 55 = .ok (.getfield 22, 3) := by decide +kernel
theorem dX6_drawBy_58 : decode cX6_drawBy 58 = .ok (.iload 5, 2) := by decide +kernel
theorem dX6_drawBy_60 : decode cX6_drawBy 60 = .ok (.iload_n 3, 1) := by decide +kernel
theorem dX6_drawBy_61 : decode cX6_drawBy 61 = .ok (.iastore, 1) := by decide +kernel
theorem dX6_drawBy_62 : decode cX6_drawBy 62 = .ok (.aload_n 0, 1) := by decide +kernel
theorem dX6_drawBy_63 : decode cX6_drawBy 63 = .ok (.getfield 25, 3) := by decide +kernel
theorem dX6_drawBy_66 : decode cX6_drawBy 66 = .ok (.iload 5, 2) := by decide +kernel
theorem dX6_drawBy_68 : decode cX6_drawBy 68 = .ok (.iload 4, 2) := by decide +kernel
theorem dX6_drawBy_70 : decode cX6_drawBy 70 = .ok (.iastore, 1) := by decide +kernel
theorem dX6_drawBy_71 : decode cX6_drawBy 71 = .ok (.aload_n 0, 1) := by decide +kernel
theorem dX6_drawBy_72 : decode cX6_drawBy 72 = .ok (.dup, 1) := by decide +kernel
theorem dX6_drawBy_73 : decode cX6_drawBy 73 = .ok (.getfield 65, 3) := by decide +kernel
theorem dX6_drawBy_76 : decode cX6_drawBy 76 = .ok (.iconst 1, 1) := by decide +kernel
theorem dX6_drawBy_77 : decode cX6_drawBy 77 = .ok (.iadd, 1) := by decide +kernel
theorem dX6_drawBy_78 : decode cX6_drawBy 78 = .ok (.putfield 65, 3) := by decide +kernel
theorem dX6_drawBy_81 : decode cX6_drawBy 81 = .ok (.iload 5, 2) := by decide +kernel
theorem dX6_drawBy_83 : decode cX6_drawBy 83 = .ok (.ireturn, 1) := by decide +kernel
theorem dX6_roundOf_0 : decode cX6_roundOf 0 = .ok (.iconst 0, 1) := by decide +kernel
theorem dX6_roundOf_1 : decode cX6_roundOf 1 = .ok (.istore_n 2, 1) := by decide +kernel
theorem dX6_roundOf_2 : decode cX6_roundOf 2 = .ok (.sipush 999, 3) := by decide +kernel
theorem dX6_roundOf_5 : decode cX6_roundOf 5 = .ok (.istore_n 3, 1) := by decide +kernel
theorem dX6_roundOf_6 : decode cX6_roundOf 6 = .ok (.iconst 0, 1) := by decide +kernel
theorem dX6_roundOf_7 : decode cX6_roundOf 7 = .ok (.istore 4, 2) := by decide +kernel
theorem dX6_roundOf_9 : decode cX6_roundOf 9 = .ok (.iload 4, 2) := by decide +kernel
theorem dX6_roundOf_11 : decode cX6_roundOf 11 = .ok (.bipush 12, 2) := by decide +kernel
theorem dX6_roundOf_13 : decode cX6_roundOf 13 = .ok (.if_icmp .ge 49, 3) := by decide +kernel
theorem dX6_roundOf_16 : decode cX6_roundOf 16 = .ok (.aload_n 0, 1) := by decide +kernel
theorem dX6_roundOf_17 : decode cX6_roundOf 17 = .ok (.getfield 28, 3) := by decide +kernel
theorem dX6_roundOf_20 : decode cX6_roundOf 20 = .ok (.bipush 12, 2) := by decide +kernel
theorem dX6_roundOf_22 : decode cX6_roundOf 22 = .ok (.iload_n 1, 1) := by decide +kernel
theorem dX6_roundOf_23 : decode cX6_roundOf 23 = .ok (.imul, 1) := by decide +kernel
theorem dX6_roundOf_24 : decode cX6_roundOf 24 = .ok (.iload 4, 2) := by decide +kernel
theorem dX6_roundOf_26 : decode cX6_roundOf 26 = .ok (.iadd, 1) := by decide +kernel
theorem dX6_roundOf_27 : decode cX6_roundOf 27 = .ok (.iaload, 1) := by decide +kernel
theorem dX6_roundOf_28 : decode cX6_roundOf 28 = .ok (.istore 5, 2) := by decide +kernel
theorem dX6_roundOf_30 : decode cX6_roundOf 30 = .ok (.iload 5, 2) := by decide +kernel
theorem dX6_roundOf_32 : decode cX6_roundOf 32 = .ok (.iload_n 2, 1) := by decide +kernel
theorem dX6_roundOf_33 : decode cX6_roundOf 33 = .ok (.if_icmp .le 8, 3) := by decide +kernel
theorem dX6_roundOf_36 : decode cX6_roundOf 36 = .ok (.iload 5, 2) := by decide +kernel
theorem dX6_roundOf_38 : decode cX6_roundOf 38 = .ok (.goto 4, 3) := by decide +kernel
theorem dX6_roundOf_41 : decode cX6_roundOf 41 = .ok (.iload_n 2, 1) := by decide +kernel
theorem dX6_roundOf_42 : decode cX6_roundOf 42 = .ok (.istore_n 2, 1) := by decide +kernel
theorem dX6_roundOf_43 : decode cX6_roundOf 43 = .ok (.iload 5, 2) := by decide +kernel
theorem dX6_roundOf_45 : decode cX6_roundOf 45 = .ok (.iload_n 3, 1) := by decide +kernel
theorem dX6_roundOf_46 : decode cX6_roundOf 46 = .ok (.if_icmp .ge 8, 3) := by decide +kernel
theorem dX6_roundOf_49 : decode cX6_roundOf 49 = .ok (.iload 5, 2) := by decide +kernel
theorem dX6_roundOf_51 : decode cX6_roundOf 51 = .ok (.goto 4, 3) := by decide +kernel
theorem dX6_roundOf_54 : decode cX6_roundOf 54 = .ok (.iload_n 3, 1) := by decide +kernel
theorem dX6_roundOf_55 : decode cX6_roundOf 55 = .ok (.istore_n 3, 1) := by decide +kernel
theorem dX6_roundOf_56 : decode cX6_roundOf 56 = .ok (.iinc 4 1, 3) := by decide +kernel
theorem dX6_roundOf_59 : decode cX6_roundOf 59 = .ok (.goto (-50), 3) := by decide +kernel
theorem dX6_roundOf_62 : decode cX6_roundOf 62 = .ok (.iload_n 2, 1) := by decide +kernel
theorem dX6_roundOf_63 : decode cX6_roundOf 63 = .ok (.iload_n 3, 1) := by decide +kernel
theorem dX6_roundOf_64 : decode cX6_roundOf 64 = .ok (.isub, 1) := by decide +kernel
theorem dX6_roundOf_65 : decode cX6_roundOf 65 = .ok (.ireturn, 1) := by decide +kernel
theorem dX6_gapOf_0 : decode cX6_gapOf 0 = .ok (.aload_n 0, 1) := by decide +kernel
theorem dX6_gapOf_1 : decode cX6_gapOf 1 = .ok (.getfield 28, 3) := by decide +kernel
theorem dX6_gapOf_4 : decode cX6_gapOf 4 = .ok (.bipush 12, 2) := by decide +kernel
theorem dX6_gapOf_6 : decode cX6_gapOf 6 = .ok (.iload_n 1, 1) := by decide +kernel
theorem dX6_gapOf_7 : decode cX6_gapOf 7 = .ok (.imul, 1) := by decide +kernel
theorem dX6_gapOf_8 : decode cX6_gapOf 8 = .ok (.bipush 11, 2) := by decide +kernel
theorem dX6_gapOf_10 : decode cX6_gapOf 10 = .ok (.iadd, 1) := by decide +kernel
theorem dX6_gapOf_11 : decode cX6_gapOf 11 = .ok (.iaload, 1) := by decide +kernel
theorem dX6_gapOf_12 : decode cX6_gapOf 12 = .ok (.aload_n 0, 1) := by decide +kernel
theorem dX6_gapOf_13 : decode cX6_gapOf 13 = .ok (.getfield 28, 3) := by decide +kernel
theorem dX6_gapOf_16 : decode cX6_gapOf 16 = .ok (.bipush 12, 2) := by decide +kernel
theorem dX6_gapOf_18 : decode cX6_gapOf 18 = .ok (.iload_n 1, 1) := by decide +kernel
theorem dX6_gapOf_19 : decode cX6_gapOf 19 = .ok (.imul, 1) := by decide +kernel
theorem dX6_gapOf_20 : decode cX6_gapOf 20 = .ok (.iaload, 1) := by decide +kernel
theorem dX6_gapOf_21 : decode cX6_gapOf 21 = .ok (.isub, 1) := by decide +kernel
theorem dX6_gapOf_22 : decode cX6_gapOf 22 = .ok (.invokestatic 96, 3) := by decide +kernel
theorem dX6_gapOf_25 : decode cX6_gapOf 25 = .ok (.ireturn, 1) := by decide +kernel
theorem dX6_offOf_0 : decode cX6_offOf 0 = .ok (.iconst 0, 1) := by decide +kernel
theorem dX6_offOf_1 : decode cX6_offOf 1 = .ok (.istore_n 2, 1) := by decide +kernel
theorem dX6_offOf_2 : decode cX6_offOf 2 = .ok (.iconst 0, 1) := by decide +kernel
theorem dX6_offOf_3 : decode cX6_offOf 3 = .ok (.istore_n 3, 1) := by decide +kernel
theorem dX6_offOf_4 : decode cX6_offOf 4 = .ok (.iload_n 3, 1) := by decide +kernel
theorem dX6_offOf_5 : decode cX6_offOf 5 = .ok (.bipush 12, 2) := by decide +kernel
theorem dX6_offOf_7 : decode cX6_offOf 7 = .ok (.if_icmp .ge 33, 3) := by decide +kernel
theorem dX6_offOf_10 : decode cX6_offOf 10 = .ok (.iload_n 2, 1) := by decide +kernel
theorem dX6_offOf_11 : decode cX6_offOf 11 = .ok (.aload_n 0, 1) := by decide +kernel
theorem dX6_offOf_12 : decode cX6_offOf 12 = .ok (.getfield 28, 3) := by decide +kernel
theorem dX6_offOf_15 : decode cX6_offOf 15 = .ok (.bipush 12, 2) := by decide +kernel
theorem dX6_offOf_17 : decode cX6_offOf 17 = .ok (.iload_n 1, 1) := by decide +kernel
theorem dX6_offOf_18 : decode cX6_offOf 18 = .ok (.imul, 1) := by decide +kernel
theorem dX6_offOf_19 : decode cX6_offOf 19 = .ok (.iload_n 3, 1) := by decide +kernel
theorem dX6_offOf_20 : decode cX6_offOf 20 = .ok (.iadd, 1) := by decide +kernel
theorem dX6_offOf_21 : decode cX6_offOf 21 = .ok (.iaload, 1) := by decide +kernel
theorem dX6_offOf_22 : decode cX6_offOf 22 = .ok (.aload_n 0, 1) := by decide +kernel
theorem dX6_offOf_23 : decode cX6_offOf 23 = .ok (.getfield 16, 3) := by decide +kernel
theorem dX6_offOf_26 : decode cX6_offOf 26 = .ok (.iconst 0, 1) := by decide +kernel
theorem dX6_offOf_27 : decode cX6_offOf 27 = .ok (.iaload, 1) := by decide +kernel
theorem dX6_offOf_28 : decode cX6_offOf 28 = .ok (.isub, 1) := by decide +kernel
theorem dX6_offOf_29 : decode cX6_offOf 29 = .ok (.invokestatic 96, 3) := by decide +kernel
theorem dX6_offOf_32 : decode cX6_offOf 32 = .ok (.iadd, 1) := by decide +kernel
theorem dX6_offOf_33 : decode cX6_offOf 33 = .ok (.istore_n 2, 1) := by decide +kernel
theorem dX6_offOf_34 : decode cX6_offOf 34 = .ok (.iinc 3 1, 3) := by decide +kernel
theorem dX6_offOf_37 : decode cX6_offOf 37 = .ok (.goto (-33), 3) := by decide +kernel
theorem dX6_offOf_40 : decode cX6_offOf 40 = .ok (.iload_n 2, 1) := by decide +kernel
theorem dX6_offOf_41 : decode cX6_offOf 41 = .ok (.ireturn, 1) := by decide +kernel
theorem dX6_wobbleAt_0 : decode cX6_wobbleAt 0 = .ok (.iconst 2, 1) := by decide +kernel
theorem dX6_wobbleAt_1 : decode cX6_wobbleAt 1 = .ok (.aload_n 0, 1) := by decide +kernel
theorem dX6_wobbleAt_2 : decode cX6_wobbleAt 2 = .ok (.getfield 28, 3) := by decide +kernel
theorem dX6_wobbleAt_5 : decode cX6_wobbleAt 5 = .ok (.bipush 12, 2) := by decide +kernel
theorem dX6_wobbleAt_7 : decode cX6_wobbleAt 7 = .ok (.iload_n 1, 1) := by decide +kernel
theorem dX6_wobbleAt_8 : decode cX6_wobbleAt 8 = .ok (.imul, 1) := by decide +kernel
theorem dX6_wobbleAt_9 : decode cX6_wobbleAt 9 = .ok (.iload_n 2, 1) := by decide +kernel
theorem dX6_wobbleAt_10 : decode cX6_wobbleAt 10 = .ok (.iadd, 1) := by decide +kernel
theorem dX6_wobbleAt_11 : decode cX6_wobbleAt 11 = .ok (.iaload, 1) := by decide +kernel
theorem dX6_wobbleAt_12 : decode cX6_wobbleAt 12 = .ok (.imul, 1) := by decide +kernel
theorem dX6_wobbleAt_13 : decode cX6_wobbleAt 13 = .ok (.aload_n 0, 1) := by decide +kernel
theorem dX6_wobbleAt_14 : decode cX6_wobbleAt 14 = .ok (.getfield 28, 3) := by decide +kernel
theorem dX6_wobbleAt_17 : decode cX6_wobbleAt 17 = .ok (.bipush 12, 2) := by decide +kernel
theorem dX6_wobbleAt_19 : decode cX6_wobbleAt 19 = .ok (.iload_n 1, 1) := by decide +kernel
theorem dX6_wobbleAt_20 : decode cX6_wobbleAt 20 = .ok (.imul, 1) := by decide +kernel
theorem dX6_wobbleAt_21 : decode cX6_wobbleAt 21 = .ok (.iload_n 2, 1) := by decide +kernel
theorem dX6_wobbleAt_22 : decode cX6_wobbleAt 22 = .ok (.bipush 11, 2) := by decide +kernel
theorem dX6_wobbleAt_24 : decode cX6_wobbleAt 24 = .ok (.iadd, 1) := by decide +kernel
theorem dX6_wobbleAt_25 : decode cX6_wobbleAt 25 = .ok (.bipush 12, 2) := by decide +kernel
theorem dX6_wobbleAt_27 : decode cX6_wobbleAt 27 = .ok (.irem, 1) := by decide +kernel
theorem dX6_wobbleAt_28 : decode cX6_wobbleAt 28 = .ok (.iadd, 1) := by decide +kernel
theorem dX6_wobbleAt_29 : decode cX6_wobbleAt 29 = .ok (.iaload, 1) := by decide +kernel
theorem dX6_wobbleAt_30 : decode cX6_wobbleAt 30 = .ok (.isub, 1) := by decide +kernel
theorem dX6_wobbleAt_31 : decode cX6_wobbleAt 31 = .ok (.aload_n 0, 1) := by decide +kernel
theorem dX6_wobbleAt_32 : decode cX6_wobbleAt 32 = .ok (.getfield 28, 3) := by decide +kernel
theorem dX6_wobbleAt_35 : decode cX6_wobbleAt 35 = .ok (.bipush 12, 2) := by decide +kernel
theorem dX6_wobbleAt_37 : decode cX6_wobbleAt 37 = .ok (.iload_n 1, 1) := by decide +kernel
theorem dX6_wobbleAt_38 : decode cX6_wobbleAt 38 = .ok (.imul, 1) := by decide +kernel
theorem dX6_wobbleAt_39 : decode cX6_wobbleAt 39 = .ok (.iload_n 2, 1) := by decide +kernel
theorem dX6_wobbleAt_40 : decode cX6_wobbleAt 40 = .ok (.iconst 1, 1) := by decide +kernel
theorem dX6_wobbleAt_41 : decode cX6_wobbleAt 41 = .ok (.iadd, 1) := by decide +kernel
theorem dX6_wobbleAt_42 : decode cX6_wobbleAt 42 = .ok (.bipush 12, 2) := by decide +kernel
theorem dX6_wobbleAt_44 : decode cX6_wobbleAt 44 = .ok (.irem, 1) := by decide +kernel
theorem dX6_wobbleAt_45 : decode cX6_wobbleAt 45 = .ok (.iadd, 1) := by decide +kernel
theorem dX6_wobbleAt_46 : decode cX6_wobbleAt 46 = .ok (.iaload, 1) := by decide +kernel
theorem dX6_wobbleAt_47 : decode cX6_wobbleAt 47 = .ok (.isub, 1) := by decide +kernel
theorem dX6_wobbleAt_48 : decode cX6_wobbleAt 48 = .ok (.invokestatic 96, 3) := by decide +kernel
theorem dX6_wobbleAt_51 : decode cX6_wobbleAt 51 = .ok (.ireturn, 1) := by decide +kernel
theorem dX6_wobbleHour_0 : decode cX6_wobbleHour 0 = .ok (.iconst 0, 1) := by decide +kernel
theorem dX6_wobbleHour_1 : decode cX6_wobbleHour 1 = .ok (.istore_n 2, 1) := by decide +kernel
theorem dX6_wobbleHour_2 : decode cX6_wobbleHour 2 = .ok (.iconst 1, 1) := by decide +kernel
theorem dX6_wobbleHour_3 : decode cX6_wobbleHour 3 = .ok (.istore_n 3, 1) := by decide +kernel
theorem dX6_wobbleHour_4 : decode cX6_wobbleHour 4 = .ok (.iload_n 3, 1) := by decide +kernel
theorem dX6_wobbleHour_5 : decode cX6_wobbleHour 5 = .ok (.bipush 12, 2) := by decide +kernel
theorem dX6_wobbleHour_7 : decode cX6_wobbleHour 7 = .ok (.if_icmp .ge 30, 3) := by decide +kernel
theorem dX6_wobbleHour_10 : decode cX6_wobbleHour 10 = .ok (.aload_n 0, 1) := by decide +kernel
theorem dX6_wobbleHour_11 : decode cX6_wobbleHour 11 = .ok (.iload_n 1, 1) := by decide +kernel
theorem dX6_wobbleHour_12 : decode cX6_wobbleHour 12 = .ok (.iload_n 3, 1) := by decide +kernel
theorem dX6_wobbleHour_13 : decode cX6_wobbleHour 13 = .ok (.invokevirtual 99, 3) := by decide +kernel
theorem dX6_wobbleHour_16 : decode cX6_wobbleHour 16 = .ok (.aload_n 0, 1) := by decide +kernel
theorem dX6_wobbleHour_17 : decode cX6_wobbleHour 17 = .ok (.iload_n 1, 1) := by decide +kernel
theorem dX6_wobbleHour_18 : decode cX6_wobbleHour 18 = .ok (.iload_n 2, 1) := by decide +kernel
theorem dX6_wobbleHour_19 : decode cX6_wobbleHour 19 = .ok (.invokevirtual 99, 3) := by decide +kernel
theorem dX6_wobbleHour_22 : decode cX6_wobbleHour 22 = .ok (.if_icmp .le 7, 3) := by decide +kernel
theorem dX6_wobbleHour_25 : decode cX6_wobbleHour 25 = .ok (.iload_n 3, 1) := by decide +kernel
theorem dX6_wobbleHour_26 : decode cX6_wobbleHour 26 = .ok (.goto 4, 3) := by decide +kernel
theorem dX6_wobbleHour_29 : decode cX6_wobbleHour 29 = .ok (.iload_n 2, 1) := by decide +kernel
theorem dX6_wobbleHour_30 : decode cX6_wobbleHour 30 = .ok (.istore_n 2, 1) := by decide +kernel
theorem dX6_wobbleHour_31 : decode cX6_wobbleHour 31 = .ok (.iinc 3 1, 3) := by decide +kernel
theorem dX6_wobbleHour_34 : decode cX6_wobbleHour 34 = .ok (.goto (-30), 3) := by decide +kernel
theorem dX6_wobbleHour_37 : decode cX6_wobbleHour 37 = .ok (.iload_n 2, 1) := by decide +kernel
theorem dX6_wobbleHour_38 : decode cX6_wobbleHour 38 = .ok (.ireturn, 1) := by decide +kernel
theorem dX6_flatsOf_0 : decode cX6_flatsOf 0 = .ok (.iconst 0, 1) := by decide +kernel
theorem dX6_flatsOf_1 : decode cX6_flatsOf 1 = .ok (.istore_n 2, 1) := by decide +kernel
theorem dX6_flatsOf_2 : decode cX6_flatsOf 2 = .ok (.iconst 0, 1) := by decide +kernel
theorem dX6_flatsOf_3 : decode cX6_flatsOf 3 = .ok (.istore_n 3, 1) := by decide +kernel
theorem dX6_flatsOf_4 : decode cX6_flatsOf 4 = .ok (.iload_n 3, 1) := by decide +kernel
theorem dX6_flatsOf_5 : decode cX6_flatsOf 5 = .ok (.bipush 12, 2) := by decide +kernel
theorem dX6_flatsOf_7 : decode cX6_flatsOf 7 = .ok (.if_icmp .ge 81, 3) := by decide +kernel
theorem dX6_flatsOf_10 : decode cX6_flatsOf 10 = .ok (.aload_n 0, 1) := by decide +kernel
theorem dX6_flatsOf_11 : decode cX6_flatsOf 11 = .ok (.getfield 28, 3) := by decide +kernel
theorem dX6_flatsOf_14 : decode cX6_flatsOf 14 = .ok (.bipush 12, 2) := by decide +kernel
theorem dX6_flatsOf_16 : decode cX6_flatsOf 16 = .ok (.iload_n 1, 1) := by decide +kernel
theorem dX6_flatsOf_17 : decode cX6_flatsOf 17 = .ok (.imul, 1) := by decide +kernel
theorem dX6_flatsOf_18 : decode cX6_flatsOf 18 = .ok (.iload_n 3, 1) := by decide +kernel
theorem dX6_flatsOf_19 : decode cX6_flatsOf 19 = .ok (.iadd, 1) := by decide +kernel
theorem dX6_flatsOf_20 : decode cX6_flatsOf 20 = .ok (.iaload, 1) := by decide +kernel
theorem dX6_flatsOf_21 : decode cX6_flatsOf 21 = .ok (.aload_n 0, 1) := by decide +kernel
theorem dX6_flatsOf_22 : decode cX6_flatsOf 22 = .ok (.getfield 28, 3) := by decide +kernel
theorem dX6_flatsOf_25 : decode cX6_flatsOf 25 = .ok (.bipush 12, 2) := by decide +kernel
theorem dX6_flatsOf_27 : decode cX6_flatsOf 27 = .ok (.iload_n 1, 1) := by decide +kernel
theorem dX6_flatsOf_28 : decode cX6_flatsOf 28 = .ok (.imul, 1) := by decide +kernel
theorem dX6_flatsOf_29 : decode cX6_flatsOf 29 = .ok (.iload_n 3, 1) := by decide +kernel
theorem dX6_flatsOf_30 : decode cX6_flatsOf 30 = .ok (.bipush 11, 2) := by decide +kernel
theorem dX6_flatsOf_32 : decode cX6_flatsOf 32 = .ok (.iadd, 1) := by decide +kernel
theorem dX6_flatsOf_33 : decode cX6_flatsOf 33 = .ok (.bipush 12, 2) := by decide +kernel
theorem dX6_flatsOf_35 : decode cX6_flatsOf 35 = .ok (.irem, 1) := by decide +kernel
theorem dX6_flatsOf_36 : decode cX6_flatsOf 36 = .ok (.iadd, 1) := by decide +kernel
theorem dX6_flatsOf_37 : decode cX6_flatsOf 37 = .ok (.iaload, 1) := by decide +kernel
theorem dX6_flatsOf_38 : decode cX6_flatsOf 38 = .ok (.if_icmp .ne 7, 3) := by decide +kernel
theorem dX6_flatsOf_41 : decode cX6_flatsOf 41 = .ok (.iconst 1, 1) := by decide +kernel
theorem dX6_flatsOf_42 : decode cX6_flatsOf 42 = .ok (.goto 4, 3) := by decide +kernel
theorem dX6_flatsOf_45 : decode cX6_flatsOf 45 = .ok (.iconst 0, 1) := by decide +kernel
theorem dX6_flatsOf_46 : decode cX6_flatsOf 46 = .ok (.istore 4, 2) := by decide +kernel
theorem dX6_flatsOf_48 : decode cX6_flatsOf 48 = .ok (.iload_n 2, 1) := by decide +kernel
theorem dX6_flatsOf_49 : decode cX6_flatsOf 49 = .ok (.iload 4, 2) := by decide +kernel
theorem dX6_flatsOf_51 : decode cX6_flatsOf 51 = .ok (.ifCond .eq 28, 3) := by decide +kernel
theorem dX6_flatsOf_54 : decode cX6_flatsOf 54 = .ok (.aload_n 0, 1) := by decide +kernel
theorem dX6_flatsOf_55 : decode cX6_flatsOf 55 = .ok (.getfield 7, 3) := by decide +kernel
theorem dX6_flatsOf_58 : decode cX6_flatsOf 58 = .ok (.bipush 12, 2) := by decide +kernel
theorem dX6_flatsOf_60 : decode cX6_flatsOf 60 = .ok (.aload_n 0, 1) := by decide +kernel
theorem dX6_flatsOf_61 : decode cX6_flatsOf 61 = .ok (.getfield 19, 3) := by decide +kernel
theorem dX6_flatsOf_64 : decode cX6_flatsOf 64 = .ok (.iload_n 1, 1) := by decide +kernel
theorem dX6_flatsOf_65 : decode cX6_flatsOf 65 = .ok (.iaload, 1) := by decide +kernel
theorem dX6_flatsOf_66 : decode cX6_flatsOf 66 = .ok (.imul, 1) := by decide +kernel
theorem dX6_flatsOf_67 : decode cX6_flatsOf 67 = .ok (.iload_n 3, 1) := by decide +kernel
theorem dX6_flatsOf_68 : decode cX6_flatsOf 68 = .ok (.iadd, 1) := by decide +kernel
theorem dX6_flatsOf_69 : decode cX6_flatsOf 69 = .ok (.iaload, 1) := by decide +kernel
theorem dX6_flatsOf_70 : decode cX6_flatsOf 70 = .ok (.ifCond .le 9, 3) := by decide +kernel
theorem dX6_flatsOf_73 : decode cX6_flatsOf 73 = .ok (.iconst 1, 1) := by decide +kernel
theorem dX6_flatsOf_74 : decode cX6_flatsOf 74 = .ok (.iload_n 3, 1) := by decide +kernel
theorem dX6_flatsOf_75 : decode cX6_flatsOf 75 = .ok (.ishl, 1) := by decide +kernel
theorem dX6_flatsOf_76 : decode cX6_flatsOf 76 = .ok (.goto 4, 3) := by decide +kernel
theorem dX6_flatsOf_79 : decode cX6_flatsOf 79 = .ok (.iconst 0, 1) := by decide +kernel
theorem dX6_flatsOf_80 : decode cX6_flatsOf 80 = .ok (.ior, 1) := by decide +kernel
theorem dX6_flatsOf_81 : decode cX6_flatsOf 81 = .ok (.istore_n 2, 1) := by decide +kernel
theorem dX6_flatsOf_82 : decode cX6_flatsOf 82 = .ok (.iinc 3 1, 3) := by decide +kernel
theorem dX6_flatsOf_85 : decode cX6_flatsOf 85 = .ok (.goto (-81), 3) := by decide +kernel
theorem dX6_flatsOf_88 : decode cX6_flatsOf 88 = .ok (.iload_n 2, 1) := by decide +kernel
theorem dX6_flatsOf_89 : decode cX6_flatsOf 89 = .ok (.ireturn, 1) := by decide +kernel
theorem dX6_closeOf_0 : decode cX6_closeOf 0 = .ok (.iconst 0, 1) := by decide +kernel
theorem dX6_closeOf_1 : decode cX6_closeOf 1 = .ok (.istore_n 3, 1) := by decide +kernel
theorem dX6_closeOf_2 : decode cX6_closeOf 2 = .ok (.iconst 0, 1) := by decide +kernel
theorem dX6_closeOf_3 : decode cX6_closeOf 3 = .ok (.istore 4, 2) := by decide +kernel
theorem dX6_closeOf_5 : decode cX6_closeOf 5 = .ok (.iload 4, 2) := by decide +kernel
theorem dX6_closeOf_7 : decode cX6_closeOf 7 = .ok (.bipush 12, 2) := by decide +kernel
theorem dX6_closeOf_9 : decode cX6_closeOf 9 = .ok (.if_icmp .ge 40, 3) := by decide +kernel
theorem dX6_closeOf_12 : decode cX6_closeOf 12 = .ok (.iload_n 3, 1) := by decide +kernel
theorem dX6_closeOf_13 : decode cX6_closeOf 13 = .ok (.aload_n 0, 1) := by decide +kernel
theorem dX6_closeOf_14 : decode cX6_closeOf 14 = .ok (.getfield 28, 3) := by decide +kernel
theorem dX6_closeOf_17 : decode cX6_closeOf 17 = .ok (.bipush 12, 2) := by decide +kernel
theorem dX6_closeOf_19 : decode cX6_closeOf 19 = .ok (.iload_n 1, 1) := by decide +kernel
theorem dX6_closeOf_20 : decode cX6_closeOf 20 = .ok (.imul, 1) := by decide +kernel
theorem dX6_closeOf_21 : decode cX6_closeOf 21 = .ok (.iload 4, 2) := by decide +kernel
theorem dX6_closeOf_23 : decode cX6_closeOf 23 = .ok (.iadd, 1) := by decide +kernel
theorem dX6_closeOf_24 : decode cX6_closeOf 24 = .ok (.iaload, 1) := by decide +kernel
theorem dX6_closeOf_25 : decode cX6_closeOf 25 = .ok (.aload_n 0, 1) := by decide +kernel
theorem dX6_closeOf_26 : decode cX6_closeOf 26 = .ok (.getfield 28, 3) := by decide +kernel
theorem dX6_closeOf_29 : decode cX6_closeOf 29 = .ok (.bipush 12, 2) := by decide +kernel
theorem dX6_closeOf_31 : decode cX6_closeOf 31 = .ok (.iload_n 2, 1) := by decide +kernel
theorem dX6_closeOf_32 : decode cX6_closeOf 32 = .ok (.imul, 1) := by decide +kernel
theorem dX6_closeOf_33 : decode cX6_closeOf 33 = .ok (.iload 4, 2) := by decide +kernel
theorem dX6_closeOf_35 : decode cX6_closeOf 35 = .ok (.iadd, 1) := by decide +kernel
theorem dX6_closeOf_36 : decode cX6_closeOf 36 = .ok (.iaload, 1) := by decide +kernel
theorem dX6_closeOf_37 : decode cX6_closeOf 37 = .ok (.isub, 1) := by decide +kernel
theorem dX6_closeOf_38 : decode cX6_closeOf 38 = .ok (.invokestatic 96, 3) := by decide +kernel
theorem dX6_closeOf_41 : decode cX6_closeOf 41 = .ok (.iadd, 1) := by decide +kernel
theorem dX6_closeOf_42 : decode cX6_closeOf 42 = .ok (.istore_n 3, 1) := by decide +kernel
theorem dX6_closeOf_43 : decode cX6_closeOf 43 = .ok (.iinc 4 1, 3) := by decide +kernel
theorem dX6_closeOf_46 : decode cX6_closeOf 46 = .ok (.goto (-41), 3) := by decide +kernel
theorem dX6_closeOf_49 : decode cX6_closeOf 49 = .ok (.iload_n 3, 1) := by decide +kernel
theorem dX6_closeOf_50 : decode cX6_closeOf 50 = .ok (.ireturn, 1) := by decide +kernel
theorem dX6_feed_0 : decode cX6_feed 0 = .ok (.aload_n 0, 1) := by decide +kernel
theorem dX6_feed_1 : decode cX6_feed 1 = .ok (.iconst 0, 1) := by decide +kernel
theorem dX6_feed_2 : decode cX6_feed 2 = .ok (.putfield 55, 3) := by decide +kernel
theorem dX6_feed_5 : decode cX6_feed 5 = .ok (.iload_n 1, 1) := by decide +kernel
theorem dX6_feed_6 : decode cX6_feed 6 = .ok (.ifCond .ge 10, 3) := by decide +kernel
theorem dX6_feed_9 : decode cX6_feed 9 = .ok (.aload_n 0, 1) := by decide +kernel
theorem dX6_feed_10 : decode cX6_feed 10 = .ok (.bipush (-4), 2) := by decide +kernel
theorem dX6_feed_12 : decode cX6_feed 12 = .ok (.invokevirtual 102, 3) := by decide +kernel
theorem dX6_feed_15 : decode cX6_feed 15 = .ok (.ireturn, 1) := by decide +kernel
theorem dX6_feed_16 : decode cX6_feed 16 = .ok (.iload_n 1, 1) := by decide +kernel
theorem dX6_feed_17 : decode cX6_feed 17 = .ok (.sipush 255, 3) := by decide +kernel
theorem dX6_feed_20 : decode cX6_feed 20 = .ok (.if_icmp .gt 12, 3) := by decide +kernel
theorem dX6_feed_23 : decode cX6_feed 23 = .ok (.aload_n 0, 1) := by decide +kernel
theorem dX6_feed_24 : decode cX6_feed 24 = .ok (.getfield 105, 3) := by decide +kernel
theorem dX6_feed_27 : decode cX6_feed 27 = .ok (.bipush 96, 2) := by decide +kernel
theorem dX6_feed_29 : decode cX6_feed 29 = .ok (.if_icmp .ne 10, 3) := by decide +kernel
theorem dX6_feed_32 : decode cX6_feed 32 = .ok (.aload_n 0, 1) := by decide +kernel
theorem dX6_feed_33 : decode cX6_feed 33 = .ok (.bipush (-6), 2) := by decide +kernel
theorem dX6_feed_35 : decode cX6_feed 35 = .ok (.invokevirtual 102, 3) := by decide +kernel
theorem dX6_feed_38 : decode cX6_feed 38 = .ok (.ireturn, 1) := by decide +kernel
theorem dX6_feed_39 : decode cX6_feed 39 = .ok (.aload_n 0, 1) := by decide +kernel
theorem dX6_feed_40 : decode cX6_feed 40 = .ok (.getfield 34, 3) := by decide +kernel
theorem dX6_feed_43 : decode cX6_feed 43 = .ok (.aload_n 0, 1) := by decide +kernel
theorem dX6_feed_44 : decode cX6_feed 44 = .ok (.getfield 105, 3) := by decide +kernel
theorem dX6_feed_47 : decode cX6_feed 47 = .ok (.iload_n 1, 1) := by decide +kernel
theorem dX6_feed_48 : decode cX6_feed 48 = .ok (.iastore, 1) := by decide +kernel
theorem dX6_feed_49 : decode cX6_feed 49 = .ok (.aload_n 0, 1) := by decide +kernel
theorem dX6_feed_50 : decode cX6_feed 50 = .ok (.dup, 1) := by decide +kernel
theorem dX6_feed_51 : decode cX6_feed 51 = .ok (.getfield 105, 3) := by decide +kernel
theorem dX6_feed_54 : decode cX6_feed 54 = .ok (.iconst 1, 1) := by decide +kernel
theorem dX6_feed_55 : decode cX6_feed 55 = .ok (.iadd, 1) := by decide +kernel
theorem dX6_feed_56 : decode cX6_feed 56 = .ok (.putfield 105, 3) := by decide +kernel
theorem dX6_feed_59 : decode cX6_feed 59 = .ok (.aload_n 0, 1) := by decide +kernel
theorem dX6_feed_60 : decode cX6_feed 60 = .ok (.getfield 105, 3) := by decide +kernel
theorem dX6_feed_63 : decode cX6_feed 63 = .ok (.ireturn, 1) := by decide +kernel
theorem dX6_here_0 : decode cX6_here 0 = .ok (.aload_n 0, 1) := by decide +kernel
theorem dX6_here_1 : decode cX6_here 1 = .ok (.getfield 108, 3) := by decide +kernel
theorem dX6_here_4 : decode cX6_here 4 = .ok (.aload_n 0, 1) := by decide +kernel
theorem dX6_here_5 : decode cX6_here 5 = .ok (.getfield 105, 3) := by decide +kernel
theorem dX6_here_8 : decode cX6_here 8 = .ok (.if_icmp .ge 15, 3) := by decide +kernel
theorem dX6_here_11 : decode cX6_here 11 = .ok (.aload_n 0, 1) := by decide +kernel
theorem dX6_here_12 : decode cX6_here 12 = .ok (.getfield 34, 3) := by decide +kernel
theorem dX6_here_15 : decode cX6_here 15 = .ok (.aload_n 0, 1) := by decide +kernel
theorem dX6_here_16 : decode cX6_here 16 = .ok (.getfield 108, 3) := by decide +kernel
theorem dX6_here_19 : decode cX6_here 19 = .ok (.iaload, 1) := by decide +kernel
theorem dX6_here_20 : decode cX6_here 20 = .ok (.goto 4, 3) := by decide +kernel
theorem dX6_here_23 : decode cX6_here 23 = .ok (.iconst (-1), 1) := by decide +kernel
theorem dX6_here_24 : decode cX6_here 24 = .ok (.ireturn, 1) := by decide +kernel
theorem dX6_readDigit_0 : decode cX6_readDigit 0 = .ok (.aload_n 0, 1) := by decide +kernel
theorem dX6_readDigit_1 : decode cX6_readDigit 1 = .ok (.aload_n 0, 1) := by decide +kernel
theorem dX6_readDigit_2 : decode cX6_readDigit 2 = .ok (.getfield 111, 3) := by decide +kernel
theorem dX6_readDigit_5 : decode cX6_readDigit 5 = .ok (.ifCond .ne 20, 3) := by decide +kernel
theorem dX6_readDigit_8 : decode cX6_readDigit 8 = .ok (.aload_n 0, 1) := by decide +kernel
theorem dX6_readDigit_9 : decode cX6_readDigit 9 = .ok (.invokevirtual 115, 3) := by decide +kernel
theorem dX6_readDigit_12 : decode cX6_readDigit 12 = .ok (.i2l, 1) := by decide +kernel
theorem dX6_readDigit_13 : decode cX6_readDigit 13 = .ok (.ldc2_w 119, 3) := by decide +kernel
theorem dX6_readDigit_16 : decode cX6_readDigit 16 = .ok (.ldc2_w 121, 3) := by decide +kernel
theorem dX6_readDigit_19 : decode cX6_readDigit 19 = .ok (.invokestatic 59, 3) := by decide +kernel
theorem dX6_readDigit_22 : decode cX6_readDigit 22 = .ok (.ifCond .ne 7, 3) := by decide +kernel
theorem dX6_readDigit_25 : decode cX6_readDigit 25 = .ok (.iconst 1, 1) := by decide +kernel
theorem dX6_readDigit_26 : decode cX6_readDigit 26 = .ok (.goto 4, 3) := by decide +kernel
theorem dX6_readDigit_29 : decode cX6_readDigit 29 = .ok (.iconst 0, 1) := by decide +kernel
theorem dX6_readDigit_30 : decode cX6_readDigit 30 = .ok (.putfield 111, 3) := by decide +kernel
theorem dX6_readDigit_33 : decode cX6_readDigit 33 = .ok (.aload_n 0, 1) := by decide +kernel
theorem dX6_readDigit_34 : decode cX6_readDigit 34 = .ok (.getfield 111, 3) := by decide +kernel
theorem dX6_readDigit_37 : decode cX6_readDigit 37 = .ok (.ifCond .eq 5, 3) := by decide +kernel
theorem dX6_readDigit_40 : decode cX6_readDigit 40 = .ok (.iconst 0, 1) := by decide +kernel
theorem dX6_readDigit_41 : decode cX6_readDigit 41 = .ok (.ireturn, 1) := by decide +kernel
theorem dX6_readDigit_42 : decode cX6_readDigit 42 = .ok (.aload_n 0, 1) := by decide +kernel
theorem dX6_readDigit_43 : decode cX6_readDigit 43 = .ok (.dup, 1) := by decide +kernel
theorem dX6_readDigit_44 : decode cX6_readDigit 44 = .ok (.getfield 108, 3) := by decide +kernel
theorem dX6_readDigit_47 : decode cX6_readDigit 47 = .ok (.iconst 1, 1) := by decide +kernel
theorem dX6_readDigit_48 : decode cX6_readDigit 48 = .ok (.iadd, 1) := by decide +kernel
theorem dX6_readDigit_49 : decode cX6_readDigit 49 = .ok (.putfield 108, 3) := by decide +kernel
theorem dX6_readDigit_52 : decode cX6_readDigit 52 = .ok (.aload_n 0, 1) := by decide +kernel
theorem dX6_readDigit_53 : decode cX6_readDigit 53 = .ok (.getfield 34, 3) := by decide +kernel
theorem dX6_readDigit_56 : decode cX6_readDigit 56 = .ok (.aload_n 0, 1) := by decide +kernel
theorem dX6_readDigit_57 : decode cX6_readDigit 57 = .ok (.getfield 108, 3) := by decide +kernel
theorem dX6_readDigit_60 : decode cX6_readDigit 60 = .ok (.iconst 1, 1) := by decide +kernel
theorem dX6_readDigit_61 : decode cX6_readDigit 61 = .ok (.isub, 1) := by decide +kernel
theorem dX6_readDigit_62 : decode cX6_readDigit 62 = .ok (.iaload, 1) := by decide +kernel
theorem dX6_readDigit_63 : decode cX6_readDigit 63 = .ok (.bipush 48, 2) := by decide +kernel
theorem dX6_readDigit_65 : decode cX6_readDigit 65 = .ok (.isub, 1) := by decide +kernel
theorem dX6_readDigit_66 : decode cX6_readDigit 66 = .ok (.ireturn, 1) := by decide +kernel
theorem dX6_readTwo_0 : decode cX6_readTwo 0 = .ok (.aload_n 0, 1) := by decide +kernel
theorem dX6_readTwo_1 : decode cX6_readTwo 1 = .ok (.invokevirtual 123, 3) := by decide +kernel
theorem dX6_readTwo_4 : decode cX6_readTwo 4 = .ok (.istore_n 1, 1) := by decide +kernel
theorem dX6_readTwo_5 : decode cX6_readTwo 5 = .ok (.bipush 10, 2) := by decide +kernel
theorem dX6_readTwo_7 : decode cX6_readTwo 7 = .ok (.iload_n 1, 1) := by decide +kernel
theorem dX6_readTwo_8 : decode cX6_readTwo 8 = .ok (.imul, 1) := by decide +kernel
theorem dX6_readTwo_9 : decode cX6_readTwo 9 = .ok (.aload_n 0, 1) := by decide +kernel
theorem dX6_readTwo_10 : decode cX6_readTwo 10 = .ok (.invokevirtual 123, 3) := by decide +kernel
theorem dX6_readTwo_13 : decode cX6_readTwo 13 = .ok (.iadd, 1) := by decide +kernel
theorem dX6_readTwo_14 : decode cX6_readTwo 14 = .ok (.ireturn, 1) := by decide +kernel
theorem dX6_readNumber_0 : decode cX6_readNumber 0 = .ok (.aload_n 0, 1) := by decide +kernel
theorem dX6_readNumber_1 : decode cX6_readNumber 1 = .ok (.invokevirtual 123, 3) := by decide +kernel
theorem dX6_readNumber_4 : decode cX6_readNumber 4 = .ok (.istore_n 1, 1) := by decide +kernel
theorem dX6_readNumber_5 : decode cX6_readNumber 5 = .ok (.iconst 1, 1) := by decide +kernel
theorem dX6_readNumber_6 : decode cX6_readNumber 6 = .ok (.istore_n 2, 1) := by decide +kernel
theorem dX6_readNumber_7 : decode cX6_readNumber 7 = .ok (.iload_n 2, 1) := by decide +kernel
theorem dX6_readNumber_8 : decode cX6_readNumber 8 = .ok (.iconst 3, 1) := by decide +kernel
theorem dX6_readNumber_9 : decode cX6_readNumber 9 = .ok (.if_icmp .ge 43, 3) := by decide +kernel
theorem dX6_readNumber_12 : decode cX6_readNumber 12 = .ok (.aload_n 0, 1) := by decide +kernel
theorem dX6_readNumber_13 : decode cX6_readNumber 13 = .ok (.getfield 111, 3) := by decide +kernel
theorem dX6_readNumber_16 : decode cX6_readNumber 16 = .ok (.ifCond .ne 36, 3) := by decide +kernel
theorem dX6_readNumber_19 : decode cX6_readNumber 19 = .ok (.aload_n 0, 1) := by decide +kernel
theorem dX6_readNumber_20 : decode cX6_readNumber 20 = .ok (.invokevirtual 115, 3) := by decide +kernel
theorem dX6_readNumber_23 : decode cX6_readNumber 23 = .ok (.i2l, 1) := by decide +kernel
theorem dX6_readNumber_24 : decode cX6_readNumber 24 = .ok (.ldc2_w 119, 3) := by decide +kernel
theorem dX6_readNumber_27 : decode cX6_readNumber 27 = .ok (.ldc2_w 121, 3) := by decide +kernel
theorem dX6_readNumber_30 : decode cX6_readNumber 30 = .ok (.invokestatic 59, 3) := by decide +kernel
theorem dX6_readNumber_33 : decode cX6_readNumber 33 = .ok (.ifCond .eq 19, 3) := by decide +kernel
theorem dX6_readNumber_36 : decode cX6_readNumber 36 = .ok (.bipush 10, 2) := by decide +kernel
theorem dX6_readNumber_38 : decode cX6_readNumber 38 = .ok (.iload_n 1, 1) := by decide +kernel
theorem dX6_readNumber_39 : decode cX6_readNumber 39 = .ok (.imul, 1) := by decide +kernel
theorem dX6_readNumber_40 : decode cX6_readNumber 40 = .ok (.aload_n 0, 1) := by decide +kernel
theorem dX6_readNumber_41 : decode cX6_readNumber 41 = .ok (.invokevirtual 123, 3) := by decide +kernel
theorem dX6_readNumber_44 : decode cX6_readNumber 44 = .ok (.iadd, 1) := by decide +kernel
theorem dX6_readNumber_45 : decode cX6_readNumber 45 = .ok (.istore_n 1, 1) := by decide +kernel
theorem dX6_readNumber_46 : decode cX6_readNumber 46 = .ok (.iinc 2 1, 3) := by decide +kernel
theorem dX6_readNumber_49 : decode cX6_readNumber 49 = .ok (.goto (-42), 3) := by decide +kernel
theorem dX6_readNumber_52 : decode cX6_readNumber 52 = .ok (.iload_n 1, 1) := by decide +kernel
theorem dX6_readNumber_53 : decode cX6_readNumber 53 = .ok (.ireturn, 1) := by decide +kernel
theorem dX6_take_0 : decode cX6_take 0 = .ok (.aload_n 0, 1) := by decide +kernel
theorem dX6_take_1 : decode cX6_take 1 = .ok (.aload_n 0, 1) := by decide +kernel
theorem dX6_take_2 : decode cX6_take 2 = .ok (.getfield 111, 3) := by decide +kernel
theorem dX6_take_5 : decode cX6_take 5 = .ok (.ifCond .ne 11, 3) := by decide +kernel
theorem dX6_take_8 : decode cX6_take 8 = .ok (.aload_n 0, 1) := by decide +kernel
theorem dX6_take_9 : decode cX6_take 9 = .ok (.invokevirtual 115, 3) := by decide +kernel
theorem dX6_take_12 : decode cX6_take 12 = .ok (.iload_n 1, 1) := by decide +kernel
theorem dX6_take_13 : decode cX6_take 13 = .ok (.if_icmp .eq 7, 3) := by decide +kernel
theorem dX6_take_16 : decode cX6_take 16 = .ok (.iconst 1, 1) := by decide +kernel
theorem dX6_take_17 : decode cX6_take 17 = .ok (.goto 4, 3) := by decide +kernel
theorem dX6_take_20 : decode cX6_take 20 = .ok (.iconst 0, 1) := by decide +kernel
theorem dX6_take_21 : decode cX6_take 21 = .ok (.putfield 111, 3) := by decide +kernel
theorem dX6_take_24 : decode cX6_take 24 = .ok (.aload_n 0, 1) := by decide +kernel
theorem dX6_take_25 : decode cX6_take 25 = .ok (.dup, 1) := by decide +kernel
theorem dX6_take_26 : decode cX6_take 26 = .ok (.getfield 108, 3) := by decide +kernel
theorem dX6_take_29 : decode cX6_take 29 = .ok (.aload_n 0, 1) := by decide +kernel
theorem dX6_take_30 : decode cX6_take 30 = .ok (.getfield 111, 3) := by decide +kernel
theorem dX6_take_33 : decode cX6_take 33 = .ok (.ifCond .eq 7, 3) := by decide +kernel
theorem dX6_take_36 : decode cX6_take 36 = .ok (.iconst 0, 1) := by decide +kernel
theorem dX6_take_37 : decode cX6_take 37 = .ok (.goto 4, 3) := by decide +kernel
theorem dX6_take_40 : decode cX6_take 40 = .ok (.iconst 1, 1) := by decide +kernel
theorem dX6_take_41 : decode cX6_take 41 = .ok (.iadd, 1) := by decide +kernel
theorem dX6_take_42 : decode cX6_take 42 = .ok (.putfield 108, 3) := by decide +kernel
theorem dX6_take_45 : decode cX6_take 45 = .ok (.return_, 1) := by decide +kernel
theorem dX6_readStatement_0 : decode cX6_readStatement 0 = .ok (.aload_n 0, 1) := by decide +kernel
theorem dX6_readStatement_1 : decode cX6_readStatement 1 = .ok (.getfield 126, 3) := by decide +kernel
theorem dX6_readStatement_4 : decode cX6_readStatement 4 = .ok (.istore_n 1, 1) := by decide +kernel
theorem dX6_readStatement_5 : decode cX6_readStatement 5 = .ok (.aload_n 0, 1) := by decide +kernel
theorem dX6_readStatement_6 : decode cX6_readStatement 6 = .ok (.invokevirtual 115, 3) := by decide +kernel
theorem dX6_readStatement_9 : decode cX6_readStatement 9 = .ok (.istore_n 2, 1) := by decide +kernel
theorem dX6_readStatement_10 : decode cX6_readStatement 10 = .ok (.iconst 3, 1) := by decide +kernel
theorem dX6_readStatement_11 : decode cX6_readStatement 11 = .ok (.iload_n 1, 1) := by decide +kernel
theorem dX6_readStatement_12 : decode cX6_readStatement 12 = .ok (.imul, 1) := by decide +kernel
theorem dX6_readStatement_13 : decode cX6_readStatement 13 = .ok (.istore_n 3, 1) := by decide +kernel
theorem dX6_readStatement_14 : decode cX6_readStatement 14 = .ok (.aload_n 0, 1) := by decide +kernel
theorem dX6_readStatement_15 : decode cX6_readStatement 15 = .ok (.getfield 37, 3) := by decide +kernel
theorem dX6_readStatement_18 : decode cX6_readStatement 18 = .ok (.iload_n 1, 1) := by decide +kernel
theorem dX6_readStatement_19 : decode cX6_readStatement 19 = .ok (.aload_n 0, 1) := by decide +kernel
theorem dX6_readStatement_20 : decode cX6_readStatement 20 = .ok (.getfield 108, 3) := by decide +kernel
theorem dX6_readStatement_23 : decode cX6_readStatement 23 = .ok (.iastore, 1) := by decide +kernel
theorem dX6_readStatement_24 : decode cX6_readStatement 24 = .ok (.aload_n 0, 1) := by decide +kernel
theorem dX6_readStatement_25 : decode cX6_readStatement 25 = .ok (.getfield 40, 3) := by decide +kernel
theorem dX6_readStatement_28 : decode cX6_readStatement 28 = .ok (.iload_n 1, 1) := by decide +kernel
theorem dX6_readStatement_29 : decode cX6_readStatement 29 = .ok (.iload_n 2, 1) := by decide +kernel
theorem dX6_readStatement_30 : decode cX6_readStatement 30 = .ok (.iastore, 1) := by decide +kernel
theorem dX6_readStatement_31 : decode cX6_readStatement 31 = .ok (.aload_n 0, 1) := by decide +kernel
theorem dX6_readStatement_32 : decode cX6_readStatement 32 = .ok (.aload_n 0, 1) := by decide +kernel
theorem dX6_readStatement_33 : decode cX6_readStatement 33 = .ok (.getfield 111, 3) := by decide +kernel
theorem dX6_readStatement_36 : decode cX6_readStatement 36 = .ok (.ifCond .ne 39, 3) := by decide +kernel
theorem dX6_readStatement_39 : decode cX6_readStatement 39 = .ok (.iload_n 2, 1) := by decide +kernel
theorem dX6_readStatement_40 : decode cX6_readStatement 40 = .ok (.bipush 115, 2) := by decide +kernel
theorem dX6_readStatement_42 : decode cX6_readStatement 42 = .ok (.if_icmp .eq 37, 3) := by decide +kernel
theorem dX6_readStatement_45 : decode cX6_readStatement 45 = .ok (.iload_n 2, 1) := by decide +kernel
theorem dX6_readStatement_46 : decode cX6_readStatement 46 = .ok (.bipush 107, 2) := by decide +kernel
theorem dX6_readStatement_48 : decode cX6_readStatement 48 = .ok (.if_icmp .eq 31, 3) := by decide +kernel
theorem dX6_readStatement_51 : decode cX6_readStatement 51 = .ok (.iload_n 2, 1) := by decide +kernel
theorem dX6_readStatement_52 : decode cX6_readStatement 52 = .ok (.bipush 104, 2) := by decide +kernel
theorem dX6_readStatement_54 : decode cX6_readStatement 54 = .ok (.if_icmp .eq 25, 3) := by decide +kernel
theorem dX6_readStatement_57 : decode cX6_readStatement 57 = .ok (.iload_n 2, 1) := by decide +kernel
theorem dX6_readStatement_58 : decode cX6_readStatement 58 = .ok (.bipush 111, 2) := by decide +kernel
theorem dX6_readStatement_60 : decode cX6_readStatement 60 = .ok (.if_icmp .eq 19, 3) := by decide +kernel
theorem dX6_readStatement_63 : decode cX6_readStatement 63 = .ok (.iload_n 2, 1) := by decide +kernel
theorem dX6_readStatement_64 : decode cX6_readStatement 64 = .ok (.bipush 116, 2) := by decide +kernel
theorem dX6_readStatement_66 : decode cX6_readStatement 66 = .ok (.if_icmp .eq 13, 3) := by decide +kernel
theorem dX6_readStatement_69 : decode cX6_readStatement 69 = .ok (.iload_n 2, 1) := by decide +kernel
theorem dX6_readStatement_70 : decode cX6_readStatement 70 = .ok (.bipush 119, 2) := by decide +kernel
theorem dX6_readStatement_72 : decode cX6_readStatement 72 = .ok (.if_icmp .eq 7, 3) := by decide +kernel
theorem dX6_readStatement_75 : decode cX6_readStatement 75 = .ok (.iconst 1, 1) := by decide +kernel
theorem dX6_readStatement_76 : decode cX6_readStatement 76 = .ok (.goto 4, 3) := by decide +kernel
theorem dX6_readStatement_79 : decode cX6_readStatement 79 = .ok (.iconst 0, 1) := by decide +kernel
theorem dX6_readStatement_80 : decode cX6_readStatement 80 = .ok (.putfield 111, 3) := by decide +kernel
theorem dX6_readStatement_83 : decode cX6_readStatement 83 = .ok (.aload_n 0, 1) := by decide +kernel
theorem dX6_readStatement_84 : decode cX6_readStatement 84 = .ok (.dup, 1) := by decide +kernel
theorem dX6_readStatement_85 : decode cX6_readStatement 85 = .ok (.getfield 108, 3) := by decide +kernel
theorem dX6_readStatement_88 : decode cX6_readStatement 88 = .ok (.aload_n 0, 1) := by decide +kernel
theorem dX6_readStatement_89 : decode cX6_readStatement 89 = .ok (.getfield 111, 3) := by decide +kernel
theorem dX6_readStatement_92 : decode cX6_readStatement 92 = .ok (.ifCond .eq 7, 3) := by decide +kernel
theorem dX6_readStatement_95 : decode cX6_readStatement 95 = .ok (.iconst 0, 1) := by decide +kernel
theorem dX6_readStatement_96 : decode cX6_readStatement 96 = .ok (.goto 4, 3) := by decide +kernel
theorem dX6_readStatement_99 : decode cX6_readStatement 99 = .ok (.iconst 1, 1) := by decide +kernel
theorem dX6_readStatement_100 : decode cX6_readStatement 100 = .ok (.iadd, 1) := by decide +kernel
theorem dX6_readStatement_101 : decode cX6_readStatement 101 = .ok (.putfield 108, 3) := by decide +kernel
theorem dX6_readStatement_104 : decode cX6_readStatement 104 = .ok (.iload_n 2, 1) := by decide +kernel
theorem dX6_readStatement_105 : decode cX6_readStatement 105 = .ok (.bipush 119, 2) := by decide +kernel
theorem dX6_readStatement_107 : decode cX6_readStatement 107 = .ok (.if_icmp .eq 13, 3) := by decide +kernel
theorem dX6_readStatement_110 : decode cX6_readStatement 110 = .ok (.aload_n 0, 1) := by decide +kernel
theorem dX6_readStatement_111 : decode cX6_readStatement 111 = .ok (.getfield 43, 3) := by decide +kernel
theorem dX6_readStatement_114 : decode cX6_readStatement 114 = .ok (.iload_n 3, 1) := by decide +kernel
theorem dX6_readStatement_115 : decode cX6_readStatement 115 = .ok (.aload_n 0, 1) := by decide +kernel
theorem dX6_readStatement_116 : decode cX6_readStatement 116 = .ok (.invokevirtual 123, 3) := by decide +kernel
theorem dX6_readStatement_119 : decode cX6_readStatement 119 = .ok (.iastore, 1) := by decide +kernel
theorem dX6_readStatement_120 : decode cX6_readStatement 120 = .ok (.iload_n 2, 1) := by decide +kernel
theorem dX6_readStatement_121 : decode cX6_readStatement 121 = .ok (.tableswitch 184 104 116 #[103, 184, 184, 88, 184, 184, 184, 130, 184, 184, 184, 67, 157], 67) := by decide +kernel
theorem dX6_readStatement_188 : decode cX6_readStatement 188 = .ok (.aload_n 0, 1) := by decide +kernel
theorem dX6_readStatement_189 : decode cX6_readStatement 189 = .ok (.bipush 61, 2) := by decide +kernel
theorem dX6_readStatement_191 : decode cX6_readStatement 191 = .ok (.invokevirtual 129, 3) := by decide +kernel
theorem dX6_readStatement_194 : decode cX6_readStatement 194 = .ok (.aload_n 0, 1) := by decide +kernel
theorem dX6_readStatement_195 : decode cX6_readStatement 195 = .ok (.getfield 43, 3) := by decide +kernel
theorem dX6_readStatement_198 : decode cX6_readStatement 198 = .ok (.iload_n 3, 1) := by decide +kernel
theorem dX6_readStatement_199 : decode cX6_readStatement 199 = .ok (.iconst 1, 1) := by decide +kernel
theorem dX6_readStatement_200 : decode cX6_readStatement 200 = .ok (.iadd, 1) := by decide +kernel
theorem dX6_readStatement_201 : decode cX6_readStatement 201 = .ok (.aload_n 0, 1) := by decide +kernel
theorem dX6_readStatement_202 : decode cX6_readStatement 202 = .ok (.invokevirtual 133, 3) := by decide +kernel
theorem dX6_readStatement_205 : decode cX6_readStatement 205 = .ok (.iastore, 1) := by decide +kernel
theorem dX6_readStatement_206 : decode cX6_readStatement 206 = .ok (.goto 99, 3) := by decide +kernel
theorem dX6_readStatement_209 : decode cX6_readStatement 209 = .ok (.aload_n 0, 1) := by decide +kernel
theorem dX6_readStatement_210 : decode cX6_readStatement 210 = .ok (.getfield 43, 3) := by decide +kernel
theorem dX6_readStatement_213 : decode cX6_readStatement 213 = .ok (.iload_n 3, 1) := by decide +kernel
theorem dX6_readStatement_214 : decode cX6_readStatement 214 = .ok (.iconst 1, 1) := by decide +kernel
theorem dX6_readStatement_215 : decode cX6_readStatement 215 = .ok (.iadd, 1) := by decide +kernel
theorem dX6_readStatement_216 : decode cX6_readStatement 216 = .ok (.aload_n 0, 1) := by decide +kernel
theorem dX6_readStatement_217 : decode cX6_readStatement 217 = .ok (.invokevirtual 123, 3) := by decide +kernel
theorem dX6_readStatement_220 : decode cX6_readStatement 220 = .ok (.iastore, 1) := by decide +kernel
theorem dX6_readStatement_221 : decode cX6_readStatement 221 = .ok (.goto 84, 3) := by decide +kernel
theorem dX6_readStatement_224 : decode cX6_readStatement 224 = .ok (.aload_n 0, 1) := by decide +kernel
theorem dX6_readStatement_225 : decode cX6_readStatement 225 = .ok (.getfield 43, 3) := by decide +kernel
theorem dX6_readStatement_228 : decode cX6_readStatement 228 = .ok (.iload_n 3, 1) := by decide +kernel
theorem dX6_readStatement_229 : decode cX6_readStatement 229 = .ok (.iconst 1, 1) := by decide +kernel
theorem dX6_readStatement_230 : decode cX6_readStatement 230 = .ok (.iadd, 1) := by decide +kernel
theorem dX6_readStatement_231 : decode cX6_readStatement 231 = .ok (.aload_n 0, 1) := by decide +kernel
theorem dX6_readStatement_232 : decode cX6_readStatement 232 = .ok (.invokevirtual 136, 3) := by decide +kernel
theorem dX6_readStatement_235 : decode cX6_readStatement 235 = .ok (.iastore, 1) := by decide +kernel
theorem dX6_readStatement_236 : decode cX6_readStatement 236 = .ok (.aload_n 0, 1) := by decide +kernel
theorem dX6_readStatement_237 : decode cX6_readStatement 237 = .ok (.getfield 43, 3) := by decide +kernel
theorem dX6_readStatement_240 : decode cX6_readStatement 240 = .ok (.iload_n 3, 1) := by decide +kernel
theorem dX6_readStatement_241 : decode cX6_readStatement 241 = .ok (.iconst 2, 1) := by decide +kernel
theorem dX6_readStatement_242 : decode cX6_readStatement 242 = .ok (.iadd, 1) := by decide +kernel
theorem dX6_readStatement_243 : decode cX6_readStatement 243 = .ok (.aload_n 0, 1) := by decide +kernel
theorem dX6_readStatement_244 : decode cX6_readStatement 244 = .ok (.invokevirtual 123, 3) := by decide +kernel
theorem dX6_readStatement_247 : decode cX6_readStatement 247 = .ok (.iastore, 1) := by decide +kernel
theorem dX6_readStatement_248 : decode cX6_readStatement 248 = .ok (.goto 57, 3) := by decide +kernel
theorem dX6_readStatement_251 : decode cX6_readStatement 251 = .ok (.aload_n 0, 1) := by decide +kernel
theorem dX6_readStatement_252 : decode cX6_readStatement 252 = .ok (.getfield 43, 3) := by decide +kernel
theorem dX6_readStatement_255 : decode cX6_readStatement 255 = .ok (.iload_n 3, 1) := by decide +kernel
theorem dX6_readStatement_256 : decode cX6_readStatement 256 = .ok (.iconst 1, 1) := by decide +kernel
theorem dX6_readStatement_257 : decode cX6_readStatement 257 = .ok (.iadd, 1) := by decide +kernel
theorem dX6_readStatement_258 : decode cX6_readStatement 258 = .ok (.aload_n 0, 1) := by decide +kernel
theorem dX6_readStatement_259 : decode cX6_readStatement 259 = .ok (.invokevirtual 136, 3) := by decide +kernel
theorem dX6_readStatement_262 : decode cX6_readStatement 262 = .ok (.iastore, 1) := by decide +kernel
theorem dX6_readStatement_263 : decode cX6_readStatement 263 = .ok (.aload_n 0, 1) := by decide +kernel
theorem dX6_readStatement_264 : decode cX6_readStatement 264 = .ok (.getfield 43, 3) := by decide +kernel
theorem dX6_readStatement_267 : decode cX6_readStatement 267 = .ok (.iload_n 3, 1) := by decide +kernel
theorem dX6_readStatement_268 : decode cX6_readStatement 268 = .ok (.iconst 2, 1) := by decide +kernel
theorem dX6_readStatement_269 : decode cX6_readStatement 269 = .ok (.iadd, 1) := by decide +kernel
theorem dX6_readStatement_270 : decode cX6_readStatement 270 = .ok (.aload_n 0, 1) := by decide +kernel
theorem dX6_readStatement_271 : decode cX6_readStatement 271 = .ok (.invokevirtual 136, 3) := by decide +kernel
theorem dX6_readStatement_274 : decode cX6_readStatement 274 = .ok (.iastore, 1) := by decide +kernel
theorem dX6_readStatement_275 : decode cX6_readStatement 275 = .ok (.goto 30, 3) := by decide +kernel
theorem dX6_readStatement_278 : decode cX6_readStatement 278 = .ok (.aload_n 0, 1) := by decide +kernel
theorem dX6_readStatement_279 : decode cX6_readStatement 279 = .ok (.getfield 43, 3) := by decide +kernel
theorem dX6_readStatement_282 : decode cX6_readStatement 282 = .ok (.iload_n 3, 1) := by decide +kernel
theorem dX6_readStatement_283 : decode cX6_readStatement 283 = .ok (.iconst 1, 1) := by decide +kernel
theorem dX6_readStatement_284 : decode cX6_readStatement 284 = .ok (.iadd, 1) := by decide +kernel
theorem dX6_readStatement_285 : decode cX6_readStatement 285 = .ok (.aload_n 0, 1) := by decide +kernel
theorem dX6_readStatement_286 : decode cX6_readStatement 286 = .ok (.invokevirtual 123, 3) := by decide +kernel
theorem dX6_readStatement_289 : decode cX6_readStatement 289 = .ok (.iastore, 1) := by decide +kernel
theorem dX6_readStatement_290 : decode cX6_readStatement 290 = .ok (.aload_n 0, 1) := by decide +kernel
theorem dX6_readStatement_291 : decode cX6_readStatement 291 = .ok (.getfield 43, 3) := by decide +kernel
theorem dX6_readStatement_294 : decode cX6_readStatement 294 = .ok (.iload_n 3, 1) := by decide +kernel
theorem dX6_readStatement_295 : decode cX6_readStatement 295 = .ok (.iconst 2, 1) := by decide +kernel
theorem dX6_readStatement_296 : decode cX6_readStatement 296 = .ok (.iadd, 1) := by decide +kernel
theorem dX6_readStatement_297 : decode cX6_readStatement 297 = .ok (.aload_n 0, 1) := by decide +kernel
theorem dX6_readStatement_298 : decode cX6_readStatement 298 = .ok (.invokevirtual 123, 3) := by decide +kernel
theorem dX6_readStatement_301 : decode cX6_readStatement 301 = .ok (.iastore, 1) := by decide +kernel
theorem dX6_readStatement_302 : decode cX6_readStatement 302 = .ok (.goto 3, 3) := by decide +kernel
theorem dX6_readStatement_305 : decode cX6_readStatement 305 = .ok (.aload_n 0, 1) := by decide +kernel
theorem dX6_readStatement_306 : decode cX6_readStatement 306 = .ok (.bipush 59, 2) := by decide +kernel
theorem dX6_readStatement_308 : decode cX6_readStatement 308 = .ok (.invokevirtual 129, 3) := by decide +kernel
theorem dX6_readStatement_311 : decode cX6_readStatement 311 = .ok (.aload_n 0, 1) := by decide +kernel
theorem dX6_readStatement_312 : decode cX6_readStatement 312 = .ok (.dup, 1) := by decide +kernel
theorem dX6_readStatement_313 : decode cX6_readStatement 313 = .ok (.getfield 126, 3) := by decide +kernel
theorem dX6_readStatement_316 : decode cX6_readStatement 316 = .ok (.iconst 1, 1) := by decide +kernel
theorem dX6_readStatement_317 : decode cX6_readStatement 317 = .ok (.iadd, 1) := by decide +kernel
theorem dX6_readStatement_318 : decode cX6_readStatement 318 = .ok (.putfield 126, 3) := by decide +kernel
theorem dX6_readStatement_321 : decode cX6_readStatement 321 = .ok (.return_, 1) := by decide +kernel
theorem dX6_leastOf_0 : decode cX6_leastOf 0 = .ok (.iload_n 0, 1) := by decide +kernel
theorem dX6_leastOf_1 : decode cX6_leastOf 1 = .ok (.ifCond .ne 8, 3) := by decide +kernel
theorem dX6_leastOf_4 : decode cX6_leastOf 4 = .ok (.bipush 10, 2) := by decide +kernel
theorem dX6_leastOf_6 : decode cX6_leastOf 6 = .ok (.goto 4, 3) := by decide +kernel
theorem dX6_leastOf_9 : decode cX6_leastOf 9 = .ok (.iconst 0, 1) := by decide +kernel
theorem dX6_leastOf_10 : decode cX6_leastOf 10 = .ok (.ireturn, 1) := by decide +kernel
theorem dX6_mostOf_0 : decode cX6_mostOf 0 = .ok (.iload_n 0, 1) := by decide +kernel
theorem dX6_mostOf_1 : decode cX6_mostOf 1 = .ok (.ifCond .ne 8, 3) := by decide +kernel
theorem dX6_mostOf_4 : decode cX6_mostOf 4 = .ok (.bipush 99, 2) := by decide +kernel
theorem dX6_mostOf_6 : decode cX6_mostOf 6 = .ok (.goto 15, 3) := by decide +kernel
theorem dX6_mostOf_9 : decode cX6_mostOf 9 = .ok (.iload_n 0, 1) := by decide +kernel
theorem dX6_mostOf_10 : decode cX6_mostOf 10 = .ok (.iconst 2, 1) := by decide +kernel
theorem dX6_mostOf_11 : decode cX6_mostOf 11 = .ok (.if_icmp .ne 8, 3) := by decide +kernel
theorem dX6_mostOf_14 : decode cX6_mostOf 14 = .ok (.bipush 100, 2) := by decide +kernel
theorem dX6_mostOf_16 : decode cX6_mostOf 16 = .ok (.goto 5, 3) := by decide +kernel
theorem dX6_mostOf_19 : decode cX6_mostOf 19 = .ok (.bipush 9, 2) := by decide +kernel
theorem dX6_mostOf_21 : decode cX6_mostOf 21 = .ok (.ireturn, 1) := by decide +kernel
theorem dX6_settingComes_0 : decode cX6_settingComes 0 = .ok (.iload_n 1, 1) := by decide +kernel
theorem dX6_settingComes_1 : decode cX6_settingComes 1 = .ok (.i2l, 1) := by decide +kernel
theorem dX6_settingComes_2 : decode cX6_settingComes 2 = .ok (.lconst 0, 1) := by decide +kernel
theorem dX6_settingComes_3 : decode cX6_settingComes 3 = .ok (.ldc2_w 139, 3) := by decide +kernel
theorem dX6_settingComes_6 : decode cX6_settingComes 6 = .ok (.invokestatic 59, 3) := by decide +kernel
theorem dX6_settingComes_9 : decode cX6_settingComes 9 = .ok (.ifCond .eq 25, 3) := by decide +kernel
theorem dX6_settingComes_12 : decode cX6_settingComes 12 = .ok (.iload_n 2, 1) := by decide +kernel
theorem dX6_settingComes_13 : decode cX6_settingComes 13 = .ok (.i2l, 1) := by decide +kernel
theorem dX6_settingComes_14 : decode cX6_settingComes 14 = .ok (.iload_n 1, 1) := by decide +kernel
theorem dX6_settingComes_15 : decode cX6_settingComes 15 = .ok (.invokestatic 141, 3) := by decide +kernel
theorem dX6_settingComes_18 : decode cX6_settingComes 18 = .ok (.i2l, 1) := by decide +kernel
theorem dX6_settingComes_19 : decode cX6_settingComes 19 = .ok (.iload_n 1, 1) := by decide +kernel
theorem dX6_settingComes_20 : decode cX6_settingComes 20 = .ok (.invokestatic 144, 3) := by decide +kernel
theorem dX6_settingComes_23 : decode cX6_settingComes 23 = .ok (.i2l, 1) := by decide +kernel
theorem dX6_settingComes_24 : decode cX6_settingComes 24 = .ok (.invokestatic 59, 3) := by decide +kernel
theorem dX6_settingComes_27 : decode cX6_settingComes 27 = .ok (.ifCond .eq 7, 3) := by decide +kernel
theorem dX6_settingComes_30 : decode cX6_settingComes 30 = .ok (.iconst 1, 1) := by decide +kernel
theorem dX6_settingComes_31 : decode cX6_settingComes 31 = .ok (.goto 4, 3) := by decide +kernel
theorem dX6_settingComes_34 : decode cX6_settingComes 34 = .ok (.iconst 0, 1) := by decide +kernel
theorem dX6_settingComes_35 : decode cX6_settingComes 35 = .ok (.istore_n 3, 1) := by decide +kernel
theorem dX6_settingComes_36 : decode cX6_settingComes 36 = .ok (.iload_n 3, 1) := by decide +kernel
theorem dX6_settingComes_37 : decode cX6_settingComes 37 = .ok (.ifCond .eq 10, 3) := by decide +kernel
theorem dX6_settingComes_40 : decode cX6_settingComes 40 = .ok (.aload_n 0, 1) := by decide +kernel
theorem dX6_settingComes_41 : decode cX6_settingComes 41 = .ok (.getfield 16, 3) := by decide +kernel
theorem dX6_settingComes_44 : decode cX6_settingComes 44 = .ok (.iload_n 1, 1) := by decide +kernel
theorem dX6_settingComes_45 : decode cX6_settingComes 45 = .ok (.iload_n 2, 1) := by decide +kernel
theorem dX6_settingComes_46 : decode cX6_settingComes 46 = .ok (.iastore, 1) := by decide +kernel
theorem dX6_settingComes_47 : decode cX6_settingComes 47 = .ok (.iload_n 3, 1) := by decide +kernel
theorem dX6_settingComes_48 : decode cX6_settingComes 48 = .ok (.ireturn, 1) := by decide +kernel
theorem dX6_iceComes_0 : decode cX6_iceComes 0 = .ok (.iload_n 2, 1) := by decide +kernel
theorem dX6_iceComes_1 : decode cX6_iceComes 1 = .ok (.invokestatic 147, 3) := by decide +kernel
theorem dX6_iceComes_4 : decode cX6_iceComes 4 = .ok (.ifCond .eq 29, 3) := by decide +kernel
theorem dX6_iceComes_7 : decode cX6_iceComes 7 = .ok (.iload_n 3, 1) := by decide +kernel
theorem dX6_iceComes_8 : decode cX6_iceComes 8 = .ok (.invokestatic 151, 3) := by decide +kernel
theorem dX6_iceComes_11 : decode cX6_iceComes 11 = .ok (.ifCond .eq 22, 3) := by decide +kernel
theorem dX6_iceComes_14 : decode cX6_iceComes 14 = .ok (.iload 4, 2) := by decide +kernel
theorem dX6_iceComes_16 : decode cX6_iceComes 16 = .ok (.i2l, 1) := by decide +kernel
theorem dX6_iceComes_17 : decode cX6_iceComes 17 = .ok (.iload 5, 2) := by decide +kernel
theorem dX6_iceComes_19 : decode cX6_iceComes 19 = .ok (.i2l, 1) := by decide +kernel
theorem dX6_iceComes_20 : decode cX6_iceComes 20 = .ok (.iload 6, 2) := by decide +kernel
theorem dX6_iceComes_22 : decode cX6_iceComes 22 = .ok (.i2l, 1) := by decide +kernel
theorem dX6_iceComes_23 : decode cX6_iceComes 23 = .ok (.invokestatic 59, 3) := by decide +kernel
theorem dX6_iceComes_26 : decode cX6_iceComes 26 = .ok (.ifCond .eq 7, 3) := by decide +kernel
theorem dX6_iceComes_29 : decode cX6_iceComes 29 = .ok (.iconst 1, 1) := by decide +kernel
theorem dX6_iceComes_30 : decode cX6_iceComes 30 = .ok (.goto 4, 3) := by decide +kernel
theorem dX6_iceComes_33 : decode cX6_iceComes 33 = .ok (.iconst 0, 1) := by decide +kernel
theorem dX6_iceComes_34 : decode cX6_iceComes 34 = .ok (.istore 7, 2) := by decide +kernel
theorem dX6_iceComes_36 : decode cX6_iceComes 36 = .ok (.iload 7, 2) := by decide +kernel
theorem dX6_iceComes_38 : decode cX6_iceComes 38 = .ok (.ifCond .eq 13, 3) := by decide +kernel
theorem dX6_iceComes_41 : decode cX6_iceComes 41 = .ok (.aload_n 1, 1) := by decide +kernel
theorem dX6_iceComes_42 : decode cX6_iceComes 42 = .ok (.bipush 12, 2) := by decide +kernel
theorem dX6_iceComes_44 : decode cX6_iceComes 44 = .ok (.iload_n 2, 1) := by decide +kernel
theorem dX6_iceComes_45 : decode cX6_iceComes 45 = .ok (.imul, 1) := by decide +kernel
theorem dX6_iceComes_46 : decode cX6_iceComes 46 = .ok (.iload_n 3, 1) := by decide +kernel
theorem dX6_iceComes_47 : decode cX6_iceComes 47 = .ok (.iadd, 1) := by decide +kernel
theorem dX6_iceComes_48 : decode cX6_iceComes 48 = .ok (.iload 4, 2) := by decide +kernel
theorem dX6_iceComes_50 : decode cX6_iceComes 50 = .ok (.iastore, 1) := by decide +kernel
theorem dX6_iceComes_51 : decode cX6_iceComes 51 = .ok (.iload 7, 2) := by decide +kernel
theorem dX6_iceComes_53 : decode cX6_iceComes 53 = .ok (.ireturn, 1) := by decide +kernel
theorem dX6_traceComes_0 : decode cX6_traceComes 0 = .ok (.iload_n 1, 1) := by decide +kernel
theorem dX6_traceComes_1 : decode cX6_traceComes 1 = .ok (.invokestatic 147, 3) := by decide +kernel
theorem dX6_traceComes_4 : decode cX6_traceComes 4 = .ok (.ifCond .eq 24, 3) := by decide +kernel
theorem dX6_traceComes_7 : decode cX6_traceComes 7 = .ok (.iload_n 2, 1) := by decide +kernel
theorem dX6_traceComes_8 : decode cX6_traceComes 8 = .ok (.iload_n 3, 1) := by decide +kernel
theorem dX6_traceComes_9 : decode cX6_traceComes 9 = .ok (.invokestatic 154, 3) := by decide +kernel
theorem dX6_traceComes_12 : decode cX6_traceComes 12 = .ok (.ifCond .ne 16, 3) := by decide +kernel
theorem dX6_traceComes_15 : decode cX6_traceComes 15 = .ok (.aload_n 0, 1) := by decide +kernel
theorem dX6_traceComes_16 : decode cX6_traceComes 16 = .ok (.getfield 65, 3) := by decide +kernel
theorem dX6_traceComes_19 : decode cX6_traceComes 19 = .ok (.bipush 6, 2) := by decide +kernel
theorem dX6_traceComes_21 : decode cX6_traceComes 21 = .ok (.if_icmp .ge 7, 3) := by decide +kernel
theorem dX6_traceComes_24 : decode cX6_traceComes 24 = .ok (.iconst 1, 1) := by decide +kernel
theorem dX6_traceComes_25 : decode cX6_traceComes 25 = .ok (.goto 4, 3) := by decide +kernel
theorem dX6_traceComes_28 : decode cX6_traceComes 28 = .ok (.iconst 0, 1) := by decide +kernel
theorem dX6_traceComes_29 : decode cX6_traceComes 29 = .ok (.istore 4, 2) := by decide +kernel
theorem dX6_traceComes_31 : decode cX6_traceComes 31 = .ok (.iload 4, 2) := by decide +kernel
theorem dX6_traceComes_33 : decode cX6_traceComes 33 = .ok (.ifCond .eq 15, 3) := by decide +kernel
theorem dX6_traceComes_36 : decode cX6_traceComes 36 = .ok (.aload_n 0, 1) := by decide +kernel
theorem dX6_traceComes_37 : decode cX6_traceComes 37 = .ok (.aload_n 0, 1) := by decide +kernel
theorem dX6_traceComes_38 : decode cX6_traceComes 38 = .ok (.getfield 157, 3) := by decide +kernel
theorem dX6_traceComes_41 : decode cX6_traceComes 41 = .ok (.iload_n 1, 1) := by decide +kernel
theorem dX6_traceComes_42 : decode cX6_traceComes 42 = .ok (.iload_n 2, 1) := by decide +kernel
theorem dX6_traceComes_43 : decode cX6_traceComes 43 = .ok (.iload_n 3, 1) := by decide +kernel
theorem dX6_traceComes_44 : decode cX6_traceComes 44 = .ok (.invokevirtual 160, 3) := by decide +kernel
theorem dX6_traceComes_47 : decode cX6_traceComes 47 = .ok (.pop, 1) := by decide +kernel
theorem dX6_traceComes_48 : decode cX6_traceComes 48 = .ok (.iload 4, 2) := by decide +kernel
theorem dX6_traceComes_50 : decode cX6_traceComes 50 = .ok (.ireturn, 1) := by decide +kernel
theorem dX6_comes_0 : decode cX6_comes 0 = .ok (.aload_n 0, 1) := by decide +kernel
theorem dX6_comes_1 : decode cX6_comes 1 = .ok (.getfield 43, 3) := by decide +kernel
theorem dX6_comes_4 : decode cX6_comes 4 = .ok (.iconst 3, 1) := by decide +kernel
theorem dX6_comes_5 : decode cX6_comes 5 = .ok (.iload_n 1, 1) := by decide +kernel
theorem dX6_comes_6 : decode cX6_comes 6 = .ok (.imul, 1) := by decide +kernel
theorem dX6_comes_7 : decode cX6_comes 7 = .ok (.iaload, 1) := by decide +kernel
theorem dX6_comes_8 : decode cX6_comes 8 = .ok (.istore_n 2, 1) := by decide +kernel
theorem dX6_comes_9 : decode cX6_comes 9 = .ok (.aload_n 0, 1) := by decide +kernel
theorem dX6_comes_10 : decode cX6_comes 10 = .ok (.getfield 43, 3) := by decide +kernel
theorem dX6_comes_13 : decode cX6_comes 13 = .ok (.iconst 3, 1) := by decide +kernel
theorem dX6_comes_14 : decode cX6_comes 14 = .ok (.iload_n 1, 1) := by decide +kernel
theorem dX6_comes_15 : decode cX6_comes 15 = .ok (.imul, 1) := by decide +kernel
theorem dX6_comes_16 : decode cX6_comes 16 = .ok (.iconst 1, 1) := by decide +kernel
theorem dX6_comes_17 : decode cX6_comes 17 = .ok (.iadd, 1) := by decide +kernel
theorem dX6_comes_18 : decode cX6_comes 18 = .ok (.iaload, 1) := by decide +kernel
theorem dX6_comes_19 : decode cX6_comes 19 = .ok (.istore_n 3, 1) := by decide +kernel
theorem dX6_comes_20 : decode cX6_comes 20 = .ok (.aload_n 0, 1) := by decide +kernel
theorem dX6_comes_21 : decode cX6_comes 21 = .ok (.getfield 43, 3) := by decide +kernel
theorem dX6_comes_24 : decode cX6_comes 24 = .ok (.iconst 3, 1) := by decide +kernel
theorem dX6_comes_25 : decode cX6_comes 25 = .ok (.iload_n 1, 1) := by decide +kernel
theorem dX6_comes_26 : decode cX6_comes 26 = .ok (.imul, 1) := by decide +kernel
theorem dX6_comes_27 : decode cX6_comes 27 = .ok (.iconst 2, 1) := by decide +kernel
theorem dX6_comes_28 : decode cX6_comes 28 = .ok (.iadd, 1) := by decide +kernel
theorem dX6_comes_29 : decode cX6_comes 29 = .ok (.iaload, 1) := by decide +kernel
theorem dX6_comes_30 : decode cX6_comes 30 = .ok (.istore 4, 2) := by decide +kernel
theorem dX6_comes_32 : decode cX6_comes 32 = .ok (.aload_n 0, 1) := by decide +kernel
theorem dX6_comes_33 : decode cX6_comes 33 = .ok (.getfield 40, 3) := by decide +kernel
theorem dX6_comes_36 : decode cX6_comes 36 = .ok (.iload_n 1, 1) := by decide +kernel
theorem dX6_comes_37 : decode cX6_comes 37 = .ok (.iaload, 1) := by decide +kernel
theorem dX6_comes_38 : decode cX6_comes 38 = .ok (.tableswitch 135 104 116 #[95, 135, 135, 73, 135, 135, 135, 110, 135, 135, 135, 66, 126], 66) := by decide +kernel
theorem dX6_comes_104 : decode cX6_comes 104 = .ok (.aload_n 0, 1) := by decide +kernel
theorem dX6_comes_105 : decode cX6_comes 105 = .ok (.iload_n 2, 1) := by decide +kernel
theorem dX6_comes_106 : decode cX6_comes 106 = .ok (.iload_n 3, 1) := by decide +kernel
theorem dX6_comes_107 : decode cX6_comes 107 = .ok (.invokevirtual 164, 3) := by decide +kernel
theorem dX6_comes_110 : decode cX6_comes 110 = .ok (.ireturn, 1) := by decide +kernel
theorem dX6_comes_111 : decode cX6_comes 111 = .ok (.aload_n 0, 1) := by decide +kernel
theorem dX6_comes_112 : decode cX6_comes 112 = .ok (.iload_n 2, 1) := by decide +kernel
theorem dX6_comes_113 : decode cX6_comes 113 = .ok (.putfield 157, 3) := by decide +kernel
theorem dX6_comes_116 : decode cX6_comes 116 = .ok (.aload_n 0, 1) := by decide +kernel
theorem dX6_comes_117 : decode cX6_comes 117 = .ok (.iload_n 3, 1) := by decide +kernel
theorem dX6_comes_118 : decode cX6_comes 118 = .ok (.putfield 75, 3) := by decide +kernel
theorem dX6_comes_121 : decode cX6_comes 121 = .ok (.iload_n 2, 1) := by decide +kernel
theorem dX6_comes_122 : decode cX6_comes 122 = .ok (.bipush 7, 2) := by decide +kernel
theorem dX6_comes_124 : decode cX6_comes 124 = .ok (.if_icmp .ge 7, 3) := by decide +kernel
theorem dX6_comes_127 : decode cX6_comes 127 = .ok (.iconst 1, 1) := by decide +kernel
theorem dX6_comes_128 : decode cX6_comes 128 = .ok (.goto 4, 3) := by decide +kernel
theorem dX6_comes_131 : decode cX6_comes 131 = .ok (.iconst 0, 1) := by decide +kernel
theorem dX6_comes_132 : decode cX6_comes 132 = .ok (.ireturn, 1) := by decide +kernel
theorem dX6_comes_133 : decode cX6_comes 133 = .ok (.aload_n 0, 1) := by decide +kernel
theorem dX6_comes_134 : decode cX6_comes 134 = .ok (.aload_n 0, 1) := by decide +kernel
theorem dX6_comes_135 : decode cX6_comes 135 = .ok (.getfield 7, 3) := by decide +kernel
theorem dX6_comes_138 : decode cX6_comes 138 = .ok (.iload_n 2, 1) := by decide +kernel
theorem dX6_comes_139 : decode cX6_comes 139 = .ok (.iload_n 3, 1) := by decide +kernel
theorem dX6_comes_140 : decode cX6_comes 140 = .ok (.iload 4, 2) := by decide +kernel
theorem dX6_comes_142 : decode cX6_comes 142 = .ok (.iconst 0, 1) := by decide +kernel
theorem dX6_comes_143 : decode cX6_comes 143 = .ok (.iconst 3, 1) := by decide +kernel
theorem dX6_comes_144 : decode cX6_comes 144 = .ok (.invokevirtual 168, 3) := by decide +kernel
theorem dX6_comes_147 : decode cX6_comes 147 = .ok (.ireturn, 1) := by decide +kernel
theorem dX6_comes_148 : decode cX6_comes 148 = .ok (.aload_n 0, 1) := by decide +kernel
theorem dX6_comes_149 : decode cX6_comes 149 = .ok (.aload_n 0, 1) := by decide +kernel
theorem dX6_comes_150 : decode cX6_comes 150 = .ok (.getfield 13, 3) := by decide +kernel
theorem dX6_comes_153 : decode cX6_comes 153 = .ok (.iload_n 2, 1) := by decide +kernel
theorem dX6_comes_154 : decode cX6_comes 154 = .ok (.iload_n 3, 1) := by decide +kernel
theorem dX6_comes_155 : decode cX6_comes 155 = .ok (.iload 4, 2) := by decide +kernel
theorem dX6_comes_157 : decode cX6_comes 157 = .ok (.iconst 0, 1) := by decide +kernel
theorem dX6_comes_158 : decode cX6_comes 158 = .ok (.bipush 99, 2) := by decide +kernel
theorem dX6_comes_160 : decode cX6_comes 160 = .ok (.invokevirtual 168, 3) := by decide +kernel
theorem dX6_comes_163 : decode cX6_comes 163 = .ok (.ireturn, 1) := by decide +kernel
theorem dX6_comes_164 : decode cX6_comes 164 = .ok (.aload_n 0, 1) := by decide +kernel
theorem dX6_comes_165 : decode cX6_comes 165 = .ok (.iload_n 2, 1) := by decide +kernel
theorem dX6_comes_166 : decode cX6_comes 166 = .ok (.iload_n 3, 1) := by decide +kernel
theorem dX6_comes_167 : decode cX6_comes 167 = .ok (.iload 4, 2) := by decide +kernel
theorem dX6_comes_169 : decode cX6_comes 169 = .ok (.invokevirtual 172, 3) := by decide +kernel
theorem dX6_comes_172 : decode cX6_comes 172 = .ok (.ireturn, 1) := by decide +kernel
theorem dX6_comes_173 : decode cX6_comes 173 = .ok (.aload_n 0, 1) := by decide +kernel
theorem dX6_comes_174 : decode cX6_comes 174 = .ok (.iconst 0, 1) := by decide +kernel
theorem dX6_comes_175 : decode cX6_comes 175 = .ok (.putfield 65, 3) := by decide +kernel
theorem dX6_comes_178 : decode cX6_comes 178 = .ok (.iconst 1, 1) := by decide +kernel
theorem dX6_comes_179 : decode cX6_comes 179 = .ok (.ireturn, 1) := by decide +kernel
theorem dX6_rink_0 : decode cX6_rink 0 = .ok (.aload_n 0, 1) := by decide +kernel
theorem dX6_rink_1 : decode cX6_rink 1 = .ok (.iconst 0, 1) := by decide +kernel
theorem dX6_rink_2 : decode cX6_rink 2 = .ok (.putfield 55, 3) := by decide +kernel
theorem dX6_rink_5 : decode cX6_rink 5 = .ok (.aload_n 0, 1) := by decide +kernel
theorem dX6_rink_6 : decode cX6_rink 6 = .ok (.iconst 0, 1) := by decide +kernel
theorem dX6_rink_7 : decode cX6_rink 7 = .ok (.putfield 108, 3) := by decide +kernel
theorem dX6_rink_10 : decode cX6_rink 10 = .ok (.aload_n 0, 1) := by decide +kernel
theorem dX6_rink_11 : decode cX6_rink 11 = .ok (.iconst 0, 1) := by decide +kernel
theorem dX6_rink_12 : decode cX6_rink 12 = .ok (.putfield 111, 3) := by decide +kernel
theorem dX6_rink_15 : decode cX6_rink 15 = .ok (.aload_n 0, 1) := by decide +kernel
theorem dX6_rink_16 : decode cX6_rink 16 = .ok (.iconst 0, 1) := by decide +kernel
theorem dX6_rink_17 : decode cX6_rink 17 = .ok (.putfield 126, 3) := by decide +kernel
theorem dX6_rink_20 : decode cX6_rink 20 = .ok (.aload_n 0, 1) := by decide +kernel
theorem dX6_rink_21 : decode cX6_rink 21 = .ok (.getfield 111, 3) := by decide +kernel
theorem dX6_rink_24 : decode cX6_rink 24 = .ok (.ifCond .ne 28, 3) := by decide +kernel
theorem dX6_rink_27 : decode cX6_rink 27 = .ok (.aload_n 0, 1) := by decide +kernel
theorem dX6_rink_28 : decode cX6_rink 28 = .ok (.getfield 126, 3) := by decide +kernel
theorem dX6_rink_31 : decode cX6_rink 31 = .ok (.ifCond .eq 14, 3) := by decide +kernel
theorem dX6_rink_34 : decode cX6_rink 34 = .ok (.aload_n 0, 1) := by decide +kernel
theorem dX6_rink_35 : decode cX6_rink 35 = .ok (.getfield 108, 3) := by decide +kernel
theorem dX6_rink_38 : decode cX6_rink 38 = .ok (.aload_n 0, 1) := by decide +kernel
theorem dX6_rink_39 : decode cX6_rink 39 = .ok (.getfield 105, 3) := by decide +kernel
theorem dX6_rink_42 : decode cX6_rink 42 = .ok (.if_icmp .ge 10, 3) := by decide +kernel
theorem dX6_rink_45 : decode cX6_rink 45 = .ok (.aload_n 0, 1) := by decide +kernel
theorem dX6_rink_46 : decode cX6_rink 46 = .ok (.invokevirtual 176, 3) := by decide +kernel
theorem dX6_rink_49 : decode cX6_rink 49 = .ok (.goto (-29), 3) := by decide +kernel
theorem dX6_rink_52 : decode cX6_rink 52 = .ok (.aload_n 0, 1) := by decide +kernel
theorem dX6_rink_53 : decode cX6_rink 53 = .ok (.iconst 0, 1) := by decide +kernel
theorem dX6_rink_54 : decode cX6_rink 54 = .ok (.putfield 105, 3) := by decide +kernel
theorem dX6_rink_57 : decode cX6_rink 57 = .ok (.aload_n 0, 1) := by decide +kernel
theorem dX6_rink_58 : decode cX6_rink 58 = .ok (.getfield 111, 3) := by decide +kernel
theorem dX6_rink_61 : decode cX6_rink 61 = .ok (.ifCond .eq 12, 3) := by decide +kernel
theorem dX6_rink_64 : decode cX6_rink 64 = .ok (.sipush (-1000), 3) := by decide +kernel
theorem dX6_rink_67 : decode cX6_rink 67 = .ok (.aload_n 0, 1) := by decide +kernel
theorem dX6_rink_68 : decode cX6_rink 68 = .ok (.getfield 108, 3) := by decide +kernel
theorem dX6_rink_71 : decode cX6_rink 71 = .ok (.isub, 1) := by decide +kernel
theorem dX6_rink_72 : decode cX6_rink 72 = .ok (.ireturn, 1) := by decide +kernel
theorem dX6_rink_73 : decode cX6_rink 73 = .ok (.aload_n 0, 1) := by decide +kernel
theorem dX6_rink_74 : decode cX6_rink 74 = .ok (.aload_n 0, 1) := by decide +kernel
theorem dX6_rink_75 : decode cX6_rink 75 = .ok (.getfield 46, 3) := by decide +kernel
theorem dX6_rink_78 : decode cX6_rink 78 = .ok (.iconst 1, 1) := by decide +kernel
theorem dX6_rink_79 : decode cX6_rink 79 = .ok (.invokevirtual 179, 3) := by decide +kernel
theorem dX6_rink_82 : decode cX6_rink 82 = .ok (.iconst 0, 1) := by decide +kernel
theorem dX6_rink_83 : decode cX6_rink 83 = .ok (.istore_n 1, 1) := by decide +kernel
theorem dX6_rink_84 : decode cX6_rink 84 = .ok (.iload_n 1, 1) := by decide +kernel
theorem dX6_rink_85 : decode cX6_rink 85 = .ok (.aload_n 0, 1) := by decide +kernel
theorem dX6_rink_86 : decode cX6_rink 86 = .ok (.getfield 126, 3) := by decide +kernel
theorem dX6_rink_89 : decode cX6_rink 89 = .ok (.if_icmp .ge 37, 3) := by decide +kernel
theorem dX6_rink_92 : decode cX6_rink 92 = .ok (.aload_n 0, 1) := by decide +kernel
theorem dX6_rink_93 : decode cX6_rink 93 = .ok (.iload_n 1, 1) := by decide +kernel
theorem dX6_rink_94 : decode cX6_rink 94 = .ok (.invokevirtual 183, 3) := by decide +kernel
