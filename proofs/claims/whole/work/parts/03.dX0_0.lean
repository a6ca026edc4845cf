theorem dX0_init_0 : decode cX0_init 0 = .ok (.aload_n 0, 1) := by decide +kernel
theorem dX0_init_1 : decode cX0_init 1 = .ok (.invokespecial 3, 3) := by decide +kernel
theorem dX0_init_4 : decode cX0_init 4 = .ok (.aload_n 0, 1) := by decide +kernel
theorem dX0_init_5 : decode cX0_init 5 = .ok (.bipush 96, 2) := by decide +kernel
theorem dX0_init_7 : decode cX0_init 7 = .ok (.newarray .int, 2) := by decide +kernel
theorem dX0_init_9 : decode cX0_init 9 = .ok (.putfield 9, 3) := by decide +kernel
theorem dX0_init_12 : decode cX0_init 12 = .ok (.aload_n 0, 1) := by decide +kernel
theorem dX0_init_13 : decode cX0_init 13 = .ok (.bipush 96, 2) := by decide +kernel
theorem dX0_init_15 : decode cX0_init 15 = .ok (.newarray .int, 2) := by decide +kernel
theorem dX0_init_17 : decode cX0_init 17 = .ok (.putfield 15, 3) := by decide +kernel
theorem dX0_init_20 : decode cX0_init 20 = .ok (.return_, 1) := by decide +kernel
theorem dX0_add_0 : decode cX0_add 0 = .ok (.aload_n 0, 1) := by decide +kernel
theorem dX0_add_1 : decode cX0_add 1 = .ok (.getfield 18, 3) := by decide +kernel
theorem dX0_add_4 : decode cX0_add 4 = .ok (.bipush 96, 2) := by decide +kernel
theorem dX0_add_6 : decode cX0_add 6 = .ok (.if_icmp .ge 23, 3) := by decide +kernel
theorem dX0_add_9 : decode cX0_add 9 = .ok (.aload_n 0, 1) := by decide +kernel
theorem dX0_add_10 : decode cX0_add 10 = .ok (.getfield 9, 3) := by decide +kernel
theorem dX0_add_13 : decode cX0_add 13 = .ok (.aload_n 0, 1) := by decide +kernel
theorem dX0_add_14 : decode cX0_add 14 = .ok (.getfield 18, 3) := by decide +kernel
theorem dX0_add_17 : decode cX0_add 17 = .ok (.iload_n 1, 1) := by decide +kernel
theorem dX0_add_18 : decode cX0_add 18 = .ok (.iastore, 1) := by decide +kernel
theorem dX0_add_19 : decode cX0_add 19 = .ok (.aload_n 0, 1) := by decide +kernel
theorem dX0_add_20 : decode cX0_add 20 = .ok (.dup, 1) := by decide +kernel
theorem dX0_add_21 : decode cX0_add 21 = .ok (.getfield 18, 3) := by decide +kernel
theorem dX0_add_24 : decode cX0_add 24 = .ok (.iconst 1, 1) := by decide +kernel
theorem dX0_add_25 : decode cX0_add 25 = .ok (.iadd, 1) := by decide +kernel
theorem dX0_add_26 : decode cX0_add 26 = .ok (.putfield 18, 3) := by decide +kernel
theorem dX0_add_29 : decode cX0_add 29 = .ok (.return_, 1) := by decide +kernel
theorem dX0_tellTo_0 : decode cX0_tellTo 0 = .ok (.aload_n 0, 1) := by decide +kernel
theorem dX0_tellTo_1 : decode cX0_tellTo 1 = .ok (.invokevirtual 22, 3) := by decide +kernel
theorem dX0_tellTo_4 : decode cX0_tellTo 4 = .ok (.ifCond .eq 14, 3) := by decide +kernel
theorem dX0_tellTo_7 : decode cX0_tellTo 7 = .ok (.aload_n 0, 1) := by decide +kernel
theorem dX0_tellTo_8 : decode cX0_tellTo 8 = .ok (.aload_n 1, 1) := by decide +kernel
theorem dX0_tellTo_9 : decode cX0_tellTo 9 = .ok (.getfield 26, 3) := by decide +kernel
theorem dX0_tellTo_12 : decode cX0_tellTo 12 = .ok (.invokevirtual 31, 3) := by decide +kernel
theorem dX0_tellTo_15 : decode cX0_tellTo 15 = .ok (.goto 11, 3) := by decide +kernel
theorem dX0_tellTo_18 : decode cX0_tellTo 18 = .ok (.sipush (-1000), 3) := by decide +kernel
theorem dX0_tellTo_21 : decode cX0_tellTo 21 = .ok (.aload_n 0, 1) := by decide +kernel
theorem dX0_tellTo_22 : decode cX0_tellTo 22 = .ok (.getfield 35, 3) := by decide +kernel
theorem dX0_tellTo_25 : decode cX0_tellTo 25 = .ok (.isub, 1) := by decide +kernel
theorem dX0_tellTo_26 : decode cX0_tellTo 26 = .ok (.istore_n 2, 1) := by decide +kernel
theorem dX0_tellTo_27 : decode cX0_tellTo 27 = .ok (.iload_n 2, 1) := by decide +kernel
theorem dX0_tellTo_28 : decode cX0_tellTo 28 = .ok (.ifCond .ne 35, 3) := by decide +kernel
theorem dX0_tellTo_31 : decode cX0_tellTo 31 = .ok (.iconst 0, 1) := by decide +kernel
theorem dX0_tellTo_32 : decode cX0_tellTo 32 = .ok (.istore_n 3, 1) := by decide +kernel
theorem dX0_tellTo_33 : decode cX0_tellTo 33 = .ok (.iload_n 3, 1) := by decide +kernel
theorem dX0_tellTo_34 : decode cX0_tellTo 34 = .ok (.aload_n 0, 1) := by decide +kernel
theorem dX0_tellTo_35 : decode cX0_tellTo 35 = .ok (.getfield 38, 3) := by decide +kernel
theorem dX0_tellTo_38 : decode cX0_tellTo 38 = .ok (.if_icmp .ge 20, 3) := by decide +kernel
theorem dX0_tellTo_41 : decode cX0_tellTo 41 = .ok (.aload_n 0, 1) := by decide +kernel
theorem dX0_tellTo_42 : decode cX0_tellTo 42 = .ok (.aload_n 0, 1) := by decide +kernel
theorem dX0_tellTo_43 : decode cX0_tellTo 43 = .ok (.getfield 15, 3) := by decide +kernel
theorem dX0_tellTo_46 : decode cX0_tellTo 46 = .ok (.iload_n 3, 1) := by decide +kernel
theorem dX0_tellTo_47 : decode cX0_tellTo 47 = .ok (.iaload, 1) := by decide +kernel
theorem dX0_tellTo_48 : decode cX0_tellTo 48 = .ok (.aload_n 1, 1) := by decide +kernel
theorem dX0_tellTo_49 : decode cX0_tellTo 49 = .ok (.invokevirtual 41, 3) := by decide +kernel
theorem dX0_tellTo_52 : decode cX0_tellTo 52 = .ok (.iinc 3 1, 3) := by decide +kernel
theorem dX0_tellTo_55 : decode cX0_tellTo 55 = .ok (.goto (-22), 3) := by decide +kernel
theorem dX0_tellTo_58 : decode cX0_tellTo 58 = .ok (.aload_n 0, 1) := by decide +kernel
theorem dX0_tellTo_59 : decode cX0_tellTo 59 = .ok (.getfield 38, 3) := by decide +kernel
theorem dX0_tellTo_62 : decode cX0_tellTo 62 = .ok (.istore_n 2, 1) := by decide +kernel
theorem dX0_tellTo_63 : decode cX0_tellTo 63 = .ok (.aload_n 0, 1) := by decide +kernel
theorem dX0_tellTo_64 : decode cX0_tellTo 64 = .ok (.iconst 0, 1) := by decide +kernel
theorem dX0_tellTo_65 : decode cX0_tellTo 65 = .ok (.putfield 18, 3) := by decide +kernel
theorem dX0_tellTo_68 : decode cX0_tellTo 68 = .ok (.iload_n 2, 1) := by decide +kernel
theorem dX0_tellTo_69 : decode cX0_tellTo 69 = .ok (.ireturn, 1) := by decide +kernel
theorem dX0_passAll_0 : decode cX0_passAll 0 = .ok (.aload_n 0, 1) := by decide +kernel
theorem dX0_passAll_1 : decode cX0_passAll 1 = .ok (.iconst 0, 1) := by decide +kernel
theorem dX0_passAll_2 : decode cX0_passAll 2 = .ok (.putfield 35, 3) := by decide +kernel
theorem dX0_passAll_5 : decode cX0_passAll 5 = .ok (.aload_n 0, 1) := by decide +kernel
theorem dX0_passAll_6 : decode cX0_passAll 6 = .ok (.iconst 0, 1) := by decide +kernel
theorem dX0_passAll_7 : decode cX0_passAll 7 = .ok (.putfield 38, 3) := by decide +kernel
theorem dX0_passAll_10 : decode cX0_passAll 10 = .ok (.iconst 0, 1) := by decide +kernel
theorem dX0_passAll_11 : decode cX0_passAll 11 = .ok (.istore_n 1, 1) := by decide +kernel
theorem dX0_passAll_12 : decode cX0_passAll 12 = .ok (.iload_n 1, 1) := by decide +kernel
theorem dX0_passAll_13 : decode cX0_passAll 13 = .ok (.bipush 96, 2) := by decide +kernel
theorem dX0_passAll_15 : decode cX0_passAll 15 = .ok (.if_icmp .ge 51, 3) := by decide +kernel
theorem dX0_passAll_18 : decode cX0_passAll 18 = .ok (.aload_n 0, 1) := by decide +kernel
theorem dX0_passAll_19 : decode cX0_passAll 19 = .ok (.getfield 15, 3) := by decide +kernel
theorem dX0_passAll_22 : decode cX0_passAll 22 = .ok (.iload_n 1, 1) := by decide +kernel
theorem dX0_passAll_23 : decode cX0_passAll 23 = .ok (.aload_n 0, 1) := by decide +kernel
theorem dX0_passAll_24 : decode cX0_passAll 24 = .ok (.getfield 35, 3) := by decide +kernel
theorem dX0_passAll_27 : decode cX0_passAll 27 = .ok (.iastore, 1) := by decide +kernel
theorem dX0_passAll_28 : decode cX0_passAll 28 = .ok (.aload_n 0, 1) := by decide +kernel
theorem dX0_passAll_29 : decode cX0_passAll 29 = .ok (.invokevirtual 45, 3) := by decide +kernel
theorem dX0_passAll_32 : decode cX0_passAll 32 = .ok (.ifCond .ne 5, 3) := by decide +kernel
theorem dX0_passAll_35 : decode cX0_passAll 35 = .ok (.iconst 0, 1) := by decide +kernel
theorem dX0_passAll_36 : decode cX0_passAll 36 = .ok (.ireturn, 1) := by decide +kernel
theorem dX0_passAll_37 : decode cX0_passAll 37 = .ok (.aload_n 0, 1) := by decide +kernel
theorem dX0_passAll_38 : decode cX0_passAll 38 = .ok (.dup, 1) := by decide +kernel
theorem dX0_passAll_39 : decode cX0_passAll 39 = .ok (.getfield 38, 3) := by decide +kernel
theorem dX0_passAll_42 : decode cX0_passAll 42 = .ok (.iconst 1, 1) := by decide +kernel
theorem dX0_passAll_43 : decode cX0_passAll 43 = .ok (.iadd, 1) := by decide +kernel
theorem dX0_passAll_44 : decode cX0_passAll 44 = .ok (.putfield 38, 3) := by decide +kernel
theorem dX0_passAll_47 : decode cX0_passAll 47 = .ok (.aload_n 0, 1) := by decide +kernel
theorem dX0_passAll_48 : decode cX0_passAll 48 = .ok (.getfield 35, 3) := by decide +kernel
theorem dX0_passAll_51 : decode cX0_passAll 51 = .ok (.aload_n 0, 1) := by decide +kernel
theorem dX0_passAll_52 : decode cX0_passAll 52 = .ok (.getfield 18, 3) := by decide +kernel
theorem dX0_passAll_55 : decode cX0_passAll 55 = .ok (.if_icmp .lt 5, 3) := by decide +kernel
theorem dX0_passAll_58 : decode cX0_passAll 58 = .ok (.iconst 1, 1) := by decide +kernel
theorem dX0_passAll_59 : decode cX0_passAll 59 = .ok (.ireturn, 1) := by decide +kernel
theorem dX0_passAll_60 : decode cX0_passAll 60 = .ok (.iinc 1 1, 3) := by decide +kernel
theorem dX0_passAll_63 : decode cX0_passAll 63 = .ok (.goto (-51), 3) := by decide +kernel
theorem dX0_passAll_66 : decode cX0_passAll 66 = .ok (.iconst 0, 1) := by decide +kernel
theorem dX0_passAll_67 : decode cX0_passAll 67 = .ok (.ireturn, 1) := by decide +kernel
theorem dX0_passStatement_0 : decode cX0_passStatement 0 = .ok (.aload_n 0, 1) := by decide +kernel
theorem dX0_passStatement_1 : decode cX0_passStatement 1 = .ok (.aload_n 0, 1) := by decide +kernel
theorem dX0_passStatement_2 : decode cX0_passStatement 2 = .ok (.getfield 35, 3) := by decide +kernel
theorem dX0_passStatement_5 : decode cX0_passStatement 5 = .ok (.invokevirtual 48, 3) := by decide +kernel
theorem dX0_passStatement_8 : decode cX0_passStatement 8 = .ok (.tableswitch 162 104 119 #[138, 162, 162, 132, 162, 162, 162, 144, 162, 162, 162, 80, 150, 162, 162, 156], 80) := by decide +kernel
theorem dX0_passStatement_88 : decode cX0_passStatement 88 = .ok (.aload_n 0, 1) := by decide +kernel
theorem dX0_passStatement_89 : decode cX0_passStatement 89 = .ok (.dup, 1) := by decide +kernel
theorem dX0_passStatement_90 : decode cX0_passStatement 90 = .ok (.getfield 35, 3) := by decide +kernel
theorem dX0_passStatement_93 : decode cX0_passStatement 93 = .ok (.iconst 1, 1) := by decide +kernel
theorem dX0_passStatement_94 : decode cX0_passStatement 94 = .ok (.iadd, 1) := by decide +kernel
theorem dX0_passStatement_95 : decode cX0_passStatement 95 = .ok (.putfield 35, 3) := by decide +kernel
theorem dX0_passStatement_98 : decode cX0_passStatement 98 = .ok (.aload_n 0, 1) := by decide +kernel
theorem dX0_passStatement_99 : decode cX0_passStatement 99 = .ok (.iconst 1, 1) := by decide +kernel
theorem dX0_passStatement_100 : decode cX0_passStatement 100 = .ok (.iconst 1, 1) := by decide +kernel
theorem dX0_passStatement_101 : decode cX0_passStatement 101 = .ok (.invokevirtual 51, 3) := by decide +kernel
theorem dX0_passStatement_104 : decode cX0_passStatement 104 = .ok (.ifCond .eq 34, 3) := by decide +kernel
theorem dX0_passStatement_107 : decode cX0_passStatement 107 = .ok (.aload_n 0, 1) := by decide +kernel
theorem dX0_passStatement_108 : decode cX0_passStatement 108 = .ok (.bipush 61, 2) := by decide +kernel
theorem dX0_passStatement_110 : decode cX0_passStatement 110 = .ok (.invokevirtual 55, 3) := by decide +kernel
theorem dX0_passStatement_113 : decode cX0_passStatement 113 = .ok (.ifCond .eq 25, 3) := by decide +kernel
theorem dX0_passStatement_116 : decode cX0_passStatement 116 = .ok (.aload_n 0, 1) := by decide +kernel
theorem dX0_passStatement_117 : decode cX0_passStatement 117 = .ok (.iconst 1, 1) := by decide +kernel
theorem dX0_passStatement_118 : decode cX0_passStatement 118 = .ok (.iconst 3, 1) := by decide +kernel
theorem dX0_passStatement_119 : decode cX0_passStatement 119 = .ok (.invokevirtual 51, 3) := by decide +kernel
theorem dX0_passStatement_122 : decode cX0_passStatement 122 = .ok (.ifCond .eq 16, 3) := by decide +kernel
theorem dX0_passStatement_125 : decode cX0_passStatement 125 = .ok (.aload_n 0, 1) := by decide +kernel
theorem dX0_passStatement_126 : decode cX0_passStatement 126 = .ok (.bipush 59, 2) := by decide +kernel
theorem dX0_passStatement_128 : decode cX0_passStatement 128 = .ok (.invokevirtual 55, 3) := by decide +kernel
theorem dX0_passStatement_131 : decode cX0_passStatement 131 = .ok (.ifCond .eq 7, 3) := by decide +kernel
theorem dX0_passStatement_134 : decode cX0_passStatement 134 = .ok (.iconst 1, 1) := by decide +kernel
theorem dX0_passStatement_135 : decode cX0_passStatement 135 = .ok (.goto 4, 3) := by decide +kernel
theorem dX0_passStatement_138 : decode cX0_passStatement 138 = .ok (.iconst 0, 1) := by decide +kernel
theorem dX0_passStatement_139 : decode cX0_passStatement 139 = .ok (.ireturn, 1) := by decide +kernel
theorem dX0_passStatement_140 : decode cX0_passStatement 140 = .ok (.aload_n 0, 1) := by decide +kernel
theorem dX0_passStatement_141 : decode cX0_passStatement 141 = .ok (.iconst 2, 1) := by decide +kernel
theorem dX0_passStatement_142 : decode cX0_passStatement 142 = .ok (.invokevirtual 59, 3) := by decide +kernel
theorem dX0_passStatement_145 : decode cX0_passStatement 145 = .ok (.ireturn, 1) := by decide +kernel
theorem dX0_passStatement_146 : decode cX0_passStatement 146 = .ok (.aload_n 0, 1) := by decide +kernel
theorem dX0_passStatement_147 : decode cX0_passStatement 147 = .ok (.iconst 4, 1) := by decide +kernel
theorem dX0_passStatement_148 : decode cX0_passStatement 148 = .ok (.invokevirtual 59, 3) := by decide +kernel
theorem dX0_passStatement_151 : decode cX0_passStatement 151 = .ok (.ireturn, 1) := by decide +kernel
theorem dX0_passStatement_152 : decode cX0_passStatement 152 = .ok (.aload_n 0, 1) := by decide +kernel
theorem dX0_passStatement_153 : decode cX0_passStatement 153 = .ok (.iconst 5, 1) := by decide +kernel
theorem dX0_passStatement_154 : decode cX0_passStatement 154 = .ok (.invokevirtual 59, 3) := by decide +kernel
theorem dX0_passStatement_157 : decode cX0_passStatement 157 = .ok (.ireturn, 1) := by decide +kernel
theorem dX0_passStatement_158 : decode cX0_passStatement 158 = .ok (.aload_n 0, 1) := by decide +kernel
theorem dX0_passStatement_159 : decode cX0_passStatement 159 = .ok (.iconst 3, 1) := by decide +kernel
theorem dX0_passStatement_160 : decode cX0_passStatement 160 = .ok (.invokevirtual 59, 3) := by decide +kernel
theorem dX0_passStatement_163 : decode cX0_passStatement 163 = .ok (.ireturn, 1) := by decide +kernel
theorem dX0_passStatement_164 : decode cX0_passStatement 164 = .ok (.aload_n 0, 1) := by decide +kernel
theorem dX0_passStatement_165 : decode cX0_passStatement 165 = .ok (.iconst 0, 1) := by decide +kernel
theorem dX0_passStatement_166 : decode cX0_passStatement 166 = .ok (.invokevirtual 59, 3) := by decide +kernel
theorem dX0_passStatement_169 : decode cX0_passStatement 169 = .ok (.ireturn, 1) := by decide +kernel
theorem dX0_passStatement_170 : decode cX0_passStatement 170 = .ok (.iconst 0, 1) := by decide +kernel
theorem dX0_passStatement_171 : decode cX0_passStatement 171 = .ok (.ireturn, 1) := by decide +kernel
theorem dX0_passPlain_0 : decode cX0_passPlain 0 = .ok (.aload_n 0, 1) := by decide +kernel
theorem dX0_passPlain_1 : decode cX0_passPlain 1 = .ok (.dup, 1) := by decide +kernel
theorem dX0_passPlain_2 : decode cX0_passPlain 2 = .ok (.getfield 35, 3) := by decide +kernel
theorem dX0_passPlain_5 : decode cX0_passPlain 5 = .ok (.iconst 1, 1) := by decide +kernel
theorem dX0_passPlain_6 : decode cX0_passPlain 6 = .ok (.iadd, 1) := by decide +kernel
theorem dX0_passPlain_7 : decode cX0_passPlain 7 = .ok (.putfield 35, 3) := by decide +kernel
theorem dX0_passPlain_10 : decode cX0_passPlain 10 = .ok (.aload_n 0, 1) := by decide +kernel
theorem dX0_passPlain_11 : decode cX0_passPlain 11 = .ok (.iload_n 1, 1) := by decide +kernel
theorem dX0_passPlain_12 : decode cX0_passPlain 12 = .ok (.iload_n 1, 1) := by decide +kernel
theorem dX0_passPlain_13 : decode cX0_passPlain 13 = .ok (.invokevirtual 51, 3) := by decide +kernel
theorem dX0_passPlain_16 : decode cX0_passPlain 16 = .ok (.ifCond .eq 16, 3) := by decide +kernel
theorem dX0_passPlain_19 : decode cX0_passPlain 19 = .ok (.aload_n 0, 1) := by decide +kernel
theorem dX0_passPlain_20 : decode cX0_passPlain 20 = .ok (.bipush 59, 2) := by decide +kernel
theorem dX0_passPlain_22 : decode cX0_passPlain 22 = .ok (.invokevirtual 55, 3) := by decide +kernel
theorem dX0_passPlain_25 : decode cX0_passPlain 25 = .ok (.ifCond .eq 7, 3) := by decide +kernel
theorem dX0_passPlain_28 : decode cX0_passPlain 28 = .ok (.iconst 1, 1) := by decide +kernel
theorem dX0_passPlain_29 : decode cX0_passPlain 29 = .ok (.goto 4, 3) := by decide +kernel
theorem dX0_passPlain_32 : decode cX0_passPlain 32 = .ok (.iconst 0, 1) := by decide +kernel
theorem dX0_passPlain_33 : decode cX0_passPlain 33 = .ok (.ireturn, 1) := by decide +kernel
theorem dX0_passDigits_0 : decode cX0_passDigits 0 = .ok (.iconst 0, 1) := by decide +kernel
theorem dX0_passDigits_1 : decode cX0_passDigits 1 = .ok (.istore_n 3, 1) := by decide +kernel
theorem dX0_passDigits_2 : decode cX0_passDigits 2 = .ok (.iload_n 3, 1) := by decide +kernel
theorem dX0_passDigits_3 : decode cX0_passDigits 3 = .ok (.iload_n 2, 1) := by decide +kernel
theorem dX0_passDigits_4 : decode cX0_passDigits 4 = .ok (.if_icmp .ge 37, 3) := by decide +kernel
theorem dX0_passDigits_7 : decode cX0_passDigits 7 = .ok (.aload_n 0, 1) := by decide +kernel
theorem dX0_passDigits_8 : decode cX0_passDigits 8 = .ok (.aload_n 0, 1) := by decide +kernel
theorem dX0_passDigits_9 : decode cX0_passDigits 9 = .ok (.getfield 35, 3) := by decide +kernel
theorem dX0_passDigits_12 : decode cX0_passDigits 12 = .ok (.invokevirtual 48, 3) := by decide +kernel
theorem dX0_passDigits_15 : decode cX0_passDigits 15 = .ok (.bipush 48, 2) := by decide +kernel
theorem dX0_passDigits_17 : decode cX0_passDigits 17 = .ok (.bipush 57, 2) := by decide +kernel
theorem dX0_passDigits_19 : decode cX0_passDigits 19 = .ok (.invokestatic 62, 3) := by decide +kernel
theorem dX0_passDigits_22 : decode cX0_passDigits 22 = .ok (.ifCond .eq 19, 3) := by decide +kernel
theorem dX0_passDigits_25 : decode cX0_passDigits 25 = .ok (.aload_n 0, 1) := by decide +kernel
theorem dX0_passDigits_26 : decode cX0_passDigits 26 = .ok (.dup, 1) := by decide +kernel
theorem dX0_passDigits_27 : decode cX0_passDigits 27 = .ok (.getfield 35, 3) := by decide +kernel
theorem dX0_passDigits_30 : decode cX0_passDigits 30 = .ok (.iconst 1, 1) := by decide +kernel
theorem dX0_passDigits_31 : decode cX0_passDigits 31 = .ok (.iadd, 1) := by decide +kernel
theorem dX0_passDigits_32 : decode cX0_passDigits 32 = .ok (.putfield 35, 3) := by decide +kernel
theorem dX0_passDigits_35 : decode cX0_passDigits 35 = .ok (.iinc 3 1, 3) := by decide +kernel
theorem dX0_passDigits_38 : decode cX0_passDigits 38 = .ok (.goto (-36), 3) := by decide +kernel
theorem dX0_passDigits_41 : decode cX0_passDigits 41 = .ok (.iload_n 3, 1) := by decide +kernel
theorem dX0_passDigits_42 : decode cX0_passDigits 42 = .ok (.iload_n 1, 1) := by decide +kernel
theorem dX0_passDigits_43 : decode cX0_passDigits 43 = .ok (.if_icmp .lt 7, 3) := by decide +kernel
theorem dX0_passDigits_46 : decode cX0_passDigits 46 = .ok (.iconst 1, 1) := by decide +kernel
theorem dX0_passDigits_47 : decode cX0_passDigits 47 = .ok (.goto 4, 3) := by decide +kernel
theorem dX0_passDigits_50 : decode cX0_passDigits 50 = .ok (.iconst 0, 1) := by decide +kernel
theorem dX0_passDigits_51 : decode cX0_passDigits 51 = .ok (.ireturn, 1) := by decide +kernel
theorem dX0_passSign_0 : decode cX0_passSign 0 = .ok (.aload_n 0, 1) := by decide +kernel
theorem dX0_passSign_1 : decode cX0_passSign 1 = .ok (.aload_n 0, 1) := by decide +kernel
theorem dX0_passSign_2 : decode cX0_passSign 2 = .ok (.getfield 35, 3) := by decide +kernel
theorem dX0_passSign_5 : decode cX0_passSign 5 = .ok (.invokevirtual 48, 3) := by decide +kernel
theorem dX0_passSign_8 : decode cX0_passSign 8 = .ok (.iload_n 1, 1) := by decide +kernel
theorem dX0_passSign_9 : decode cX0_passSign 9 = .ok (.if_icmp .eq 5, 3) := by decide +kernel
theorem dX0_passSign_12 : decode cX0_passSign 12 = .ok (.iconst 0, 1) := by decide +kernel
theorem dX0_passSign_13 : decode cX0_passSign 13 = .ok (.ireturn, 1) := by decide +kernel
theorem dX0_passSign_14 : decode cX0_passSign 14 = .ok (.aload_n 0, 1) := by decide +kernel
theorem dX0_passSign_15 : decode cX0_passSign 15 = .ok (.dup, 1) := by decide +kernel
theorem dX0_passSign_16 : decode cX0_passSign 16 = .ok (.getfield 35, 3) := by decide +kernel
theorem dX0_passSign_19 : decode cX0_passSign 19 = .ok (.iconst 1, 1) := by decide +kernel
theorem dX0_passSign_20 : decode cX0_passSign 20 = .ok (.iadd, 1) := by decide +kernel
theorem dX0_passSign_21 : decode cX0_passSign 21 = .ok (.putfield 35, 3) := by decide +kernel
theorem dX0_passSign_24 : decode cX0_passSign 24 = .ok (.iconst 1, 1) := by decide +kernel
theorem dX0_passSign_25 : decode cX0_passSign 25 = .ok (.ireturn, 1) := by decide +kernel
theorem dX0_signAt_0 : decode cX0_signAt 0 = .ok (.iload_n 1, 1) := by decide +kernel
theorem dX0_signAt_1 : decode cX0_signAt 1 = .ok (.ifCond .lt 20, 3) := by decide +kernel
theorem dX0_signAt_4 : decode cX0_signAt 4 = .ok (.iload_n 1, 1) := by decide +kernel
theorem dX0_signAt_5 : decode cX0_signAt 5 = .ok (.aload_n 0, 1) := by decide +kernel
theorem dX0_signAt_6 : decode cX0_signAt 6 = .ok (.getfield 18, 3) := by decide +kernel
theorem dX0_signAt_9 : decode cX0_signAt 9 = .ok (.if_icmp .ge 12, 3) := by decide +kernel
theorem dX0_signAt_12 : decode cX0_signAt 12 = .ok (.aload_n 0, 1) := by decide +kernel
theorem dX0_signAt_13 : decode cX0_signAt 13 = .ok (.getfield 9, 3) := by decide +kernel
theorem dX0_signAt_16 : decode cX0_signAt 16 = .ok (.iload_n 1, 1) := by decide +kernel
theorem dX0_signAt_17 : decode cX0_signAt 17 = .ok (.iaload, 1) := by decide +kernel
theorem dX0_signAt_18 : decode cX0_signAt 18 = .ok (.goto 5, 3) := by decide +kernel
theorem dX0_signAt_21 : decode cX0_signAt 21 = .ok (.bipush (-9), 2) := by decide +kernel
theorem dX0_signAt_23 : decode cX0_signAt 23 = .ok (.ireturn, 1) := by decide +kernel
theorem dX0_numberAt_0 : decode cX0_numberAt 0 = .ok (.iconst 0, 1) := by decide +kernel
theorem dX0_numberAt_1 : decode cX0_numberAt 1 = .ok (.istore_n 3, 1) := by decide +kernel
theorem dX0_numberAt_2 : decode cX0_numberAt 2 = .ok (.iconst 0, 1) := by decide +kernel
theorem dX0_numberAt_3 : decode cX0_numberAt 3 = .ok (.istore 4, 2) := by decide +kernel
theorem dX0_numberAt_5 : decode cX0_numberAt 5 = .ok (.iload 4, 2) := by decide +kernel
theorem dX0_numberAt_7 : decode cX0_numberAt 7 = .ok (.iload_n 2, 1) := by decide +kernel
theorem dX0_numberAt_8 : decode cX0_numberAt 8 = .ok (.if_icmp .ge 26, 3) := by decide +kernel
theorem dX0_numberAt_11 : decode cX0_numberAt 11 = .ok (.bipush 10, 2) := by decide +kernel
theorem dX0_numberAt_13 : decode cX0_numberAt 13 = .ok (.iload_n 3, 1) := by decide +kernel
theorem dX0_numberAt_14 : decode cX0_numberAt 14 = .ok (.imul, 1) := by decide +kernel
theorem dX0_numberAt_15 : decode cX0_numberAt 15 = .ok (.aload_n 0, 1) := by decide +kernel
theorem dX0_numberAt_16 : decode cX0_numberAt 16 = .ok (.iload_n 1, 1) := by decide +kernel
theorem dX0_numberAt_17 : decode cX0_numberAt 17 = .ok (.iload 4, 2) := by decide +kernel
theorem dX0_numberAt_19 : decode cX0_numberAt 19 = .ok (.iadd, 1) := by decide +kernel
theorem dX0_numberAt_20 : decode cX0_numberAt 20 = .ok (.invokevirtual 48, 3) := by decide +kernel
theorem dX0_numberAt_23 : decode cX0_numberAt 23 = .ok (.iadd, 1) := by decide +kernel
theorem dX0_numberAt_24 : decode cX0_numberAt 24 = .ok (.bipush 48, 2) := by decide +kernel
theorem dX0_numberAt_26 : decode cX0_numberAt 26 = .ok (.isub, 1) := by decide +kernel
theorem dX0_numberAt_27 : decode cX0_numberAt 27 = .ok (.istore_n 3, 1) := by decide +kernel
theorem dX0_numberAt_28 : decode cX0_numberAt 28 = .ok (.iinc 4 1, 3) := by decide +kernel
theorem dX0_numberAt_31 : decode cX0_numberAt 31 = .ok (.goto (-26), 3) := by decide +kernel
theorem dX0_numberAt_34 : decode cX0_numberAt 34 = .ok (.iload_n 3, 1) := by decide +kernel
theorem dX0_numberAt_35 : decode cX0_numberAt 35 = .ok (.ireturn, 1) := by decide +kernel
theorem dX0_digitAt_0 : decode cX0_digitAt 0 = .ok (.aload_n 0, 1) := by decide +kernel
theorem dX0_digitAt_1 : decode cX0_digitAt 1 = .ok (.iload_n 1, 1) := by decide +kernel
theorem dX0_digitAt_2 : decode cX0_digitAt 2 = .ok (.invokevirtual 48, 3) := by decide +kernel
theorem dX0_digitAt_5 : decode cX0_digitAt 5 = .ok (.bipush 48, 2) := by decide +kernel
theorem dX0_digitAt_7 : decode cX0_digitAt 7 = .ok (.isub, 1) := by decide +kernel
theorem dX0_digitAt_8 : decode cX0_digitAt 8 = .ok (.ireturn, 1) := by decide +kernel
theorem dX0_settingNumber_0 : decode cX0_settingNumber 0 = .ok (.iconst 1, 1) := by decide +kernel
theorem dX0_settingNumber_1 : decode cX0_settingNumber 1 = .ok (.istore_n 2, 1) := by decide +kernel
theorem dX0_settingNumber_2 : decode cX0_settingNumber 2 = .ok (.iload_n 2, 1) := by decide +kernel
theorem dX0_settingNumber_3 : decode cX0_settingNumber 3 = .ok (.iconst 3, 1) := by decide +kernel
theorem dX0_settingNumber_4 : decode cX0_settingNumber 4 = .ok (.if_icmp .ge 23, 3) := by decide +kernel
theorem dX0_settingNumber_7 : decode cX0_settingNumber 7 = .ok (.aload_n 0, 1) := by decide +kernel
theorem dX0_settingNumber_8 : decode cX0_settingNumber 8 = .ok (.iload_n 1, 1) := by decide +kernel
theorem dX0_settingNumber_9 : decode cX0_settingNumber 9 = .ok (.iconst 3, 1) := by decide +kernel
theorem dX0_settingNumber_10 : decode cX0_settingNumber 10 = .ok (.iadd, 1) := by decide +kernel
theorem dX0_settingNumber_11 : decode cX0_settingNumber 11 = .ok (.iload_n 2, 1) := by decide +kernel
theorem dX0_settingNumber_12 : decode cX0_settingNumber 12 = .ok (.iadd, 1) := by decide +kernel
theorem dX0_settingNumber_13 : decode cX0_settingNumber 13 = .ok (.invokevirtual 48, 3) := by decide +kernel
theorem dX0_settingNumber_16 : decode cX0_settingNumber 16 = .ok (.bipush 59, 2) := by decide +kernel
theorem dX0_settingNumber_18 : decode cX0_settingNumber 18 = .ok (.if_icmp .eq 9, 3) := by decide +kernel
theorem dX0_settingNumber_21 : decode cX0_settingNumber 21 = .ok (.iinc 2 1, 3) := by decide +kernel
theorem dX0_settingNumber_24 : decode cX0_settingNumber 24 = .ok (.goto (-22), 3) := by decide +kernel
theorem dX0_settingNumber_27 : decode cX0_settingNumber 27 = .ok (.aload_n 0, 1) := by decide +kernel
theorem dX0_settingNumber_28 : decode cX0_settingNumber 28 = .ok (.iload_n 1, 1) := by decide +kernel
theorem dX0_settingNumber_29 : decode cX0_settingNumber 29 = .ok (.iconst 3, 1) := by decide +kernel
theorem dX0_settingNumber_30 : decode cX0_settingNumber 30 = .ok (.iadd, 1) := by decide +kernel
theorem dX0_settingNumber_31 : decode cX0_settingNumber 31 = .ok (.iload_n 2, 1) := by decide +kernel
theorem dX0_settingNumber_32 : decode cX0_settingNumber 32 = .ok (.invokevirtual 66, 3) := by decide +kernel
theorem dX0_settingNumber_35 : decode cX0_settingNumber 35 = .ok (.ireturn, 1) := by decide +kernel
theorem dX0_faultyOne_0 : decode cX0_faultyOne 0 = .ok (.bipush 6, 2) := by decide +kernel
theorem dX0_faultyOne_2 : decode cX0_faultyOne 2 = .ok (.iload_n 1, 1) := by decide +kernel
theorem dX0_faultyOne_3 : decode cX0_faultyOne 3 = .ok (.isub, 1) := by decide +kernel
theorem dX0_faultyOne_4 : decode cX0_faultyOne 4 = .ok (.istore_n 2, 1) := by decide +kernel
theorem dX0_faultyOne_5 : decode cX0_faultyOne 5 = .ok (.iconst 0, 1) := by decide +kernel
theorem dX0_faultyOne_6 : decode cX0_faultyOne 6 = .ok (.istore_n 3, 1) := by decide +kernel
theorem dX0_faultyOne_7 : decode cX0_faultyOne 7 = .ok (.iload_n 3, 1) := by decide +kernel
theorem dX0_faultyOne_8 : decode cX0_faultyOne 8 = .ok (.aload_n 0, 1) := by decide +kernel
theorem dX0_faultyOne_9 : decode cX0_faultyOne 9 = .ok (.getfield 38, 3) := by decide +kernel
theorem dX0_faultyOne_12 : decode cX0_faultyOne 12 = .ok (.if_icmp .ge 65, 3) := by decide +kernel
theorem dX0_faultyOne_15 : decode cX0_faultyOne 15 = .ok (.aload_n 0, 1) := by decide +kernel
theorem dX0_faultyOne_16 : decode cX0_faultyOne 16 = .ok (.getfield 15, 3) := by decide +kernel
theorem dX0_faultyOne_19 : decode cX0_faultyOne 19 = .ok (.iload_n 3, 1) := by decide +kernel
theorem dX0_faultyOne_20 : decode cX0_faultyOne 20 = .ok (.iaload, 1) := by decide +kernel
theorem dX0_faultyOne_21 : decode cX0_faultyOne 21 = .ok (.istore 4, 2) := by decide +kernel
theorem dX0_faultyOne_23 : decode cX0_faultyOne 23 = .ok (.aload_n 0, 1) := by decide +kernel
theorem dX0_faultyOne_24 : decode cX0_faultyOne 24 = .ok (.iload 4, 2) := by decide +kernel
theorem dX0_faultyOne_26 : decode cX0_faultyOne 26 = .ok (.iload_n 2, 1) := by decide +kernel
theorem dX0_faultyOne_27 : decode cX0_faultyOne 27 = .ok (.invokevirtual 70, 3) := by decide +kernel
theorem dX0_faultyOne_30 : decode cX0_faultyOne 30 = .ok (.ifCond .ne 10, 3) := by decide +kernel
theorem dX0_faultyOne_33 : decode cX0_faultyOne 33 = .ok (.sipush (-2000), 3) := by decide +kernel
theorem dX0_faultyOne_36 : decode cX0_faultyOne 36 = .ok (.iload 4, 2) := by decide +kernel
theorem dX0_faultyOne_38 : decode cX0_faultyOne 38 = .ok (.isub, 1) := by decide +kernel
theorem dX0_faultyOne_39 : decode cX0_faultyOne 39 = .ok (.ireturn, 1) := by decide +kernel
theorem dX0_faultyOne_40 : decode cX0_faultyOne 40 = .ok (.aload_n 0, 1) := by decide +kernel
theorem dX0_faultyOne_41 : decode cX0_faultyOne 41 = .ok (.iload 4, 2) := by decide +kernel
theorem dX0_faultyOne_43 : decode cX0_faultyOne 43 = .ok (.invokevirtual 48, 3) := by decide +kernel
theorem dX0_faultyOne_46 : decode cX0_faultyOne 46 = .ok (.bipush 116, 2) := by decide +kernel
theorem dX0_faultyOne_48 : decode cX0_faultyOne 48 = .ok (.if_icmp .ne 9, 3) := by decide +kernel
theorem dX0_faultyOne_51 : decode cX0_faultyOne 51 = .ok (.iinc 2 (-1), 3) := by decide +kernel
theorem dX0_faultyOne_54 : decode cX0_faultyOne 54 = .ok (.goto 17, 3) := by decide +kernel
theorem dX0_faultyOne_57 : decode cX0_faultyOne 57 = .ok (.aload_n 0, 1) := by decide +kernel
theorem dX0_faultyOne_58 : decode cX0_faultyOne 58 = .ok (.iload 4, 2) := by decide +kernel
theorem dX0_faultyOne_60 : decode cX0_faultyOne 60 = .ok (.invokevirtual 48, 3) := by decide +kernel
theorem dX0_faultyOne_63 : decode cX0_faultyOne 63 = .ok (.bipush 119, 2) := by decide +kernel
theorem dX0_faultyOne_65 : decode cX0_faultyOne 65 = .ok (.if_icmp .ne 6, 3) := by decide +kernel
theorem dX0_faultyOne_68 : decode cX0_faultyOne 68 = .ok (.bipush 6, 2) := by decide +kernel
theorem dX0_faultyOne_70 : decode cX0_faultyOne 70 = .ok (.istore_n 2, 1) := by decide +kernel
theorem dX0_faultyOne_71 : decode cX0_faultyOne 71 = .ok (.iinc 3 1, 3) := by decide +kernel
theorem dX0_faultyOne_74 : decode cX0_faultyOne 74 = .ok (.goto (-67), 3) := by decide +kernel
theorem dX0_faultyOne_77 : decode cX0_faultyOne 77 = .ok (.iconst 0, 1) := by decide +kernel
theorem dX0_faultyOne_78 : decode cX0_faultyOne 78 = .ok (.ireturn, 1) := by decide +kernel
theorem dX0_isAsItMust_0 : decode cX0_isAsItMust 0 = .ok (.aload_n 0, 1) := by decide +kernel
theorem dX0_isAsItMust_1 : decode cX0_isAsItMust 1 = .ok (.iload_n 1, 1) := by decide +kernel
theorem dX0_isAsItMust_2 : decode cX0_isAsItMust 2 = .ok (.iconst 1, 1) := by decide +kernel
theorem dX0_isAsItMust_3 : decode cX0_isAsItMust 3 = .ok (.iadd, 1) := by decide +kernel
theorem dX0_isAsItMust_4 : decode cX0_isAsItMust 4 = .ok (.invokevirtual 73, 3) := by decide +kernel
theorem dX0_isAsItMust_7 : decode cX0_isAsItMust 7 = .ok (.istore_n 3, 1) := by decide +kernel
theorem dX0_isAsItMust_8 : decode cX0_isAsItMust 8 = .ok (.aload_n 0, 1) := by decide +kernel
theorem dX0_isAsItMust_9 : decode cX0_isAsItMust 9 = .ok (.iload_n 1, 1) := by decide +kernel
theorem dX0_isAsItMust_10 : decode cX0_isAsItMust 10 = .ok (.invokevirtual 48, 3) := by decide +kernel
theorem dX0_isAsItMust_13 : decode cX0_isAsItMust 13 = .ok (.tableswitch 192 104 116 #[102, 192, 192, 94, 192, 192, 192, 134, 192, 192, 192, 67, 147], 67) := by decide +kernel
theorem dX0_isAsItMust_80 : decode cX0_isAsItMust 80 = .ok (.iload_n 3, 1) := by decide +kernel
theorem dX0_isAsItMust_81 : decode cX0_isAsItMust 81 = .ok (.iconst 0, 1) := by decide +kernel
theorem dX0_isAsItMust_82 : decode cX0_isAsItMust 82 = .ok (.iconst 4, 1) := by decide +kernel
theorem dX0_isAsItMust_83 : decode cX0_isAsItMust 83 = .ok (.invokestatic 62, 3) := by decide +kernel
theorem dX0_isAsItMust_86 : decode cX0_isAsItMust 86 = .ok (.ifCond .eq 19, 3) := by decide +kernel
theorem dX0_isAsItMust_89 : decode cX0_isAsItMust 89 = .ok (.iload_n 3, 1) := by decide +kernel
theorem dX0_isAsItMust_90 : decode cX0_isAsItMust 90 = .ok (.aload_n 0, 1) := by decide +kernel
theorem dX0_isAsItMust_91 : decode cX0_isAsItMust 91 = .ok (.iload_n 1, 1) := by decide +kernel
theorem dX0_isAsItMust_92 : decode cX0_isAsItMust 92 = .ok (.invokevirtual 76, 3) := by decide +kernel
theorem dX0_isAsItMust_95 : decode cX0_isAsItMust 95 = .ok (.invokestatic 79, 3) := by decide +kernel
theorem dX0_isAsItMust_98 : decode cX0_isAsItMust 98 = .ok (.ifCond .eq 7, 3) := by decide +kernel
theorem dX0_isAsItMust_101 : decode cX0_isAsItMust 101 = .ok (.iconst 1, 1) := by decide +kernel
theorem dX0_isAsItMust_102 : decode cX0_isAsItMust 102 = .ok (.goto 4, 3) := by decide +kernel
theorem dX0_isAsItMust_105 : decode cX0_isAsItMust 105 = .ok (.iconst 0, 1) := by decide +kernel
theorem dX0_isAsItMust_106 : decode cX0_isAsItMust 106 = .ok (.ireturn, 1) := by decide +kernel
theorem dX0_isAsItMust_107 : decode cX0_isAsItMust 107 = .ok (.iload_n 3, 1) := by decide +kernel
theorem dX0_isAsItMust_108 : decode cX0_isAsItMust 108 = .ok (.iconst 0, 1) := by decide +kernel
theorem dX0_isAsItMust_109 : decode cX0_isAsItMust 109 = .ok (.bipush 6, 2) := by decide +kernel
theorem dX0_isAsItMust_111 : decode cX0_isAsItMust 111 = .ok (.invokestatic 62, 3) := by decide +kernel
theorem dX0_isAsItMust_114 : decode cX0_isAsItMust 114 = .ok (.ireturn, 1) := by decide +kernel
theorem dX0_isAsItMust_115 : decode cX0_isAsItMust 115 = .ok (.iload_n 3, 1) := by decide +kernel
theorem dX0_isAsItMust_116 : decode cX0_isAsItMust 116 = .ok (.aload_n 0, 1) := by decide +kernel
theorem dX0_isAsItMust_117 : decode cX0_isAsItMust 117 = .ok (.iload_n 1, 1) := by decide +kernel
theorem dX0_isAsItMust_118 : decode cX0_isAsItMust 118 = .ok (.iconst 2, 1) := by decide +kernel
theorem dX0_isAsItMust_119 : decode cX0_isAsItMust 119 = .ok (.iadd, 1) := by decide +kernel
theorem dX0_isAsItMust_120 : decode cX0_isAsItMust 120 = .ok (.iconst 2, 1) := by decide +kernel
theorem dX0_isAsItMust_121 : decode cX0_isAsItMust 121 = .ok (.invokevirtual 66, 3) := by decide +kernel
theorem dX0_isAsItMust_124 : decode cX0_isAsItMust 124 = .ok (.invokestatic 82, 3) := by decide +kernel
theorem dX0_isAsItMust_127 : decode cX0_isAsItMust 127 = .ok (.ifCond .eq 18, 3) := by decide +kernel
theorem dX0_isAsItMust_130 : decode cX0_isAsItMust 130 = .ok (.aload_n 0, 1) := by decide +kernel
theorem dX0_isAsItMust_131 : decode cX0_isAsItMust 131 = .ok (.iload_n 1, 1) := by decide +kernel
theorem dX0_isAsItMust_132 : decode cX0_isAsItMust 132 = .ok (.iconst 4, 1) := by decide +kernel
theorem dX0_isAsItMust_133 : decode cX0_isAsItMust 133 = .ok (.iadd, 1) := by decide +kernel
theorem dX0_isAsItMust_134 : decode cX0_isAsItMust 134 = .ok (.invokevirtual 73, 3) := by decide +kernel
theorem dX0_isAsItMust_137 : decode cX0_isAsItMust 137 = .ok (.iconst 3, 1) := by decide +kernel
theorem dX0_isAsItMust_138 : decode cX0_isAsItMust 138 = .ok (.if_icmp .gt 7, 3) := by decide +kernel
theorem dX0_isAsItMust_141 : decode cX0_isAsItMust 141 = .ok (.iconst 1, 1) := by decide +kernel
theorem dX0_isAsItMust_142 : decode cX0_isAsItMust 142 = .ok (.goto 4, 3) := by decide +kernel
theorem dX0_isAsItMust_145 : decode cX0_isAsItMust 145 = .ok (.iconst 0, 1) := by decide +kernel
theorem dX0_isAsItMust_146 : decode cX0_isAsItMust 146 = .ok (.ireturn, 1) := by decide +kernel
theorem dX0_isAsItMust_147 : decode cX0_isAsItMust 147 = .ok (.iload_n 3, 1) := by decide +kernel
theorem dX0_isAsItMust_148 : decode cX0_isAsItMust 148 = .ok (.aload_n 0, 1) := by decide +kernel
theorem dX0_isAsItMust_149 : decode cX0_isAsItMust 149 = .ok (.iload_n 1, 1) := by decide +kernel
theorem dX0_isAsItMust_150 : decode cX0_isAsItMust 150 = .ok (.iconst 2, 1) := by decide +kernel
theorem dX0_isAsItMust_151 : decode cX0_isAsItMust 151 = .ok (.iadd, 1) := by decide +kernel
theorem dX0_isAsItMust_152 : decode cX0_isAsItMust 152 = .ok (.iconst 2, 1) := by decide +kernel
theorem dX0_isAsItMust_153 : decode cX0_isAsItMust 153 = .ok (.invokevirtual 66, 3) := by decide +kernel
theorem dX0_isAsItMust_156 : decode cX0_isAsItMust 156 = .ok (.invokestatic 82, 3) := by decide +kernel
theorem dX0_isAsItMust_159 : decode cX0_isAsItMust 159 = .ok (.ireturn, 1) := by decide +kernel
theorem dX0_isAsItMust_160 : decode cX0_isAsItMust 160 = .ok (.aload_n 0, 1) := by decide +kernel
theorem dX0_isAsItMust_161 : decode cX0_isAsItMust 161 = .ok (.iload_n 1, 1) := by decide +kernel
theorem dX0_isAsItMust_162 : decode cX0_isAsItMust 162 = .ok (.iconst 2, 1) := by decide +kernel
theorem dX0_isAsItMust_163 : decode cX0_isAsItMust 163 = .ok (.iadd, 1) := by decide +kernel
theorem dX0_isAsItMust_164 : decode cX0_isAsItMust 164 = .ok (.invokevirtual 73, 3) := by decide +kernel
theorem dX0_isAsItMust_167 : decode cX0_isAsItMust 167 = .ok (.istore 4, 2) := by decide +kernel
theorem dX0_isAsItMust_169 : decode cX0_isAsItMust 169 = .ok (.aload_n 0, 1) := by decide +kernel
theorem dX0_isAsItMust_170 : decode cX0_isAsItMust 170 = .ok (.iload_n 1, 1) := by decide +kernel
theorem dX0_isAsItMust_171 : decode cX0_isAsItMust 171 = .ok (.iconst 3, 1) := by decide +kernel
theorem dX0_isAsItMust_172 : decode cX0_isAsItMust 172 = .ok (.iadd, 1) := by decide +kernel
theorem dX0_isAsItMust_173 : decode cX0_isAsItMust 173 = .ok (.invokevirtual 73, 3) := by decide +kernel
theorem dX0_isAsItMust_176 : decode cX0_isAsItMust 176 = .ok (.istore 5, 2) := by decide +kernel
theorem dX0_isAsItMust_178 : decode cX0_isAsItMust 178 = .ok (.iload_n 3, 1) := by decide +kernel
theorem dX0_isAsItMust_179 : decode cX0_isAsItMust 179 = .ok (.invokestatic 85, 3) := by decide +kernel
theorem dX0_isAsItMust_182 : decode cX0_isAsItMust 182 = .ok (.ifCond .eq 21, 3) := by decide +kernel
theorem dX0_isAsItMust_185 : decode cX0_isAsItMust 185 = .ok (.iload 4, 2) := by decide +kernel
theorem dX0_isAsItMust_187 : decode cX0_isAsItMust 187 = .ok (.iload 5, 2) := by decide +kernel
theorem dX0_isAsItMust_189 : decode cX0_isAsItMust 189 = .ok (.invokestatic 88, 3) := by decide +kernel
theorem dX0_isAsItMust_192 : decode cX0_isAsItMust 192 = .ok (.ifCond .ne 11, 3) := by decide +kernel
theorem dX0_isAsItMust_195 : decode cX0_isAsItMust 195 = .ok (.iload_n 2, 1) := by decide +kernel
theorem dX0_isAsItMust_196 : decode cX0_isAsItMust 196 = .ok (.ifCond .le 7, 3) := by decide +kernel
theorem dX0_isAsItMust_199 : decode cX0_isAsItMust 199 = .ok (.iconst 1, 1) := by decide +kernel
theorem dX0_isAsItMust_200 : decode cX0_isAsItMust 200 = .ok (.goto 4, 3) := by decide +kernel
theorem dX0_isAsItMust_203 : decode cX0_isAsItMust 203 = .ok (.iconst 0, 1) := by decide +kernel
theorem dX0_isAsItMust_204 : decode cX0_isAsItMust 204 = .ok (.ireturn, 1) := by decide +kernel
theorem dX0_isAsItMust_205 : decode cX0_isAsItMust 205 = .ok (.iconst 1, 1) := by decide +kernel
theorem dX0_isAsItMust_206 : decode cX0_isAsItMust 206 = .ok (.ireturn, 1) := by decide +kernel
theorem dX0_tellOne_0 : decode cX0_tellOne 0 = .ok (.aload_n 0, 1) := by decide +kernel
theorem dX0_tellOne_1 : decode cX0_tellOne 1 = .ok (.iload_n 1, 1) := by decide +kernel
theorem dX0_tellOne_2 : decode cX0_tellOne 2 = .ok (.iconst 1, 1) := by decide +kernel
theorem dX0_tellOne_3 : decode cX0_tellOne 3 = .ok (.iadd, 1) := by decide +kernel
theorem dX0_tellOne_4 : decode cX0_tellOne 4 = .ok (.invokevirtual 73, 3) := by decide +kernel
theorem dX0_tellOne_7 : decode cX0_tellOne 7 = .ok (.istore_n 3, 1) := by decide +kernel
theorem dX0_tellOne_8 : decode cX0_tellOne 8 = .ok (.aload_n 0, 1) := by decide +kernel
theorem dX0_tellOne_9 : decode cX0_tellOne 9 = .ok (.iload_n 1, 1) := by decide +kernel
theorem dX0_tellOne_10 : decode cX0_tellOne 10 = .ok (.invokevirtual 48, 3) := by decide +kernel
theorem dX0_tellOne_13 : decode cX0_tellOne 13 = .ok (.tableswitch 178 104 116 #[100, 178, 178, 81, 178, 178, 178, 127, 178, 178, 178, 67, 155], 67) := by decide +kernel
theorem dX0_tellOne_80 : decode cX0_tellOne 80 = .ok (.aload_n 2, 1) := by decide +kernel
theorem dX0_tellOne_81 : decode cX0_tellOne 81 = .ok (.getfield 91, 3) := by decide +kernel
theorem dX0_tellOne_84 : decode cX0_tellOne 84 = .ok (.iload_n 3, 1) := by decide +kernel
theorem dX0_tellOne_85 : decode cX0_tellOne 85 = .ok (.aload_n 0, 1) := by decide +kernel
theorem dX0_tellOne_86 : decode cX0_tellOne 86 = .ok (.iload_n 1, 1) := by decide +kernel
theorem dX0_tellOne_87 : decode cX0_tellOne 87 = .ok (.invokevirtual 76, 3) := by decide +kernel
theorem dX0_tellOne_90 : decode cX0_tellOne 90 = .ok (.iastore, 1) := by decide +kernel
theorem dX0_tellOne_91 : decode cX0_tellOne 91 = .ok (.goto 105, 3) := by decide +kernel
theorem dX0_tellOne_94 : decode cX0_tellOne 94 = .ok (.aload_n 2, 1) := by decide +kernel
theorem dX0_tellOne_95 : decode cX0_tellOne 95 = .ok (.iload_n 3, 1) := by decide +kernel
theorem dX0_tellOne_96 : decode cX0_tellOne 96 = .ok (.putfield 94, 3) := by decide +kernel
theorem dX0_tellOne_99 : decode cX0_tellOne 99 = .ok (.aload_n 2, 1) := by decide +kernel
theorem dX0_tellOne_100 : decode cX0_tellOne 100 = .ok (.aload_n 0, 1) := by decide +kernel
theorem dX0_tellOne_101 : decode cX0_tellOne 101 = .ok (.iload_n 1, 1) := by decide +kernel
theorem dX0_tellOne_102 : decode cX0_tellOne 102 = .ok (.iconst 2, 1) := by decide +kernel
theorem dX0_tellOne_103 : decode cX0_tellOne 103 = .ok (.iadd, 1) := by decide +kernel
theorem dX0_tellOne_104 : decode cX0_tellOne 104 = .ok (.invokevirtual 73, 3) := by decide +kernel
theorem dX0_tellOne_107 : decode cX0_tellOne 107 = .ok (.putfield 97, 3) := by decide +kernel
theorem dX0_tellOne_110 : decode cX0_tellOne 110 = .ok (.goto 86, 3) := by decide +kernel
theorem dX0_tellOne_113 : decode cX0_tellOne 113 = .ok (.aload_n 2, 1) := by decide +kernel
theorem dX0_tellOne_114 : decode cX0_tellOne 114 = .ok (.getfield 100, 3) := by decide +kernel
theorem dX0_tellOne_117 : decode cX0_tellOne 117 = .ok (.iload_n 3, 1) := by decide +kernel
theorem dX0_tellOne_118 : decode cX0_tellOne 118 = .ok (.aload_n 0, 1) := by decide +kernel
theorem dX0_tellOne_119 : decode cX0_tellOne 119 = .ok (.iload_n 1, 1) := by decide +kernel
theorem dX0_tellOne_120 : decode cX0_tellOne 120 = .ok (.iconst 2, 1) := by decide +kernel
theorem dX0_tellOne_121 : decode cX0_tellOne 121 = .ok (.iadd, 1) := by decide +kernel
theorem dX0_tellOne_122 : decode cX0_tellOne 122 = .ok (.iconst 2, 1) := by decide +kernel
theorem dX0_tellOne_123 : decode cX0_tellOne 123 = .ok (.invokevirtual 66, 3) := by decide +kernel
theorem dX0_tellOne_126 : decode cX0_tellOne 126 = .ok (.invokestatic 103, 3) := by decide +kernel
theorem dX0_tellOne_129 : decode cX0_tellOne 129 = .ok (.aload_n 0, 1) := by decide +kernel
theorem dX0_tellOne_130 : decode cX0_tellOne 130 = .ok (.iload_n 1, 1) := by decide +kernel
theorem dX0_tellOne_131 : decode cX0_tellOne 131 = .ok (.iconst 4, 1) := by decide +kernel
theorem dX0_tellOne_132 : decode cX0_tellOne 132 = .ok (.iadd, 1) := by decide +kernel
theorem dX0_tellOne_133 : decode cX0_tellOne 133 = .ok (.invokevirtual 73, 3) := by decide +kernel
theorem dX0_tellOne_136 : decode cX0_tellOne 136 = .ok (.iastore, 1) := by decide +kernel
theorem dX0_tellOne_137 : decode cX0_tellOne 137 = .ok (.goto 59, 3) := by decide +kernel
theorem dX0_tellOne_140 : decode cX0_tellOne 140 = .ok (.aload_n 2, 1) := by decide +kernel
theorem dX0_tellOne_141 : decode cX0_tellOne 141 = .ok (.getfield 106, 3) := by decide +kernel
theorem dX0_tellOne_144 : decode cX0_tellOne 144 = .ok (.iload_n 3, 1) := by decide +kernel
theorem dX0_tellOne_145 : decode cX0_tellOne 145 = .ok (.aload_n 0, 1) := by decide +kernel
theorem dX0_tellOne_146 : decode cX0_tellOne 146 = .ok (.iload_n 1, 1) := by decide +kernel
theorem dX0_tellOne_147 : decode cX0_tellOne 147 = .ok (.iconst 2, 1) := by decide +kernel
theorem dX0_tellOne_148 : decode cX0_tellOne 148 = .ok (.iadd, 1) := by decide +kernel
theorem dX0_tellOne_149 : decode cX0_tellOne 149 = .ok (.iconst 2, 1) := by decide +kernel
theorem dX0_tellOne_150 : decode cX0_tellOne 150 = .ok (.invokevirtual 66, 3) := by decide +kernel
theorem dX0_tellOne_153 : decode cX0_tellOne 153 = .ok (.invokestatic 103, 3) := by decide +kernel
theorem dX0_tellOne_156 : decode cX0_tellOne 156 = .ok (.aload_n 0, 1) := by decide +kernel
theorem dX0_tellOne_157 : decode cX0_tellOne 157 = .ok (.iload_n 1, 1) := by decide +kernel
theorem dX0_tellOne_158 : decode cX0_tellOne 158 = .ok (.iconst 4, 1) := by decide +kernel
theorem dX0_tellOne_159 : decode cX0_tellOne 159 = .ok (.iadd, 1) := by decide +kernel
theorem dX0_tellOne_160 : decode cX0_tellOne 160 = .ok (.iconst 2, 1) := by decide +kernel
theorem dX0_tellOne_161 : decode cX0_tellOne 161 = .ok (.invokevirtual 66, 3) := by decide +kernel
theorem dX0_tellOne_164 : decode cX0_tellOne 164 = .ok (.iastore, 1) := by decide +kernel
theorem dX0_tellOne_165 : decode cX0_tellOne 165 = .ok (.goto 31, 3) := by decide +kernel
theorem dX0_tellOne_168 : decode cX0_tellOne 168 = .ok (.aload_n 2, 1) := by decide +kernel
theorem dX0_tellOne_169 : decode cX0_tellOne 169 = .ok (.iload_n 3, 1) := by decide +kernel
theorem dX0_tellOne_170 : decode cX0_tellOne 170 = .ok (.aload_n 0, 1) := by decide +kernel
theorem dX0_tellOne_171 : decode cX0_tellOne 171 = .ok (.iload_n 1, 1) := by decide +kernel
theorem dX0_tellOne_172 : decode cX0_tellOne 172 = .ok (.iconst 2, 1) := by decide +kernel
theorem dX0_tellOne_173 : decode cX0_tellOne 173 = .ok (.iadd, 1) := by decide +kernel
theorem dX0_tellOne_174 : decode cX0_tellOne 174 = .ok (.invokevirtual 73, 3) := by decide +kernel
theorem dX0_tellOne_177 : decode cX0_tellOne 177 = .ok (.aload_n 0, 1) := by decide +kernel
theorem dX0_tellOne_178 : decode cX0_tellOne 178 = .ok (.iload_n 1, 1) := by decide +kernel
theorem dX0_tellOne_179 : decode cX0_tellOne 179 = .ok (.iconst 3, 1) := by decide +kernel
theorem dX0_tellOne_180 : decode cX0_tellOne 180 = .ok (.iadd, 1) := by decide +kernel
theorem dX0_tellOne_181 : decode cX0_tellOne 181 = .ok (.invokevirtual 73, 3) := by decide +kernel
theorem dX0_tellOne_184 : decode cX0_tellOne 184 = .ok (.invokevirtual 109, 3) := by decide +kernel
theorem dX0_tellOne_187 : decode cX0_tellOne 187 = .ok (.pop, 1) := by decide +kernel
theorem dX0_tellOne_188 : decode cX0_tellOne 188 = .ok (.goto 8, 3) := by decide +kernel
theorem dX0_tellOne_191 : decode cX0_tellOne 191 = .ok (.aload_n 2, 1) := by decide +kernel
theorem dX0_tellOne_192 : decode cX0_tellOne 192 = .ok (.iconst 0, 1) := by decide +kernel
theorem dX0_tellOne_193 : decode cX0_tellOne 193 = .ok (.putfield 26, 3) := by decide +kernel
theorem dX0_tellOne_196 : decode cX0_tellOne 196 = .ok (.return_, 1) := by decide +kernel
