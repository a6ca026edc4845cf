theorem dX1_init_0 : decode cX1_init 0 = .ok (.aload_n 0, 1) := by decide +kernel
theorem dX1_init_1 : decode cX1_init 1 = .ok (.invokespecial 3, 3) := by decide +kernel
theorem dX1_init_4 : decode cX1_init 4 = .ok (.aload_n 0, 1) := by decide +kernel
theorem dX1_init_5 : decode cX1_init 5 = .ok (.iconst 4, 1) := by decide +kernel
theorem dX1_init_6 : decode cX1_init 6 = .ok (.anewarray 9, 3) := by decide +kernel
theorem dX1_init_9 : decode cX1_init 9 = .ok (.putfield 11, 3) := by decide +kernel
theorem dX1_init_12 : decode cX1_init 12 = .ok (.aload_n 0, 1) := by decide +kernel
theorem dX1_init_13 : decode cX1_init 13 = .ok (.aload_n 1, 1) := by decide +kernel
theorem dX1_init_14 : decode cX1_init 14 = .ok (.putfield 17, 3) := by decide +kernel
theorem dX1_init_17 : decode cX1_init 17 = .ok (.iconst 0, 1) := by decide +kernel
theorem dX1_init_18 : decode cX1_init 18 = .ok (.istore_n 2, 1) := by decide +kernel
theorem dX1_init_19 : decode cX1_init 19 = .ok (.iload_n 2, 1) := by decide +kernel
theorem dX1_init_20 : decode cX1_init 20 = .ok (.iconst 4, 1) := by decide +kernel
theorem dX1_init_21 : decode cX1_init 21 = .ok (.if_icmp .ge 22, 3) := by decide +kernel
theorem dX1_init_24 : decode cX1_init 24 = .ok (.aload_n 0, 1) := by decide +kernel
theorem dX1_init_25 : decode cX1_init 25 = .ok (.getfield 11, 3) := by decide +kernel
theorem dX1_init_28 : decode cX1_init 28 = .ok (.iload_n 2, 1) := by decide +kernel
theorem dX1_init_29 : decode cX1_init 29 = .ok (.new 9, 3) := by decide +kernel
theorem dX1_init_32 : decode cX1_init 32 = .ok (.dup, 1) := by decide +kernel
theorem dX1_init_33 : decode cX1_init 33 = .ok (.invokespecial 21, 3) := by decide +kernel
theorem dX1_init_36 : decode cX1_init 36 = .ok (.aastore, 1) := by decide +kernel
theorem dX1_init_37 : decode cX1_init 37 = .ok (.iinc 2 1, 3) := by decide +kernel
theorem dX1_init_40 : decode cX1_init 40 = .ok (.goto (-21), 3) := by decide +kernel
theorem dX1_init_43 : decode cX1_init 43 = .ok (.return_, 1) := by decide +kernel
theorem dX1_nextBy_0 : decode cX1_nextBy 0 = .ok (.aload_n 0, 1) := by decide +kernel
theorem dX1_nextBy_1 : decode cX1_nextBy 1 = .ok (.aload_n 0, 1) := by decide +kernel
theorem dX1_nextBy_2 : decode cX1_nextBy 2 = .ok (.getfield 17, 3) := by decide +kernel
theorem dX1_nextBy_5 : decode cX1_nextBy 5 = .ok (.iload_n 2, 1) := by decide +kernel
theorem dX1_nextBy_6 : decode cX1_nextBy 6 = .ok (.invokevirtual 22, 3) := by decide +kernel
theorem dX1_nextBy_9 : decode cX1_nextBy 9 = .ok (.iload_n 1, 1) := by decide +kernel
theorem dX1_nextBy_10 : decode cX1_nextBy 10 = .ok (.iload_n 2, 1) := by decide +kernel
theorem dX1_nextBy_11 : decode cX1_nextBy 11 = .ok (.iload_n 3, 1) := by decide +kernel
theorem dX1_nextBy_12 : decode cX1_nextBy 12 = .ok (.iload 4, 2) := by decide +kernel
theorem dX1_nextBy_14 : decode cX1_nextBy 14 = .ok (.invokevirtual 28, 3) := by decide +kernel
theorem dX1_nextBy_17 : decode cX1_nextBy 17 = .ok (.areturn, 1) := by decide +kernel
theorem dX1_lineBehind_0 : decode cX1_lineBehind 0 = .ok (.aload_n 1, 1) := by decide +kernel
theorem dX1_lineBehind_1 : decode cX1_lineBehind 1 = .ok (.aload_n 0, 1) := by decide +kernel
theorem dX1_lineBehind_2 : decode cX1_lineBehind 2 = .ok (.getfield 11, 3) := by decide +kernel
theorem dX1_lineBehind_5 : decode cX1_lineBehind 5 = .ok (.iconst 2, 1) := by decide +kernel
theorem dX1_lineBehind_6 : decode cX1_lineBehind 6 = .ok (.iload_n 3, 1) := by decide +kernel
theorem dX1_lineBehind_7 : decode cX1_lineBehind 7 = .ok (.imul, 1) := by decide +kernel
theorem dX1_lineBehind_8 : decode cX1_lineBehind 8 = .ok (.aaload, 1) := by decide +kernel
theorem dX1_lineBehind_9 : decode cX1_lineBehind 9 = .ok (.if_acmp .ne 16, 3) := by decide +kernel
theorem dX1_lineBehind_12 : decode cX1_lineBehind 12 = .ok (.aload_n 0, 1) := by decide +kernel
theorem dX1_lineBehind_13 : decode cX1_lineBehind 13 = .ok (.getfield 11, 3) := by decide +kernel
theorem dX1_lineBehind_16 : decode cX1_lineBehind 16 = .ok (.iconst 2, 1) := by decide +kernel
theorem dX1_lineBehind_17 : decode cX1_lineBehind 17 = .ok (.iload_n 3, 1) := by decide +kernel
theorem dX1_lineBehind_18 : decode cX1_lineBehind 18 = .ok (.imul, 1) := by decide +kernel
theorem dX1_lineBehind_19 : decode cX1_lineBehind 19 = .ok (.iconst 1, 1) := by decide +kernel
theorem dX1_lineBehind_20 : decode cX1_lineBehind 20 = .ok (.iadd, 1) := by decide +kernel
theorem dX1_lineBehind_21 : decode cX1_lineBehind 21 = .ok (.aaload, 1) := by decide +kernel
theorem dX1_lineBehind_22 : decode cX1_lineBehind 22 = .ok (.goto 11, 3) := by decide +kernel
theorem dX1_lineBehind_25 : decode cX1_lineBehind 25 = .ok (.aload_n 0, 1) := by decide +kernel
theorem dX1_lineBehind_26 : decode cX1_lineBehind 26 = .ok (.getfield 11, 3) := by decide +kernel
theorem dX1_lineBehind_29 : decode cX1_lineBehind 29 = .ok (.iconst 2, 1) := by decide +kernel
theorem dX1_lineBehind_30 : decode cX1_lineBehind 30 = .ok (.iload_n 3, 1) := by decide +kernel
theorem dX1_lineBehind_31 : decode cX1_lineBehind 31 = .ok (.imul, 1) := by decide +kernel
theorem dX1_lineBehind_32 : decode cX1_lineBehind 32 = .ok (.aaload, 1) := by decide +kernel
theorem dX1_lineBehind_33 : decode cX1_lineBehind 33 = .ok (.astore 6, 2) := by decide +kernel
theorem dX1_lineBehind_35 : decode cX1_lineBehind 35 = .ok (.aload 6, 2) := by decide +kernel
theorem dX1_lineBehind_37 : decode cX1_lineBehind 37 = .ok (.iload_n 3, 1) := by decide +kernel
theorem dX1_lineBehind_38 : decode cX1_lineBehind 38 = .ok (.iload 4, 2) := by decide +kernel
theorem dX1_lineBehind_40 : decode cX1_lineBehind 40 = .ok (.iload 5, 2) := by decide +kernel
theorem dX1_lineBehind_42 : decode cX1_lineBehind 42 = .ok (.invokevirtual 32, 3) := by decide +kernel
theorem dX1_lineBehind_45 : decode cX1_lineBehind 45 = .ok (.aload_n 0, 1) := by decide +kernel
theorem dX1_lineBehind_46 : decode cX1_lineBehind 46 = .ok (.getfield 17, 3) := by decide +kernel
theorem dX1_lineBehind_49 : decode cX1_lineBehind 49 = .ok (.aload 6, 2) := by decide +kernel
theorem dX1_lineBehind_51 : decode cX1_lineBehind 51 = .ok (.iload_n 2, 1) := by decide +kernel
theorem dX1_lineBehind_52 : decode cX1_lineBehind 52 = .ok (.aload_n 1, 1) := by decide +kernel
theorem dX1_lineBehind_53 : decode cX1_lineBehind 53 = .ok (.invokevirtual 36, 3) := by decide +kernel
theorem dX1_lineBehind_56 : decode cX1_lineBehind 56 = .ok (.aload 6, 2) := by decide +kernel
theorem dX1_lineBehind_58 : decode cX1_lineBehind 58 = .ok (.areturn, 1) := by decide +kernel
theorem dX1_nextOff_0 : decode cX1_nextOff 0 = .ok (.aload_n 0, 1) := by decide +kernel
theorem dX1_nextOff_1 : decode cX1_nextOff 1 = .ok (.getfield 17, 3) := by decide +kernel
theorem dX1_nextOff_4 : decode cX1_nextOff 4 = .ok (.aload_n 0, 1) := by decide +kernel
theorem dX1_nextOff_5 : decode cX1_nextOff 5 = .ok (.iload_n 1, 1) := by decide +kernel
theorem dX1_nextOff_6 : decode cX1_nextOff 6 = .ok (.iload_n 2, 1) := by decide +kernel
theorem dX1_nextOff_7 : decode cX1_nextOff 7 = .ok (.iload_n 3, 1) := by decide +kernel
theorem dX1_nextOff_8 : decode cX1_nextOff 8 = .ok (.iload 4, 2) := by decide +kernel
theorem dX1_nextOff_10 : decode cX1_nextOff 10 = .ok (.invokevirtual 40, 3) := by decide +kernel
theorem dX1_nextOff_13 : decode cX1_nextOff 13 = .ok (.invokevirtual 44, 3) := by decide +kernel
theorem dX1_nextOff_16 : decode cX1_nextOff 16 = .ok (.ireturn, 1) := by decide +kernel
theorem dX1_growth_0 : decode cX1_growth 0 = .ok (.aload_n 0, 1) := by decide +kernel
theorem dX1_growth_1 : decode cX1_growth 1 = .ok (.iload_n 1, 1) := by decide +kernel
theorem dX1_growth_2 : decode cX1_growth 2 = .ok (.iload_n 2, 1) := by decide +kernel
theorem dX1_growth_3 : decode cX1_growth 3 = .ok (.iload_n 3, 1) := by decide +kernel
theorem dX1_growth_4 : decode cX1_growth 4 = .ok (.iload 4, 2) := by decide +kernel
theorem dX1_growth_6 : decode cX1_growth 6 = .ok (.invokevirtual 40, 3) := by decide +kernel
theorem dX1_growth_9 : decode cX1_growth 9 = .ok (.astore 6, 2) := by decide +kernel
theorem dX1_growth_11 : decode cX1_growth 11 = .ok (.aload_n 0, 1) := by decide +kernel
theorem dX1_growth_12 : decode cX1_growth 12 = .ok (.getfield 17, 3) := by decide +kernel
theorem dX1_growth_15 : decode cX1_growth 15 = .ok (.aload 6, 2) := by decide +kernel
theorem dX1_growth_17 : decode cX1_growth 17 = .ok (.invokevirtual 44, 3) := by decide +kernel
theorem dX1_growth_20 : decode cX1_growth 20 = .ok (.istore 7, 2) := by decide +kernel
theorem dX1_growth_22 : decode cX1_growth 22 = .ok (.iconst 1, 1) := by decide +kernel
theorem dX1_growth_23 : decode cX1_growth 23 = .ok (.istore 8, 2) := by decide +kernel
theorem dX1_growth_25 : decode cX1_growth 25 = .ok (.iload 8, 2) := by decide +kernel
theorem dX1_growth_27 : decode cX1_growth 27 = .ok (.iload 5, 2) := by decide +kernel
theorem dX1_growth_29 : decode cX1_growth 29 = .ok (.if_icmp .ge 22, 3) := by decide +kernel
theorem dX1_growth_32 : decode cX1_growth 32 = .ok (.aload_n 0, 1) := by decide +kernel
theorem dX1_growth_33 : decode cX1_growth 33 = .ok (.aload 6, 2) := by decide +kernel
theorem dX1_growth_35 : decode cX1_growth 35 = .ok (.iload_n 1, 1) := by decide +kernel
theorem dX1_growth_36 : decode cX1_growth 36 = .ok (.iload_n 2, 1) := by decide +kernel
theorem dX1_growth_37 : decode cX1_growth 37 = .ok (.iload_n 3, 1) := by decide +kernel
theorem dX1_growth_38 : decode cX1_growth 38 = .ok (.iload 4, 2) := by decide +kernel
theorem dX1_growth_40 : decode cX1_growth 40 = .ok (.invokevirtual 28, 3) := by decide +kernel
theorem dX1_growth_43 : decode cX1_growth 43 = .ok (.astore 6, 2) := by decide +kernel
theorem dX1_growth_45 : decode cX1_growth 45 = .ok (.iinc 8 1, 3) := by decide +kernel
theorem dX1_growth_48 : decode cX1_growth 48 = .ok (.goto (-23), 3) := by decide +kernel
theorem dX1_growth_51 : decode cX1_growth 51 = .ok (.aload_n 0, 1) := by decide +kernel
theorem dX1_growth_52 : decode cX1_growth 52 = .ok (.getfield 17, 3) := by decide +kernel
theorem dX1_growth_55 : decode cX1_growth 55 = .ok (.aload 6, 2) := by decide +kernel
theorem dX1_growth_57 : decode cX1_growth 57 = .ok (.invokevirtual 44, 3) := by decide +kernel
theorem dX1_growth_60 : decode cX1_growth 60 = .ok (.iload 7, 2) := by decide +kernel
theorem dX1_growth_62 : decode cX1_growth 62 = .ok (.invokestatic 48, 3) := by decide +kernel
theorem dX1_growth_65 : decode cX1_growth 65 = .ok (.ireturn, 1) := by decide +kernel
theorem dX1_bestClosing_0 : decode cX1_bestClosing 0 = .ok (.bipush (-9), 2) := by decide +kernel
theorem dX1_bestClosing_2 : decode cX1_bestClosing 2 = .ok (.istore_n 2, 1) := by decide +kernel
theorem dX1_bestClosing_3 : decode cX1_bestClosing 3 = .ok (.iconst 0, 1) := by decide +kernel
theorem dX1_bestClosing_4 : decode cX1_bestClosing 4 = .ok (.istore_n 3, 1) := by decide +kernel
theorem dX1_bestClosing_5 : decode cX1_bestClosing 5 = .ok (.iconst 0, 1) := by decide +kernel
theorem dX1_bestClosing_6 : decode cX1_bestClosing 6 = .ok (.istore 4, 2) := by decide +kernel
theorem dX1_bestClosing_8 : decode cX1_bestClosing 8 = .ok (.iconst 1, 1) := by decide +kernel
theorem dX1_bestClosing_9 : decode cX1_bestClosing 9 = .ok (.istore 5, 2) := by decide +kernel
theorem dX1_bestClosing_11 : decode cX1_bestClosing 11 = .ok (.iload 5, 2) := by decide +kernel
theorem dX1_bestClosing_13 : decode cX1_bestClosing 13 = .ok (.bipush 9, 2) := by decide +kernel
theorem dX1_bestClosing_15 : decode cX1_bestClosing 15 = .ok (.if_icmp .gt 114, 3) := by decide +kernel
theorem dX1_bestClosing_18 : decode cX1_bestClosing 18 = .ok (.iconst 1, 1) := by decide +kernel
theorem dX1_bestClosing_19 : decode cX1_bestClosing 19 = .ok (.istore 6, 2) := by decide +kernel
theorem dX1_bestClosing_21 : decode cX1_bestClosing 21 = .ok (.iload 6, 2) := by decide +kernel
theorem dX1_bestClosing_23 : decode cX1_bestClosing 23 = .ok (.bipush 9, 2) := by decide +kernel
theorem dX1_bestClosing_25 : decode cX1_bestClosing 25 = .ok (.if_icmp .gt 98, 3) := by decide +kernel
theorem dX1_bestClosing_28 : decode cX1_bestClosing 28 = .ok (.aload_n 0, 1) := by decide +kernel
theorem dX1_bestClosing_29 : decode cX1_bestClosing 29 = .ok (.aload_n 0, 1) := by decide +kernel
theorem dX1_bestClosing_30 : decode cX1_bestClosing 30 = .ok (.getfield 17, 3) := by decide +kernel
theorem dX1_bestClosing_33 : decode cX1_bestClosing 33 = .ok (.getfield 54, 3) := by decide +kernel
theorem dX1_bestClosing_36 : decode cX1_bestClosing 36 = .ok (.iload_n 1, 1) := by decide +kernel
theorem dX1_bestClosing_37 : decode cX1_bestClosing 37 = .ok (.iload 5, 2) := by decide +kernel
theorem dX1_bestClosing_39 : decode cX1_bestClosing 39 = .ok (.iload 6, 2) := by decide +kernel
theorem dX1_bestClosing_41 : decode cX1_bestClosing 41 = .ok (.invokevirtual 40, 3) := by decide +kernel
theorem dX1_bestClosing_44 : decode cX1_bestClosing 44 = .ok (.astore 7, 2) := by decide +kernel
theorem dX1_bestClosing_46 : decode cX1_bestClosing 46 = .ok (.aload 7, 2) := by decide +kernel
theorem dX1_bestClosing_48 : decode cX1_bestClosing 48 = .ok (.invokevirtual 58, 3) := by decide +kernel
theorem dX1_bestClosing_51 : decode cX1_bestClosing 51 = .ok (.istore 8, 2) := by decide +kernel
theorem dX1_bestClosing_53 : decode cX1_bestClosing 53 = .ok (.aload_n 0, 1) := by decide +kernel
theorem dX1_bestClosing_54 : decode cX1_bestClosing 54 = .ok (.getfield 17, 3) := by decide +kernel
theorem dX1_bestClosing_57 : decode cX1_bestClosing 57 = .ok (.aload 7, 2) := by decide +kernel
theorem dX1_bestClosing_59 : decode cX1_bestClosing 59 = .ok (.invokevirtual 44, 3) := by decide +kernel
theorem dX1_bestClosing_62 : decode cX1_bestClosing 62 = .ok (.istore 9, 2) := by decide +kernel
theorem dX1_bestClosing_64 : decode cX1_bestClosing 64 = .ok (.iload 8, 2) := by decide +kernel
theorem dX1_bestClosing_66 : decode cX1_bestClosing 66 = .ok (.iload_n 3, 1) := by decide +kernel
theorem dX1_bestClosing_67 : decode cX1_bestClosing 67 = .ok (.if_icmp .lt 16, 3) := by decide +kernel
theorem dX1_bestClosing_70 : decode cX1_bestClosing 70 = .ok (.iload 8, 2) := by decide +kernel
theorem dX1_bestClosing_72 : decode cX1_bestClosing 72 = .ok (.iload_n 3, 1) := by decide +kernel
theorem dX1_bestClosing_73 : decode cX1_bestClosing 73 = .ok (.if_icmp .ne 14, 3) := by decide +kernel
theorem dX1_bestClosing_76 : decode cX1_bestClosing 76 = .ok (.iload 9, 2) := by decide +kernel
theorem dX1_bestClosing_78 : decode cX1_bestClosing 78 = .ok (.iload 4, 2) := by decide +kernel
theorem dX1_bestClosing_80 : decode cX1_bestClosing 80 = .ok (.if_icmp .ge 7, 3) := by decide +kernel
theorem dX1_bestClosing_83 : decode cX1_bestClosing 83 = .ok (.iconst 1, 1) := by decide +kernel
theorem dX1_bestClosing_84 : decode cX1_bestClosing 84 = .ok (.goto 4, 3) := by decide +kernel
theorem dX1_bestClosing_87 : decode cX1_bestClosing 87 = .ok (.iconst 0, 1) := by decide +kernel
theorem dX1_bestClosing_88 : decode cX1_bestClosing 88 = .ok (.istore 10, 2) := by decide +kernel
theorem dX1_bestClosing_90 : decode cX1_bestClosing 90 = .ok (.iload_n 2, 1) := by decide +kernel
theorem dX1_bestClosing_91 : decode cX1_bestClosing 91 = .ok (.bipush (-9), 2) := by decide +kernel
theorem dX1_bestClosing_93 : decode cX1_bestClosing 93 = .ok (.if_icmp .eq 8, 3) := by decide +kernel
theorem dX1_bestClosing_96 : decode cX1_bestClosing 96 = .ok (.iload 10, 2) := by decide +kernel
theorem dX1_bestClosing_98 : decode cX1_bestClosing 98 = .ok (.ifCond .eq 19, 3) := by decide +kernel
theorem dX1_bestClosing_101 : decode cX1_bestClosing 101 = .ok (.bipush 10, 2) := by decide +kernel
theorem dX1_bestClosing_103 : decode cX1_bestClosing 103 = .ok (.iload 5, 2) := by decide +kernel
theorem dX1_bestClosing_105 : decode cX1_bestClosing 105 = .ok (.imul, 1) := by decide +kernel
theorem dX1_bestClosing_106 : decode cX1_bestClosing 106 = .ok (.iload 6, 2) := by decide +kernel
theorem dX1_bestClosing_108 : decode cX1_bestClosing 108 = .ok (.iadd, 1) := by decide +kernel
theorem dX1_bestClosing_109 : decode cX1_bestClosing 109 = .ok (.istore_n 2, 1) := by decide +kernel
theorem dX1_bestClosing_110 : decode cX1_bestClosing 110 = .ok (.iload 8, 2) := by decide +kernel
theorem dX1_bestClosing_112 : decode cX1_bestClosing 112 = .ok (.istore_n 3, 1) := by decide +kernel
theorem dX1_bestClosing_113 : decode cX1_bestClosing 113 = .ok (.iload 9, 2) := by decide +kernel
theorem dX1_bestClosing_115 : decode cX1_bestClosing 115 = .ok (.istore 4, 2) := by decide +kernel
theorem dX1_bestClosing_117 : decode cX1_bestClosing 117 = .ok (.iinc 6 1, 3) := by decide +kernel
theorem dX1_bestClosing_120 : decode cX1_bestClosing 120 = .ok (.goto (-99), 3) := by decide +kernel
theorem dX1_bestClosing_123 : decode cX1_bestClosing 123 = .ok (.iinc 5 1, 3) := by decide +kernel
theorem dX1_bestClosing_126 : decode cX1_bestClosing 126 = .ok (.goto (-115), 3) := by decide +kernel
theorem dX1_bestClosing_129 : decode cX1_bestClosing 129 = .ok (.iload_n 2, 1) := by decide +kernel
theorem dX1_bestClosing_130 : decode cX1_bestClosing 130 = .ok (.ireturn, 1) := by decide +kernel
theorem dX1_strokeOf_0 : decode cX1_strokeOf 0 = .ok (.iconst 1, 1) := by decide +kernel
theorem dX1_strokeOf_1 : decode cX1_strokeOf 1 = .ok (.istore 4, 2) := by decide +kernel
theorem dX1_strokeOf_3 : decode cX1_strokeOf 3 = .ok (.iload 4, 2) := by decide +kernel
theorem dX1_strokeOf_5 : decode cX1_strokeOf 5 = .ok (.bipush 9, 2) := by decide +kernel
theorem dX1_strokeOf_7 : decode cX1_strokeOf 7 = .ok (.if_icmp .gt 52, 3) := by decide +kernel
theorem dX1_strokeOf_10 : decode cX1_strokeOf 10 = .ok (.iconst 1, 1) := by decide +kernel
theorem dX1_strokeOf_11 : decode cX1_strokeOf 11 = .ok (.istore 5, 2) := by decide +kernel
theorem dX1_strokeOf_13 : decode cX1_strokeOf 13 = .ok (.iload 5, 2) := by decide +kernel
theorem dX1_strokeOf_15 : decode cX1_strokeOf 15 = .ok (.bipush 9, 2) := by decide +kernel
theorem dX1_strokeOf_17 : decode cX1_strokeOf 17 = .ok (.if_icmp .gt 36, 3) := by decide +kernel
theorem dX1_strokeOf_20 : decode cX1_strokeOf 20 = .ok (.aload_n 0, 1) := by decide +kernel
theorem dX1_strokeOf_21 : decode cX1_strokeOf 21 = .ok (.aload_n 0, 1) := by decide +kernel
theorem dX1_strokeOf_22 : decode cX1_strokeOf 22 = .ok (.iload_n 1, 1) := by decide +kernel
theorem dX1_strokeOf_23 : decode cX1_strokeOf 23 = .ok (.iload_n 2, 1) := by decide +kernel
theorem dX1_strokeOf_24 : decode cX1_strokeOf 24 = .ok (.iload 4, 2) := by decide +kernel
theorem dX1_strokeOf_26 : decode cX1_strokeOf 26 = .ok (.iload 5, 2) := by decide +kernel
theorem dX1_strokeOf_28 : decode cX1_strokeOf 28 = .ok (.invokevirtual 40, 3) := by decide +kernel
theorem dX1_strokeOf_31 : decode cX1_strokeOf 31 = .ok (.aload_n 3, 1) := by decide +kernel
theorem dX1_strokeOf_32 : decode cX1_strokeOf 32 = .ok (.invokevirtual 62, 3) := by decide +kernel
theorem dX1_strokeOf_35 : decode cX1_strokeOf 35 = .ok (.ifCond .eq 12, 3) := by decide +kernel
theorem dX1_strokeOf_38 : decode cX1_strokeOf 38 = .ok (.bipush 10, 2) := by decide +kernel
theorem dX1_strokeOf_40 : decode cX1_strokeOf 40 = .ok (.iload 4, 2) := by decide +kernel
theorem dX1_strokeOf_42 : decode cX1_strokeOf 42 = .ok (.imul, 1) := by decide +kernel
theorem dX1_strokeOf_43 : decode cX1_strokeOf 43 = .ok (.iload 5, 2) := by decide +kernel
theorem dX1_strokeOf_45 : decode cX1_strokeOf 45 = .ok (.iadd, 1) := by decide +kernel
theorem dX1_strokeOf_46 : decode cX1_strokeOf 46 = .ok (.ireturn, 1) := by decide +kernel
theorem dX1_strokeOf_47 : decode cX1_strokeOf 47 = .ok (.iinc 5 1, 3) := by decide +kernel
theorem dX1_strokeOf_50 : decode cX1_strokeOf 50 = .ok (.goto (-37), 3) := by decide +kernel
theorem dX1_strokeOf_53 : decode cX1_strokeOf 53 = .ok (.iinc 4 1, 3) := by decide +kernel
theorem dX1_strokeOf_56 : decode cX1_strokeOf 56 = .ok (.goto (-53), 3) := by decide +kernel
theorem dX1_strokeOf_59 : decode cX1_strokeOf 59 = .ok (.bipush (-9), 2) := by decide +kernel
theorem dX1_strokeOf_61 : decode cX1_strokeOf 61 = .ok (.ireturn, 1) := by decide +kernel
theorem dX1_isTold_0 : decode cX1_isTold 0 = .ok (.iconst 0, 1) := by decide +kernel
theorem dX1_isTold_1 : decode cX1_isTold 1 = .ok (.istore_n 3, 1) := by decide +kernel
theorem dX1_isTold_2 : decode cX1_isTold 2 = .ok (.iload_n 3, 1) := by decide +kernel
theorem dX1_isTold_3 : decode cX1_isTold 3 = .ok (.bipush 12, 2) := by decide +kernel
theorem dX1_isTold_5 : decode cX1_isTold 5 = .ok (.if_icmp .ge 34, 3) := by decide +kernel
theorem dX1_isTold_8 : decode cX1_isTold 8 = .ok (.iload_n 3, 1) := by decide +kernel
theorem dX1_isTold_9 : decode cX1_isTold 9 = .ok (.aload_n 2, 1) := by decide +kernel
theorem dX1_isTold_10 : decode cX1_isTold 10 = .ok (.arraylength, 1) := by decide +kernel
theorem dX1_isTold_11 : decode cX1_isTold 11 = .ok (.if_icmp .ge 28, 3) := by decide +kernel
theorem dX1_isTold_14 : decode cX1_isTold 14 = .ok (.aload_n 1, 1) := by decide +kernel
theorem dX1_isTold_15 : decode cX1_isTold 15 = .ok (.getfield 66, 3) := by decide +kernel
theorem dX1_isTold_18 : decode cX1_isTold 18 = .ok (.iload_n 3, 1) := by decide +kernel
theorem dX1_isTold_19 : decode cX1_isTold 19 = .ok (.iaload, 1) := by decide +kernel
theorem dX1_isTold_20 : decode cX1_isTold 20 = .ok (.bipush 99, 2) := by decide +kernel
theorem dX1_isTold_22 : decode cX1_isTold 22 = .ok (.invokestatic 70, 3) := by decide +kernel
theorem dX1_isTold_25 : decode cX1_isTold 25 = .ok (.aload_n 2, 1) := by decide +kernel
theorem dX1_isTold_26 : decode cX1_isTold 26 = .ok (.iload_n 3, 1) := by decide +kernel
theorem dX1_isTold_27 : decode cX1_isTold 27 = .ok (.iaload, 1) := by decide +kernel
theorem dX1_isTold_28 : decode cX1_isTold 28 = .ok (.if_icmp .eq 5, 3) := by decide +kernel
theorem dX1_isTold_31 : decode cX1_isTold 31 = .ok (.iconst 0, 1) := by decide +kernel
theorem dX1_isTold_32 : decode cX1_isTold 32 = .ok (.ireturn, 1) := by decide +kernel
theorem dX1_isTold_33 : decode cX1_isTold 33 = .ok (.iinc 3 1, 3) := by decide +kernel
theorem dX1_isTold_36 : decode cX1_isTold 36 = .ok (.goto (-34), 3) := by decide +kernel
theorem dX1_isTold_39 : decode cX1_isTold 39 = .ok (.iconst 1, 1) := by decide +kernel
theorem dX1_isTold_40 : decode cX1_isTold 40 = .ok (.ireturn, 1) := by decide +kernel
theorem dX1_practice_0 : decode cX1_practice 0 = .ok (.aload_n 0, 1) := by decide +kernel
theorem dX1_practice_1 : decode cX1_practice 1 = .ok (.iload_n 2, 1) := by decide +kernel
theorem dX1_practice_2 : decode cX1_practice 2 = .ok (.putfield 75, 3) := by decide +kernel
theorem dX1_practice_5 : decode cX1_practice 5 = .ok (.aload_n 0, 1) := by decide +kernel
theorem dX1_practice_6 : decode cX1_practice 6 = .ok (.getfield 17, 3) := by decide +kernel
theorem dX1_practice_9 : decode cX1_practice 9 = .ok (.iconst 0, 1) := by decide +kernel
theorem dX1_practice_10 : decode cX1_practice 10 = .ok (.invokevirtual 22, 3) := by decide +kernel
theorem dX1_practice_13 : decode cX1_practice 13 = .ok (.astore 4, 2) := by decide +kernel
theorem dX1_practice_15 : decode cX1_practice 15 = .ok (.aload_n 0, 1) := by decide +kernel
theorem dX1_practice_16 : decode cX1_practice 16 = .ok (.getfield 17, 3) := by decide +kernel
theorem dX1_practice_19 : decode cX1_practice 19 = .ok (.iconst 1, 1) := by decide +kernel
theorem dX1_practice_20 : decode cX1_practice 20 = .ok (.invokevirtual 22, 3) := by decide +kernel
theorem dX1_practice_23 : decode cX1_practice 23 = .ok (.astore 5, 2) := by decide +kernel
theorem dX1_practice_25 : decode cX1_practice 25 = .ok (.iconst 0, 1) := by decide +kernel
theorem dX1_practice_26 : decode cX1_practice 26 = .ok (.istore 6, 2) := by decide +kernel
theorem dX1_practice_28 : decode cX1_practice 28 = .ok (.iconst 0, 1) := by decide +kernel
theorem dX1_practice_29 : decode cX1_practice 29 = .ok (.istore 7, 2) := by decide +kernel
theorem dX1_practice_31 : decode cX1_practice 31 = .ok (.iconst 0, 1) := by decide +kernel
theorem dX1_practice_32 : decode cX1_practice 32 = .ok (.istore 8, 2) := by decide +kernel
theorem dX1_practice_34 : decode cX1_practice 34 = .ok (.iload 8, 2) := by decide +kernel
theorem dX1_practice_36 : decode cX1_practice 36 = .ok (.iload_n 1, 1) := by decide +kernel
theorem dX1_practice_37 : decode cX1_practice 37 = .ok (.if_icmp .ge 118, 3) := by decide +kernel
theorem dX1_practice_40 : decode cX1_practice 40 = .ok (.aload_n 0, 1) := by decide +kernel
theorem dX1_practice_41 : decode cX1_practice 41 = .ok (.iconst 2, 1) := by decide +kernel
theorem dX1_practice_42 : decode cX1_practice 42 = .ok (.invokevirtual 78, 3) := by decide +kernel
theorem dX1_practice_45 : decode cX1_practice 45 = .ok (.istore 9, 2) := by decide +kernel
theorem dX1_practice_47 : decode cX1_practice 47 = .ok (.aload_n 0, 1) := by decide +kernel
theorem dX1_practice_48 : decode cX1_practice 48 = .ok (.bipush 9, 2) := by decide +kernel
theorem dX1_practice_50 : decode cX1_practice 50 = .ok (.invokevirtual 78, 3) := by decide +kernel
theorem dX1_practice_53 : decode cX1_practice 53 = .ok (.iconst 1, 1) := by decide +kernel
theorem dX1_practice_54 : decode cX1_practice 54 = .ok (.iadd, 1) := by decide +kernel
theorem dX1_practice_55 : decode cX1_practice 55 = .ok (.istore 10, 2) := by decide +kernel
theorem dX1_practice_57 : decode cX1_practice 57 = .ok (.aload_n 0, 1) := by decide +kernel
theorem dX1_practice_58 : decode cX1_practice 58 = .ok (.bipush 9, 2) := by decide +kernel
theorem dX1_practice_60 : decode cX1_practice 60 = .ok (.invokevirtual 78, 3) := by decide +kernel
theorem dX1_practice_63 : decode cX1_practice 63 = .ok (.iconst 1, 1) := by decide +kernel
theorem dX1_practice_64 : decode cX1_practice 64 = .ok (.iadd, 1) := by decide +kernel
theorem dX1_practice_65 : decode cX1_practice 65 = .ok (.istore 11, 2) := by decide +kernel
theorem dX1_practice_67 : decode cX1_practice 67 = .ok (.aload_n 0, 1) := by decide +kernel
theorem dX1_practice_68 : decode cX1_practice 68 = .ok (.iload 9, 2) := by decide +kernel
theorem dX1_practice_70 : decode cX1_practice 70 = .ok (.ifCond .ne 8, 3) := by decide +kernel
theorem dX1_practice_73 : decode cX1_practice 73 = .ok (.aload 4, 2) := by decide +kernel
theorem dX1_practice_75 : decode cX1_practice 75 = .ok (.goto 5, 3) := by decide +kernel
theorem dX1_practice_78 : decode cX1_practice 78 = .ok (.aload 5, 2) := by decide +kernel
theorem dX1_practice_80 : decode cX1_practice 80 = .ok (.aload_n 0, 1) := by decide +kernel
theorem dX1_practice_81 : decode cX1_practice 81 = .ok (.getfield 17, 3) := by decide +kernel
theorem dX1_practice_84 : decode cX1_practice 84 = .ok (.getfield 54, 3) := by decide +kernel
theorem dX1_practice_87 : decode cX1_practice 87 = .ok (.iload 9, 2) := by decide +kernel
theorem dX1_practice_89 : decode cX1_practice 89 = .ok (.iload 10, 2) := by decide +kernel
theorem dX1_practice_91 : decode cX1_practice 91 = .ok (.iload 11, 2) := by decide +kernel
theorem dX1_practice_93 : decode cX1_practice 93 = .ok (.invokevirtual 28, 3) := by decide +kernel
theorem dX1_practice_96 : decode cX1_practice 96 = .ok (.astore 12, 2) := by decide +kernel
theorem dX1_practice_98 : decode cX1_practice 98 = .ok (.iload 9, 2) := by decide +kernel
theorem dX1_practice_100 : decode cX1_practice 100 = .ok (.ifCond .ne 10, 3) := by decide +kernel
theorem dX1_practice_103 : decode cX1_practice 103 = .ok (.aload 12, 2) := by decide +kernel
theorem dX1_practice_105 : decode cX1_practice 105 = .ok (.astore 4, 2) := by decide +kernel
theorem dX1_practice_107 : decode cX1_practice 107 = .ok (.goto 7, 3) := by decide +kernel
theorem dX1_practice_110 : decode cX1_practice 110 = .ok (.aload 12, 2) := by decide +kernel
theorem dX1_practice_112 : decode cX1_practice 112 = .ok (.astore 5, 2) := by decide +kernel
theorem dX1_practice_114 : decode cX1_practice 114 = .ok (.aload_n 0, 1) := by decide +kernel
theorem dX1_practice_115 : decode cX1_practice 115 = .ok (.getfield 17, 3) := by decide +kernel
theorem dX1_practice_118 : decode cX1_practice 118 = .ok (.aload 12, 2) := by decide +kernel
theorem dX1_practice_120 : decode cX1_practice 120 = .ok (.invokevirtual 44, 3) := by decide +kernel
theorem dX1_practice_123 : decode cX1_practice 123 = .ok (.istore 13, 2) := by decide +kernel
theorem dX1_practice_125 : decode cX1_practice 125 = .ok (.iload 6, 2) := by decide +kernel
theorem dX1_practice_127 : decode cX1_practice 127 = .ok (.iload 13, 2) := by decide +kernel
theorem dX1_practice_129 : decode cX1_practice 129 = .ok (.iadd, 1) := by decide +kernel
theorem dX1_practice_130 : decode cX1_practice 130 = .ok (.istore 6, 2) := by decide +kernel
theorem dX1_practice_132 : decode cX1_practice 132 = .ok (.iload 7, 2) := by decide +kernel
theorem dX1_practice_134 : decode cX1_practice 134 = .ok (.iload 13, 2) := by decide +kernel
theorem dX1_practice_136 : decode cX1_practice 136 = .ok (.bipush 60, 2) := by decide +kernel
theorem dX1_practice_138 : decode cX1_practice 138 = .ok (.if_icmp .ge 7, 3) := by decide +kernel
theorem dX1_practice_141 : decode cX1_practice 141 = .ok (.iconst 1, 1) := by decide +kernel
theorem dX1_practice_142 : decode cX1_practice 142 = .ok (.goto 4, 3) := by decide +kernel
theorem dX1_practice_145 : decode cX1_practice 145 = .ok (.iconst 0, 1) := by decide +kernel
theorem dX1_practice_146 : decode cX1_practice 146 = .ok (.iadd, 1) := by decide +kernel
theorem dX1_practice_147 : decode cX1_practice 147 = .ok (.istore 7, 2) := by decide +kernel
theorem dX1_practice_149 : decode cX1_practice 149 = .ok (.iinc 8 1, 3) := by decide +kernel
theorem dX1_practice_152 : decode cX1_practice 152 = .ok (.goto (-118), 3) := by decide +kernel
theorem dX1_practice_155 : decode cX1_practice 155 = .ok (.iload_n 3, 1) := by decide +kernel
theorem dX1_practice_156 : decode cX1_practice 156 = .ok (.ifCond .ne 8, 3) := by decide +kernel
theorem dX1_practice_159 : decode cX1_practice 159 = .ok (.iload 6, 2) := by decide +kernel
theorem dX1_practice_161 : decode cX1_practice 161 = .ok (.goto 5, 3) := by decide +kernel
theorem dX1_practice_164 : decode cX1_practice 164 = .ok (.iload 7, 2) := by decide +kernel
theorem dX1_practice_166 : decode cX1_practice 166 = .ok (.ireturn, 1) := by decide +kernel
theorem dX1_drawBelow_0 : decode cX1_drawBelow 0 = .ok (.aload_n 0, 1) := by decide +kernel
theorem dX1_drawBelow_1 : decode cX1_drawBelow 1 = .ok (.aload_n 0, 1) := by decide +kernel
theorem dX1_drawBelow_2 : decode cX1_drawBelow 2 = .ok (.getfield 75, 3) := by decide +kernel
theorem dX1_drawBelow_5 : decode cX1_drawBelow 5 = .ok (.ldc 82, 2) := by decide +kernel
theorem dX1_drawBelow_7 : decode cX1_drawBelow 7 = .ok (.imul, 1) := by decide +kernel
theorem dX1_drawBelow_8 : decode cX1_drawBelow 8 = .ok (.sipush 12345, 3) := by decide +kernel
theorem dX1_drawBelow_11 : decode cX1_drawBelow 11 = .ok (.iadd, 1) := by decide +kernel
theorem dX1_drawBelow_12 : decode cX1_drawBelow 12 = .ok (.putfield 75, 3) := by decide +kernel
theorem dX1_drawBelow_15 : decode cX1_drawBelow 15 = .ok (.iload_n 1, 1) := by decide +kernel
theorem dX1_drawBelow_16 : decode cX1_drawBelow 16 = .ok (.ifCond .le 18, 3) := by decide +kernel
theorem dX1_drawBelow_19 : decode cX1_drawBelow 19 = .ok (.aload_n 0, 1) := by decide +kernel
theorem dX1_drawBelow_20 : decode cX1_drawBelow 20 = .ok (.getfield 75, 3) := by decide +kernel
theorem dX1_drawBelow_23 : decode cX1_drawBelow 23 = .ok (.ldc 83, 2) := by decide +kernel
theorem dX1_drawBelow_25 : decode cX1_drawBelow 25 = .ok (.iand, 1) := by decide +kernel
theorem dX1_drawBelow_26 : decode cX1_drawBelow 26 = .ok (.ldc 84, 2) := by decide +kernel
theorem dX1_drawBelow_28 : decode cX1_drawBelow 28 = .ok (.idiv, 1) := by decide +kernel
theorem dX1_drawBelow_29 : decode cX1_drawBelow 29 = .ok (.iload_n 1, 1) := by decide +kernel
theorem dX1_drawBelow_30 : decode cX1_drawBelow 30 = .ok (.irem, 1) := by decide +kernel
theorem dX1_drawBelow_31 : decode cX1_drawBelow 31 = .ok (.goto 4, 3) := by decide +kernel
theorem dX1_drawBelow_34 : decode cX1_drawBelow 34 = .ok (.iconst 0, 1) := by decide +kernel
theorem dX1_drawBelow_35 : decode cX1_drawBelow 35 = .ok (.ireturn, 1) := by decide +kernel
