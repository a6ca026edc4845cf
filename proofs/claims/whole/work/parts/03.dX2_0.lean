theorem dX2_init_0 : decode cX2_init 0 = .ok (.aload_n 0, 1) := by decide +kernel
theorem dX2_init_1 : decode cX2_init 1 = .ok (.invokespecial 3, 3) := by decide +kernel
theorem dX2_init_4 : decode cX2_init 4 = .ok (.aload_n 0, 1) := by decide +kernel
theorem dX2_init_5 : decode cX2_init 5 = .ok (.bipush 30, 2) := by decide +kernel
theorem dX2_init_7 : decode cX2_init 7 = .ok (.newarray .int, 2) := by decide +kernel
theorem dX2_init_9 : decode cX2_init 9 = .ok (.putfield 9, 3) := by decide +kernel
theorem dX2_init_12 : decode cX2_init 12 = .ok (.aload_n 0, 1) := by decide +kernel
theorem dX2_init_13 : decode cX2_init 13 = .ok (.aload_n 1, 1) := by decide +kernel
theorem dX2_init_14 : decode cX2_init 14 = .ok (.putfield 15, 3) := by decide +kernel
theorem dX2_init_17 : decode cX2_init 17 = .ok (.return_, 1) := by decide +kernel
theorem dX2_markBy_0 : decode cX2_markBy 0 = .ok (.aload_n 0, 1) := by decide +kernel
theorem dX2_markBy_1 : decode cX2_markBy 1 = .ok (.getfield 15, 3) := by decide +kernel
theorem dX2_markBy_4 : decode cX2_markBy 4 = .ok (.getfield 19, 3) := by decide +kernel
theorem dX2_markBy_7 : decode cX2_markBy 7 = .ok (.iload_n 2, 1) := by decide +kernel
theorem dX2_markBy_8 : decode cX2_markBy 8 = .ok (.aaload, 1) := by decide +kernel
theorem dX2_markBy_9 : decode cX2_markBy 9 = .ok (.astore_n 3, 1) := by decide +kernel
theorem dX2_markBy_10 : decode cX2_markBy 10 = .ok (.bipush 60, 2) := by decide +kernel
theorem dX2_markBy_12 : decode cX2_markBy 12 = .ok (.aload_n 0, 1) := by decide +kernel
theorem dX2_markBy_13 : decode cX2_markBy 13 = .ok (.getfield 15, 3) := by decide +kernel
theorem dX2_markBy_16 : decode cX2_markBy 16 = .ok (.aload_n 3, 1) := by decide +kernel
theorem dX2_markBy_17 : decode cX2_markBy 17 = .ok (.invokevirtual 25, 3) := by decide +kernel
theorem dX2_markBy_20 : decode cX2_markBy 20 = .ok (.iconst 4, 1) := by decide +kernel
theorem dX2_markBy_21 : decode cX2_markBy 21 = .ok (.idiv, 1) := by decide +kernel
theorem dX2_markBy_22 : decode cX2_markBy 22 = .ok (.isub, 1) := by decide +kernel
theorem dX2_markBy_23 : decode cX2_markBy 23 = .ok (.aload_n 3, 1) := by decide +kernel
theorem dX2_markBy_24 : decode cX2_markBy 24 = .ok (.invokevirtual 29, 3) := by decide +kernel
theorem dX2_markBy_27 : decode cX2_markBy 27 = .ok (.isub, 1) := by decide +kernel
theorem dX2_markBy_28 : decode cX2_markBy 28 = .ok (.bipush 60, 2) := by decide +kernel
theorem dX2_markBy_30 : decode cX2_markBy 30 = .ok (.invokestatic 35, 3) := by decide +kernel
theorem dX2_markBy_33 : decode cX2_markBy 33 = .ok (.istore 4, 2) := by decide +kernel
theorem dX2_markBy_35 : decode cX2_markBy 35 = .ok (.iload_n 1, 1) := by decide +kernel
theorem dX2_markBy_36 : decode cX2_markBy 36 = .ok (.tableswitch 96 1 4 #[32, 40, 47, 69], 32) := by decide +kernel
theorem dX2_markBy_68 : decode cX2_markBy 68 = .ok (.aload_n 0, 1) := by decide +kernel
theorem dX2_markBy_69 : decode cX2_markBy 69 = .ok (.iload 4, 2) := by decide +kernel
theorem dX2_markBy_71 : decode cX2_markBy 71 = .ok (.aload_n 3, 1) := by decide +kernel
theorem dX2_markBy_72 : decode cX2_markBy 72 = .ok (.invokevirtual 39, 3) := by decide +kernel
theorem dX2_markBy_75 : decode cX2_markBy 75 = .ok (.ireturn, 1) := by decide +kernel
theorem dX2_markBy_76 : decode cX2_markBy 76 = .ok (.aload_n 0, 1) := by decide +kernel
theorem dX2_markBy_77 : decode cX2_markBy 77 = .ok (.iload 4, 2) := by decide +kernel
theorem dX2_markBy_79 : decode cX2_markBy 79 = .ok (.invokevirtual 43, 3) := by decide +kernel
theorem dX2_markBy_82 : decode cX2_markBy 82 = .ok (.ireturn, 1) := by decide +kernel
theorem dX2_markBy_83 : decode cX2_markBy 83 = .ok (.aload_n 0, 1) := by decide +kernel
theorem dX2_markBy_84 : decode cX2_markBy 84 = .ok (.iload 4, 2) := by decide +kernel
theorem dX2_markBy_86 : decode cX2_markBy 86 = .ok (.invokevirtual 43, 3) := by decide +kernel
theorem dX2_markBy_89 : decode cX2_markBy 89 = .ok (.aload_n 0, 1) := by decide +kernel
theorem dX2_markBy_90 : decode cX2_markBy 90 = .ok (.getfield 15, 3) := by decide +kernel
theorem dX2_markBy_93 : decode cX2_markBy 93 = .ok (.getfield 47, 3) := by decide +kernel
theorem dX2_markBy_96 : decode cX2_markBy 96 = .ok (.iconst 4, 1) := by decide +kernel
theorem dX2_markBy_97 : decode cX2_markBy 97 = .ok (.iaload, 1) := by decide +kernel
theorem dX2_markBy_98 : decode cX2_markBy 98 = .ok (.iadd, 1) := by decide +kernel
theorem dX2_markBy_99 : decode cX2_markBy 99 = .ok (.bipush 60, 2) := by decide +kernel
theorem dX2_markBy_101 : decode cX2_markBy 101 = .ok (.invokestatic 35, 3) := by decide +kernel
theorem dX2_markBy_104 : decode cX2_markBy 104 = .ok (.ireturn, 1) := by decide +kernel
theorem dX2_markBy_105 : decode cX2_markBy 105 = .ok (.aload_n 0, 1) := by decide +kernel
theorem dX2_markBy_106 : decode cX2_markBy 106 = .ok (.aload_n 3, 1) := by decide +kernel
theorem dX2_markBy_107 : decode cX2_markBy 107 = .ok (.iload_n 2, 1) := by decide +kernel
theorem dX2_markBy_108 : decode cX2_markBy 108 = .ok (.invokevirtual 50, 3) := by decide +kernel
theorem dX2_markBy_111 : decode cX2_markBy 111 = .ok (.istore 5, 2) := by decide +kernel
theorem dX2_markBy_113 : decode cX2_markBy 113 = .ok (.aload_n 0, 1) := by decide +kernel
theorem dX2_markBy_114 : decode cX2_markBy 114 = .ok (.iload 4, 2) := by decide +kernel
theorem dX2_markBy_116 : decode cX2_markBy 116 = .ok (.aload_n 3, 1) := by decide +kernel
theorem dX2_markBy_117 : decode cX2_markBy 117 = .ok (.invokevirtual 39, 3) := by decide +kernel
theorem dX2_markBy_120 : decode cX2_markBy 120 = .ok (.iload 5, 2) := by decide +kernel
theorem dX2_markBy_122 : decode cX2_markBy 122 = .ok (.bipush 8, 2) := by decide +kernel
theorem dX2_markBy_124 : decode cX2_markBy 124 = .ok (.idiv, 1) := by decide +kernel
theorem dX2_markBy_125 : decode cX2_markBy 125 = .ok (.isub, 1) := by decide +kernel
theorem dX2_markBy_126 : decode cX2_markBy 126 = .ok (.bipush 60, 2) := by decide +kernel
theorem dX2_markBy_128 : decode cX2_markBy 128 = .ok (.invokestatic 35, 3) := by decide +kernel
theorem dX2_markBy_131 : decode cX2_markBy 131 = .ok (.ireturn, 1) := by decide +kernel
theorem dX2_markBy_132 : decode cX2_markBy 132 = .ok (.iload 4, 2) := by decide +kernel
theorem dX2_markBy_134 : decode cX2_markBy 134 = .ok (.ireturn, 1) := by decide +kernel
theorem dX2_swept_0 : decode cX2_swept 0 = .ok (.iload_n 1, 1) := by decide +kernel
theorem dX2_swept_1 : decode cX2_swept 1 = .ok (.iconst 2, 1) := by decide +kernel
theorem dX2_swept_2 : decode cX2_swept 2 = .ok (.aload_n 0, 1) := by decide +kernel
theorem dX2_swept_3 : decode cX2_swept 3 = .ok (.getfield 15, 3) := by decide +kernel
theorem dX2_swept_6 : decode cX2_swept 6 = .ok (.aload_n 2, 1) := by decide +kernel
theorem dX2_swept_7 : decode cX2_swept 7 = .ok (.invokevirtual 54, 3) := by decide +kernel
theorem dX2_swept_10 : decode cX2_swept 10 = .ok (.invokestatic 57, 3) := by decide +kernel
theorem dX2_swept_13 : decode cX2_swept 13 = .ok (.imul, 1) := by decide +kernel
theorem dX2_swept_14 : decode cX2_swept 14 = .ok (.isub, 1) := by decide +kernel
theorem dX2_swept_15 : decode cX2_swept 15 = .ok (.bipush 60, 2) := by decide +kernel
theorem dX2_swept_17 : decode cX2_swept 17 = .ok (.invokestatic 35, 3) := by decide +kernel
theorem dX2_swept_20 : decode cX2_swept 20 = .ok (.ireturn, 1) := by decide +kernel
theorem dX2_named_0 : decode cX2_named 0 = .ok (.iload_n 1, 1) := by decide +kernel
theorem dX2_named_1 : decode cX2_named 1 = .ok (.iconst 3, 1) := by decide +kernel
theorem dX2_named_2 : decode cX2_named 2 = .ok (.aload_n 0, 1) := by decide +kernel
theorem dX2_named_3 : decode cX2_named 3 = .ok (.getfield 15, 3) := by decide +kernel
theorem dX2_named_6 : decode cX2_named 6 = .ok (.getfield 47, 3) := by decide +kernel
theorem dX2_named_9 : decode cX2_named 9 = .ok (.iconst 3, 1) := by decide +kernel
theorem dX2_named_10 : decode cX2_named 10 = .ok (.iaload, 1) := by decide +kernel
theorem dX2_named_11 : decode cX2_named 11 = .ok (.imul, 1) := by decide +kernel
theorem dX2_named_12 : decode cX2_named 12 = .ok (.iadd, 1) := by decide +kernel
theorem dX2_named_13 : decode cX2_named 13 = .ok (.bipush 60, 2) := by decide +kernel
theorem dX2_named_15 : decode cX2_named 15 = .ok (.invokestatic 35, 3) := by decide +kernel
theorem dX2_named_18 : decode cX2_named 18 = .ok (.ireturn, 1) := by decide +kernel
theorem dX2_farFromAhead_0 : decode cX2_farFromAhead 0 = .ok (.aload_n 0, 1) := by decide +kernel
theorem dX2_farFromAhead_1 : decode cX2_farFromAhead 1 = .ok (.getfield 15, 3) := by decide +kernel
theorem dX2_farFromAhead_4 : decode cX2_farFromAhead 4 = .ok (.aload_n 1, 1) := by decide +kernel
theorem dX2_farFromAhead_5 : decode cX2_farFromAhead 5 = .ok (.getfield 62, 3) := by decide +kernel
theorem dX2_farFromAhead_8 : decode cX2_farFromAhead 8 = .ok (.iload_n 2, 1) := by decide +kernel
theorem dX2_farFromAhead_9 : decode cX2_farFromAhead 9 = .ok (.invokevirtual 66, 3) := by decide +kernel
theorem dX2_farFromAhead_12 : decode cX2_farFromAhead 12 = .ok (.astore_n 3, 1) := by decide +kernel
theorem dX2_farFromAhead_13 : decode cX2_farFromAhead 13 = .ok (.aload_n 3, 1) := by decide +kernel
theorem dX2_farFromAhead_14 : decode cX2_farFromAhead 14 = .ok (.ifnonnull 7, 3) := by decide +kernel
theorem dX2_farFromAhead_17 : decode cX2_farFromAhead 17 = .ok (.iconst 0, 1) := by decide +kernel
theorem dX2_farFromAhead_18 : decode cX2_farFromAhead 18 = .ok (.goto 8, 3) := by decide +kernel
theorem dX2_farFromAhead_21 : decode cX2_farFromAhead 21 = .ok (.aload_n 1, 1) := by decide +kernel
theorem dX2_farFromAhead_22 : decode cX2_farFromAhead 22 = .ok (.aload_n 3, 1) := by decide +kernel
theorem dX2_farFromAhead_23 : decode cX2_farFromAhead 23 = .ok (.invokevirtual 70, 3) := by decide +kernel
theorem dX2_farFromAhead_26 : decode cX2_farFromAhead 26 = .ok (.ireturn, 1) := by decide +kernel
theorem dX2_marksAre_0 : decode cX2_marksAre 0 = .ok (.iconst 0, 1) := by decide +kernel
theorem dX2_marksAre_1 : decode cX2_marksAre 1 = .ok (.istore_n 3, 1) := by decide +kernel
theorem dX2_marksAre_2 : decode cX2_marksAre 2 = .ok (.iload_n 3, 1) := by decide +kernel
theorem dX2_marksAre_3 : decode cX2_marksAre 3 = .ok (.aload_n 0, 1) := by decide +kernel
theorem dX2_marksAre_4 : decode cX2_marksAre 4 = .ok (.getfield 15, 3) := by decide +kernel
theorem dX2_marksAre_7 : decode cX2_marksAre 7 = .ok (.getfield 73, 3) := by decide +kernel
theorem dX2_marksAre_10 : decode cX2_marksAre 10 = .ok (.if_icmp .ge 29, 3) := by decide +kernel
theorem dX2_marksAre_13 : decode cX2_marksAre 13 = .ok (.iload_n 3, 1) := by decide +kernel
theorem dX2_marksAre_14 : decode cX2_marksAre 14 = .ok (.aload_n 2, 1) := by decide +kernel
theorem dX2_marksAre_15 : decode cX2_marksAre 15 = .ok (.arraylength, 1) := by decide +kernel
theorem dX2_marksAre_16 : decode cX2_marksAre 16 = .ok (.if_icmp .ge 23, 3) := by decide +kernel
theorem dX2_marksAre_19 : decode cX2_marksAre 19 = .ok (.aload_n 0, 1) := by decide +kernel
theorem dX2_marksAre_20 : decode cX2_marksAre 20 = .ok (.iload_n 1, 1) := by decide +kernel
theorem dX2_marksAre_21 : decode cX2_marksAre 21 = .ok (.iload_n 3, 1) := by decide +kernel
theorem dX2_marksAre_22 : decode cX2_marksAre 22 = .ok (.invokevirtual 76, 3) := by decide +kernel
theorem dX2_marksAre_25 : decode cX2_marksAre 25 = .ok (.aload_n 2, 1) := by decide +kernel
theorem dX2_marksAre_26 : decode cX2_marksAre 26 = .ok (.iload_n 3, 1) := by decide +kernel
theorem dX2_marksAre_27 : decode cX2_marksAre 27 = .ok (.iaload, 1) := by decide +kernel
theorem dX2_marksAre_28 : decode cX2_marksAre 28 = .ok (.if_icmp .eq 5, 3) := by decide +kernel
theorem dX2_marksAre_31 : decode cX2_marksAre 31 = .ok (.iconst 0, 1) := by decide +kernel
theorem dX2_marksAre_32 : decode cX2_marksAre 32 = .ok (.ireturn, 1) := by decide +kernel
theorem dX2_marksAre_33 : decode cX2_marksAre 33 = .ok (.iinc 3 1, 3) := by decide +kernel
theorem dX2_marksAre_36 : decode cX2_marksAre 36 = .ok (.goto (-34), 3) := by decide +kernel
theorem dX2_marksAre_39 : decode cX2_marksAre 39 = .ok (.iconst 1, 1) := by decide +kernel
theorem dX2_marksAre_40 : decode cX2_marksAre 40 = .ok (.ireturn, 1) := by decide +kernel
theorem dX2_fewestTelling_0 : decode cX2_fewestTelling 0 = .ok (.iconst 0, 1) := by decide +kernel
theorem dX2_fewestTelling_1 : decode cX2_fewestTelling 1 = .ok (.istore_n 1, 1) := by decide +kernel
theorem dX2_fewestTelling_2 : decode cX2_fewestTelling 2 = .ok (.iload_n 1, 1) := by decide +kernel
theorem dX2_fewestTelling_3 : decode cX2_fewestTelling 3 = .ok (.iconst 5, 1) := by decide +kernel
theorem dX2_fewestTelling_4 : decode cX2_fewestTelling 4 = .ok (.if_icmp .ge 45, 3) := by decide +kernel
theorem dX2_fewestTelling_7 : decode cX2_fewestTelling 7 = .ok (.iconst 0, 1) := by decide +kernel
theorem dX2_fewestTelling_8 : decode cX2_fewestTelling 8 = .ok (.istore_n 2, 1) := by decide +kernel
theorem dX2_fewestTelling_9 : decode cX2_fewestTelling 9 = .ok (.iload_n 2, 1) := by decide +kernel
theorem dX2_fewestTelling_10 : decode cX2_fewestTelling 10 = .ok (.aload_n 0, 1) := by decide +kernel
theorem dX2_fewestTelling_11 : decode cX2_fewestTelling 11 = .ok (.getfield 15, 3) := by decide +kernel
theorem dX2_fewestTelling_14 : decode cX2_fewestTelling 14 = .ok (.getfield 73, 3) := by decide +kernel
theorem dX2_fewestTelling_17 : decode cX2_fewestTelling 17 = .ok (.if_icmp .ge 26, 3) := by decide +kernel
theorem dX2_fewestTelling_20 : decode cX2_fewestTelling 20 = .ok (.aload_n 0, 1) := by decide +kernel
theorem dX2_fewestTelling_21 : decode cX2_fewestTelling 21 = .ok (.getfield 9, 3) := by decide +kernel
theorem dX2_fewestTelling_24 : decode cX2_fewestTelling 24 = .ok (.iload_n 1, 1) := by decide +kernel
theorem dX2_fewestTelling_25 : decode cX2_fewestTelling 25 = .ok (.bipush 6, 2) := by decide +kernel
theorem dX2_fewestTelling_27 : decode cX2_fewestTelling 27 = .ok (.imul, 1) := by decide +kernel
theorem dX2_fewestTelling_28 : decode cX2_fewestTelling 28 = .ok (.iload_n 2, 1) := by decide +kernel
theorem dX2_fewestTelling_29 : decode cX2_fewestTelling 29 = .ok (.iadd, 1) := by decide +kernel
theorem dX2_fewestTelling_30 : decode cX2_fewestTelling 30 = .ok (.aload_n 0, 1) := by decide +kernel
theorem dX2_fewestTelling_31 : decode cX2_fewestTelling 31 = .ok (.iload_n 1, 1) := by decide +kernel
theorem dX2_fewestTelling_32 : decode cX2_fewestTelling 32 = .ok (.iload_n 2, 1) := by decide +kernel
theorem dX2_fewestTelling_33 : decode cX2_fewestTelling 33 = .ok (.invokevirtual 76, 3) := by decide +kernel
theorem dX2_fewestTelling_36 : decode cX2_fewestTelling 36 = .ok (.iastore, 1) := by decide +kernel
theorem dX2_fewestTelling_37 : decode cX2_fewestTelling 37 = .ok (.iinc 2 1, 3) := by decide +kernel
theorem dX2_fewestTelling_40 : decode cX2_fewestTelling 40 = .ok (.goto (-31), 3) := by decide +kernel
theorem dX2_fewestTelling_43 : decode cX2_fewestTelling 43 = .ok (.iinc 1 1, 3) := by decide +kernel
theorem dX2_fewestTelling_46 : decode cX2_fewestTelling 46 = .ok (.goto (-44), 3) := by decide +kernel
theorem dX2_fewestTelling_49 : decode cX2_fewestTelling 49 = .ok (.bipush (-9), 2) := by decide +kernel
theorem dX2_fewestTelling_51 : decode cX2_fewestTelling 51 = .ok (.istore_n 1, 1) := by decide +kernel
theorem dX2_fewestTelling_52 : decode cX2_fewestTelling 52 = .ok (.bipush 7, 2) := by decide +kernel
theorem dX2_fewestTelling_54 : decode cX2_fewestTelling 54 = .ok (.istore_n 2, 1) := by decide +kernel
theorem dX2_fewestTelling_55 : decode cX2_fewestTelling 55 = .ok (.iconst 0, 1) := by decide +kernel
theorem dX2_fewestTelling_56 : decode cX2_fewestTelling 56 = .ok (.istore_n 3, 1) := by decide +kernel
theorem dX2_fewestTelling_57 : decode cX2_fewestTelling 57 = .ok (.iload_n 3, 1) := by decide +kernel
theorem dX2_fewestTelling_58 : decode cX2_fewestTelling 58 = .ok (.iconst 1, 1) := by decide +kernel
theorem dX2_fewestTelling_59 : decode cX2_fewestTelling 59 = .ok (.aload_n 0, 1) := by decide +kernel
theorem dX2_fewestTelling_60 : decode cX2_fewestTelling 60 = .ok (.getfield 15, 3) := by decide +kernel
theorem dX2_fewestTelling_63 : decode cX2_fewestTelling 63 = .ok (.getfield 73, 3) := by decide +kernel
theorem dX2_fewestTelling_66 : decode cX2_fewestTelling 66 = .ok (.ishl, 1) := by decide +kernel
theorem dX2_fewestTelling_67 : decode cX2_fewestTelling 67 = .ok (.if_icmp .ge 32, 3) := by decide +kernel
theorem dX2_fewestTelling_70 : decode cX2_fewestTelling 70 = .ok (.iload_n 3, 1) := by decide +kernel
theorem dX2_fewestTelling_71 : decode cX2_fewestTelling 71 = .ok (.invokestatic 57, 3) := by decide +kernel
theorem dX2_fewestTelling_74 : decode cX2_fewestTelling 74 = .ok (.iload_n 2, 1) := by decide +kernel
theorem dX2_fewestTelling_75 : decode cX2_fewestTelling 75 = .ok (.if_icmp .ge 18, 3) := by decide +kernel
theorem dX2_fewestTelling_78 : decode cX2_fewestTelling 78 = .ok (.aload_n 0, 1) := by decide +kernel
theorem dX2_fewestTelling_79 : decode cX2_fewestTelling 79 = .ok (.iload_n 3, 1) := by decide +kernel
theorem dX2_fewestTelling_80 : decode cX2_fewestTelling 80 = .ok (.invokevirtual 79, 3) := by decide +kernel
theorem dX2_fewestTelling_83 : decode cX2_fewestTelling 83 = .ok (.ifCond .eq 10, 3) := by decide +kernel
theorem dX2_fewestTelling_86 : decode cX2_fewestTelling 86 = .ok (.iload_n 3, 1) := by decide +kernel
theorem dX2_fewestTelling_87 : decode cX2_fewestTelling 87 = .ok (.istore_n 1, 1) := by decide +kernel
theorem dX2_fewestTelling_88 : decode cX2_fewestTelling 88 = .ok (.iload_n 3, 1) := by decide +kernel
theorem dX2_fewestTelling_89 : decode cX2_fewestTelling 89 = .ok (.invokestatic 57, 3) := by decide +kernel
theorem dX2_fewestTelling_92 : decode cX2_fewestTelling 92 = .ok (.istore_n 2, 1) := by decide +kernel
theorem dX2_fewestTelling_93 : decode cX2_fewestTelling 93 = .ok (.iinc 3 1, 3) := by decide +kernel
theorem dX2_fewestTelling_96 : decode cX2_fewestTelling 96 = .ok (.goto (-39), 3) := by decide +kernel
theorem dX2_fewestTelling_99 : decode cX2_fewestTelling 99 = .ok (.iload_n 1, 1) := by decide +kernel
theorem dX2_fewestTelling_100 : decode cX2_fewestTelling 100 = .ok (.ireturn, 1) := by decide +kernel
theorem dX2_tellsAllApart_0 : decode cX2_tellsAllApart 0 = .ok (.iconst 0, 1) := by decide +kernel
theorem dX2_tellsAllApart_1 : decode cX2_tellsAllApart 1 = .ok (.istore_n 2, 1) := by decide +kernel
theorem dX2_tellsAllApart_2 : decode cX2_tellsAllApart 2 = .ok (.iload_n 2, 1) := by decide +kernel
theorem dX2_tellsAllApart_3 : decode cX2_tellsAllApart 3 = .ok (.iconst 5, 1) := by decide +kernel
theorem dX2_tellsAllApart_4 : decode cX2_tellsAllApart 4 = .ok (.if_icmp .ge 36, 3) := by decide +kernel
theorem dX2_tellsAllApart_7 : decode cX2_tellsAllApart 7 = .ok (.iload_n 2, 1) := by decide +kernel
theorem dX2_tellsAllApart_8 : decode cX2_tellsAllApart 8 = .ok (.iconst 1, 1) := by decide +kernel
theorem dX2_tellsAllApart_9 : decode cX2_tellsAllApart 9 = .ok (.iadd, 1) := by decide +kernel
theorem dX2_tellsAllApart_10 : decode cX2_tellsAllApart 10 = .ok (.istore_n 3, 1) := by decide +kernel
theorem dX2_tellsAllApart_11 : decode cX2_tellsAllApart 11 = .ok (.iload_n 3, 1) := by decide +kernel
theorem dX2_tellsAllApart_12 : decode cX2_tellsAllApart 12 = .ok (.iconst 5, 1) := by decide +kernel
theorem dX2_tellsAllApart_13 : decode cX2_tellsAllApart 13 = .ok (.if_icmp .ge 21, 3) := by decide +kernel
theorem dX2_tellsAllApart_16 : decode cX2_tellsAllApart 16 = .ok (.aload_n 0, 1) := by decide +kernel
theorem dX2_tellsAllApart_17 : decode cX2_tellsAllApart 17 = .ok (.iload_n 1, 1) := by decide +kernel
theorem dX2_tellsAllApart_18 : decode cX2_tellsAllApart 18 = .ok (.iload_n 2, 1) := by decide +kernel
theorem dX2_tellsAllApart_19 : decode cX2_tellsAllApart 19 = .ok (.iload_n 3, 1) := by decide +kernel
theorem dX2_tellsAllApart_20 : decode cX2_tellsAllApart 20 = .ok (.invokevirtual 83, 3) := by decide +kernel
theorem dX2_tellsAllApart_23 : decode cX2_tellsAllApart 23 = .ok (.ifCond .ne 5, 3) := by decide +kernel
theorem dX2_tellsAllApart_26 : decode cX2_tellsAllApart 26 = .ok (.iconst 0, 1) := by decide +kernel
theorem dX2_tellsAllApart_27 : decode cX2_tellsAllApart 27 = .ok (.ireturn, 1) := by decide +kernel
theorem dX2_tellsAllApart_28 : decode cX2_tellsAllApart 28 = .ok (.iinc 3 1, 3) := by decide +kernel
theorem dX2_tellsAllApart_31 : decode cX2_tellsAllApart 31 = .ok (.goto (-20), 3) := by decide +kernel
theorem dX2_tellsAllApart_34 : decode cX2_tellsAllApart 34 = .ok (.iinc 2 1, 3) := by decide +kernel
theorem dX2_tellsAllApart_37 : decode cX2_tellsAllApart 37 = .ok (.goto (-35), 3) := by decide +kernel
theorem dX2_tellsAllApart_40 : decode cX2_tellsAllApart 40 = .ok (.iconst 1, 1) := by decide +kernel
theorem dX2_tellsAllApart_41 : decode cX2_tellsAllApart 41 = .ok (.ireturn, 1) := by decide +kernel
theorem dX2_tellsApart_0 : decode cX2_tellsApart 0 = .ok (.iconst 0, 1) := by decide +kernel
theorem dX2_tellsApart_1 : decode cX2_tellsApart 1 = .ok (.istore 4, 2) := by decide +kernel
theorem dX2_tellsApart_3 : decode cX2_tellsApart 3 = .ok (.iload 4, 2) := by decide +kernel
theorem dX2_tellsApart_5 : decode cX2_tellsApart 5 = .ok (.aload_n 0, 1) := by decide +kernel
theorem dX2_tellsApart_6 : decode cX2_tellsApart 6 = .ok (.getfield 15, 3) := by decide +kernel
theorem dX2_tellsApart_9 : decode cX2_tellsApart 9 = .ok (.getfield 73, 3) := by decide +kernel
theorem dX2_tellsApart_12 : decode cX2_tellsApart 12 = .ok (.if_icmp .ge 64, 3) := by decide +kernel
theorem dX2_tellsApart_15 : decode cX2_tellsApart 15 = .ok (.iload_n 1, 1) := by decide +kernel
theorem dX2_tellsApart_16 : decode cX2_tellsApart 16 = .ok (.iload 4, 2) := by decide +kernel
theorem dX2_tellsApart_18 : decode cX2_tellsApart 18 = .ok (.ishr, 1) := by decide +kernel
theorem dX2_tellsApart_19 : decode cX2_tellsApart 19 = .ok (.iconst 1, 1) := by decide +kernel
theorem dX2_tellsApart_20 : decode cX2_tellsApart 20 = .ok (.iand, 1) := by decide +kernel
theorem dX2_tellsApart_21 : decode cX2_tellsApart 21 = .ok (.iconst 1, 1) := by decide +kernel
theorem dX2_tellsApart_22 : decode cX2_tellsApart 22 = .ok (.if_icmp .ne 7, 3) := by decide +kernel
theorem dX2_tellsApart_25 : decode cX2_tellsApart 25 = .ok (.iconst 1, 1) := by decide +kernel
theorem dX2_tellsApart_26 : decode cX2_tellsApart 26 = .ok (.goto 4, 3) := by decide +kernel
theorem dX2_tellsApart_29 : decode cX2_tellsApart 29 = .ok (.iconst 0, 1) := by decide +kernel
theorem dX2_tellsApart_30 : decode cX2_tellsApart 30 = .ok (.istore 5, 2) := by decide +kernel
theorem dX2_tellsApart_32 : decode cX2_tellsApart 32 = .ok (.aload_n 0, 1) := by decide +kernel
theorem dX2_tellsApart_33 : decode cX2_tellsApart 33 = .ok (.getfield 9, 3) := by decide +kernel
theorem dX2_tellsApart_36 : decode cX2_tellsApart 36 = .ok (.iload_n 2, 1) := by decide +kernel
theorem dX2_tellsApart_37 : decode cX2_tellsApart 37 = .ok (.bipush 6, 2) := by decide +kernel
theorem dX2_tellsApart_39 : decode cX2_tellsApart 39 = .ok (.imul, 1) := by decide +kernel
theorem dX2_tellsApart_40 : decode cX2_tellsApart 40 = .ok (.iload 4, 2) := by decide +kernel
theorem dX2_tellsApart_42 : decode cX2_tellsApart 42 = .ok (.iadd, 1) := by decide +kernel
theorem dX2_tellsApart_43 : decode cX2_tellsApart 43 = .ok (.iaload, 1) := by decide +kernel
theorem dX2_tellsApart_44 : decode cX2_tellsApart 44 = .ok (.istore 6, 2) := by decide +kernel
theorem dX2_tellsApart_46 : decode cX2_tellsApart 46 = .ok (.iload 5, 2) := by decide +kernel
theorem dX2_tellsApart_48 : decode cX2_tellsApart 48 = .ok (.ifCond .eq 22, 3) := by decide +kernel
theorem dX2_tellsApart_51 : decode cX2_tellsApart 51 = .ok (.iload 6, 2) := by decide +kernel
theorem dX2_tellsApart_53 : decode cX2_tellsApart 53 = .ok (.aload_n 0, 1) := by decide +kernel
theorem dX2_tellsApart_54 : decode cX2_tellsApart 54 = .ok (.getfield 9, 3) := by decide +kernel
theorem dX2_tellsApart_57 : decode cX2_tellsApart 57 = .ok (.iload_n 3, 1) := by decide +kernel
theorem dX2_tellsApart_58 : decode cX2_tellsApart 58 = .ok (.bipush 6, 2) := by decide +kernel
theorem dX2_tellsApart_60 : decode cX2_tellsApart 60 = .ok (.imul, 1) := by decide +kernel
theorem dX2_tellsApart_61 : decode cX2_tellsApart 61 = .ok (.iload 4, 2) := by decide +kernel
theorem dX2_tellsApart_63 : decode cX2_tellsApart 63 = .ok (.iadd, 1) := by decide +kernel
theorem dX2_tellsApart_64 : decode cX2_tellsApart 64 = .ok (.iaload, 1) := by decide +kernel
theorem dX2_tellsApart_65 : decode cX2_tellsApart 65 = .ok (.if_icmp .eq 5, 3) := by decide +kernel
theorem dX2_tellsApart_68 : decode cX2_tellsApart 68 = .ok (.iconst 1, 1) := by decide +kernel
theorem dX2_tellsApart_69 : decode cX2_tellsApart 69 = .ok (.ireturn, 1) := by decide +kernel
theorem dX2_tellsApart_70 : decode cX2_tellsApart 70 = .ok (.iinc 4 1, 3) := by decide +kernel
theorem dX2_tellsApart_73 : decode cX2_tellsApart 73 = .ok (.goto (-70), 3) := by decide +kernel
theorem dX2_tellsApart_76 : decode cX2_tellsApart 76 = .ok (.iconst 0, 1) := by decide +kernel
theorem dX2_tellsApart_77 : decode cX2_tellsApart 77 = .ok (.ireturn, 1) := by decide +kernel
