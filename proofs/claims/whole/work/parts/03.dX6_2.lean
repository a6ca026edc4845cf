theorem dX6_isRowBy_8 : decode cX6_isRowBy 8 = .ok (.bipush 12, 2) := by decide +kernel
theorem dX6_isRowBy_10 : decode cX6_isRowBy 10 = .ok (.if_icmp .ge 58, 3) := by decide +kernel
theorem dX6_isRowBy_13 : decode cX6_isRowBy 13 = .ok (.iload 5, 2) := by decide +kernel
theorem dX6_isRowBy_15 : decode cX6_isRowBy 15 = .ok (.ifCond .eq 53, 3) := by decide +kernel
theorem dX6_isRowBy_18 : decode cX6_isRowBy 18 = .ok (.aload_n 0, 1) := by decide +kernel
theorem dX6_isRowBy_19 : decode cX6_isRowBy 19 = .ok (.iload_n 1, 1) := by decide +kernel
theorem dX6_isRowBy_20 : decode cX6_isRowBy 20 = .ok (.iload_n 2, 1) := by decide +kernel
theorem dX6_isRowBy_21 : decode cX6_isRowBy 21 = .ok (.iload_n 3, 1) := by decide +kernel
theorem dX6_isRowBy_22 : decode cX6_isRowBy 22 = .ok (.iload 4, 2) := by decide +kernel
theorem dX6_isRowBy_24 : decode cX6_isRowBy 24 = .ok (.iload 6, 2) := by decide +kernel
theorem dX6_isRowBy_26 : decode cX6_isRowBy 26 = .ok (.invokevirtual 92, 3) := by decide +kernel
theorem dX6_isRowBy_29 : decode cX6_isRowBy 29 = .ok (.istore 7, 2) := by decide +kernel
theorem dX6_isRowBy_31 : decode cX6_isRowBy 31 = .ok (.aload_n 0, 1) := by decide +kernel
theorem dX6_isRowBy_32 : decode cX6_isRowBy 32 = .ok (.getfield 52, 3) := by decide +kernel
theorem dX6_isRowBy_35 : decode cX6_isRowBy 35 = .ok (.iload 6, 2) := by decide +kernel
theorem dX6_isRowBy_37 : decode cX6_isRowBy 37 = .ok (.iaload, 1) := by decide +kernel
theorem dX6_isRowBy_38 : decode cX6_isRowBy 38 = .ok (.iload 7, 2) := by decide +kernel
theorem dX6_isRowBy_40 : decode cX6_isRowBy 40 = .ok (.bipush 99, 2) := by decide +kernel
theorem dX6_isRowBy_42 : decode cX6_isRowBy 42 = .ok (.if_icmp .le 8, 3) := by decide +kernel
theorem dX6_isRowBy_45 : decode cX6_isRowBy 45 = .ok (.bipush 99, 2) := by decide +kernel
theorem dX6_isRowBy_47 : decode cX6_isRowBy 47 = .ok (.goto 5, 3) := by decide +kernel
theorem dX6_isRowBy_50 : decode cX6_isRowBy 50 = .ok (.iload 7, 2) := by decide +kernel
theorem dX6_isRowBy_52 : decode cX6_isRowBy 52 = .ok (.if_icmp .ne 7, 3) := by decide +kernel
theorem dX6_isRowBy_55 : decode cX6_isRowBy 55 = .ok (.iconst 1, 1) := by decide +kernel
theorem dX6_isRowBy_56 : decode cX6_isRowBy 56 = .ok (.goto 4, 3) := by decide +kernel
theorem dX6_isRowBy_59 : decode cX6_isRowBy 59 = .ok (.iconst 0, 1) := by decide +kernel
theorem dX6_isRowBy_60 : decode cX6_isRowBy 60 = .ok (.istore 5, 2) := by decide +kernel
theorem dX6_isRowBy_62 : decode cX6_isRowBy 62 = .ok (.iinc 6 1, 3) := by decide +kernel
theorem dX6_isRowBy_65 : decode cX6_isRowBy 65 = .ok (.goto (-59), 3) := by decide +kernel
theorem dX6_isRowBy_68 : decode cX6_isRowBy 68 = .ok (.iload 5, 2) := by decide +kernel
theorem dX6_isRowBy_70 : decode cX6_isRowBy 70 = .ok (.ireturn, 1) := by decide +kernel
theorem dX6_byWhich_0 : decode cX6_byWhich 0 = .ok (.iconst 1, 1) := by decide +kernel
theorem dX6_byWhich_1 : decode cX6_byWhich 1 = .ok (.istore_n 3, 1) := by decide +kernel
theorem dX6_byWhich_2 : decode cX6_byWhich 2 = .ok (.iload_n 3, 1) := by decide +kernel
theorem dX6_byWhich_3 : decode cX6_byWhich 3 = .ok (.bipush 10, 2) := by decide +kernel
theorem dX6_byWhich_5 : decode cX6_byWhich 5 = .ok (.if_icmp .ge 45, 3) := by decide +kernel
theorem dX6_byWhich_8 : decode cX6_byWhich 8 = .ok (.iconst 1, 1) := by decide +kernel
theorem dX6_byWhich_9 : decode cX6_byWhich 9 = .ok (.istore 4, 2) := by decide +kernel
theorem dX6_byWhich_11 : decode cX6_byWhich 11 = .ok (.iload 4, 2) := by decide +kernel
theorem dX6_byWhich_13 : decode cX6_byWhich 13 = .ok (.bipush 10, 2) := by decide +kernel
theorem dX6_byWhich_15 : decode cX6_byWhich 15 = .ok (.if_icmp .ge 29, 3) := by decide +kernel
theorem dX6_byWhich_18 : decode cX6_byWhich 18 = .ok (.aload_n 0, 1) := by decide +kernel
theorem dX6_byWhich_19 : decode cX6_byWhich 19 = .ok (.iload_n 1, 1) := by decide +kernel
theorem dX6_byWhich_20 : decode cX6_byWhich 20 = .ok (.iload_n 2, 1) := by decide +kernel
theorem dX6_byWhich_21 : decode cX6_byWhich 21 = .ok (.iload_n 3, 1) := by decide +kernel
theorem dX6_byWhich_22 : decode cX6_byWhich 22 = .ok (.iload 4, 2) := by decide +kernel
theorem dX6_byWhich_24 : decode cX6_byWhich 24 = .ok (.invokevirtual 255, 3) := by decide +kernel
theorem dX6_byWhich_27 : decode cX6_byWhich 27 = .ok (.ifCond .eq 11, 3) := by decide +kernel
theorem dX6_byWhich_30 : decode cX6_byWhich 30 = .ok (.bipush 10, 2) := by decide +kernel
theorem dX6_byWhich_32 : decode cX6_byWhich 32 = .ok (.iload_n 3, 1) := by decide +kernel
theorem dX6_byWhich_33 : decode cX6_byWhich 33 = .ok (.imul, 1) := by decide +kernel
theorem dX6_byWhich_34 : decode cX6_byWhich 34 = .ok (.iload 4, 2) := by decide +kernel
theorem dX6_byWhich_36 : decode cX6_byWhich 36 = .ok (.iadd, 1) := by decide +kernel
theorem dX6_byWhich_37 : decode cX6_byWhich 37 = .ok (.ireturn, 1) := by decide +kernel
theorem dX6_byWhich_38 : decode cX6_byWhich 38 = .ok (.iinc 4 1, 3) := by decide +kernel
theorem dX6_byWhich_41 : decode cX6_byWhich 41 = .ok (.goto (-30), 3) := by decide +kernel
theorem dX6_byWhich_44 : decode cX6_byWhich 44 = .ok (.iinc 3 1, 3) := by decide +kernel
theorem dX6_byWhich_47 : decode cX6_byWhich 47 = .ok (.goto (-45), 3) := by decide +kernel
theorem dX6_byWhich_50 : decode cX6_byWhich 50 = .ok (.bipush (-9), 2) := by decide +kernel
theorem dX6_byWhich_52 : decode cX6_byWhich 52 = .ok (.ireturn, 1) := by decide +kernel
theorem dX6_whose_0 : decode cX6_whose 0 = .ok (.aload_n 0, 1) := by decide +kernel
theorem dX6_whose_1 : decode cX6_whose 1 = .ok (.iconst 0, 1) := by decide +kernel
theorem dX6_whose_2 : decode cX6_whose 2 = .ok (.putfield 55, 3) := by decide +kernel
theorem dX6_whose_5 : decode cX6_whose 5 = .ok (.iload_n 1, 1) := by decide +kernel
theorem dX6_whose_6 : decode cX6_whose 6 = .ok (.invokestatic 147, 3) := by decide +kernel
theorem dX6_whose_9 : decode cX6_whose 9 = .ok (.ifCond .ne 7, 3) := by decide +kernel
theorem dX6_whose_12 : decode cX6_whose 12 = .ok (.iconst (-1), 1) := by decide +kernel
theorem dX6_whose_13 : decode cX6_whose 13 = .ok (.goto 37, 3) := by decide +kernel
theorem dX6_whose_16 : decode cX6_whose 16 = .ok (.iload_n 2, 1) := by decide +kernel
theorem dX6_whose_17 : decode cX6_whose 17 = .ok (.i2l, 1) := by decide +kernel
theorem dX6_whose_18 : decode cX6_whose 18 = .ok (.ldc2_w 238, 3) := by decide +kernel
theorem dX6_whose_21 : decode cX6_whose 21 = .ok (.ldc2_w 204, 3) := by decide +kernel
theorem dX6_whose_24 : decode cX6_whose 24 = .ok (.invokestatic 59, 3) := by decide +kernel
theorem dX6_whose_27 : decode cX6_whose 27 = .ok (.ifCond .ne 8, 3) := by decide +kernel
theorem dX6_whose_30 : decode cX6_whose 30 = .ok (.bipush (-2), 2) := by decide +kernel
theorem dX6_whose_32 : decode cX6_whose 32 = .ok (.goto 18, 3) := by decide +kernel
theorem dX6_whose_35 : decode cX6_whose 35 = .ok (.aload_n 0, 1) := by decide +kernel
theorem dX6_whose_36 : decode cX6_whose 36 = .ok (.getfield 259, 3) := by decide +kernel
theorem dX6_whose_39 : decode cX6_whose 39 = .ok (.bipush 12, 2) := by decide +kernel
theorem dX6_whose_41 : decode cX6_whose 41 = .ok (.if_icmp .ge 8, 3) := by decide +kernel
theorem dX6_whose_44 : decode cX6_whose 44 = .ok (.bipush (-3), 2) := by decide +kernel
theorem dX6_whose_46 : decode cX6_whose 46 = .ok (.goto 4, 3) := by decide +kernel
theorem dX6_whose_49 : decode cX6_whose 49 = .ok (.iconst 0, 1) := by decide +kernel
theorem dX6_whose_50 : decode cX6_whose 50 = .ok (.istore_n 3, 1) := by decide +kernel
theorem dX6_whose_51 : decode cX6_whose 51 = .ok (.iload_n 3, 1) := by decide +kernel
theorem dX6_whose_52 : decode cX6_whose 52 = .ok (.ifCond .ge 9, 3) := by decide +kernel
theorem dX6_whose_55 : decode cX6_whose 55 = .ok (.aload_n 0, 1) := by decide +kernel
theorem dX6_whose_56 : decode cX6_whose 56 = .ok (.iload_n 3, 1) := by decide +kernel
theorem dX6_whose_57 : decode cX6_whose 57 = .ok (.invokevirtual 102, 3) := by decide +kernel
theorem dX6_whose_60 : decode cX6_whose 60 = .ok (.ireturn, 1) := by decide +kernel
theorem dX6_whose_61 : decode cX6_whose 61 = .ok (.iload_n 2, 1) := by decide +kernel
theorem dX6_whose_62 : decode cX6_whose 62 = .ok (.ifCond .lt 10, 3) := by decide +kernel
theorem dX6_whose_65 : decode cX6_whose 65 = .ok (.aload_n 0, 1) := by decide +kernel
theorem dX6_whose_66 : decode cX6_whose 66 = .ok (.iload_n 2, 1) := by decide +kernel
theorem dX6_whose_67 : decode cX6_whose 67 = .ok (.iload_n 1, 1) := by decide +kernel
theorem dX6_whose_68 : decode cX6_whose 68 = .ok (.invokevirtual 262, 3) := by decide +kernel
theorem dX6_whose_71 : decode cX6_whose 71 = .ok (.ireturn, 1) := by decide +kernel
theorem dX6_whose_72 : decode cX6_whose 72 = .ok (.iconst 0, 1) := by decide +kernel
theorem dX6_whose_73 : decode cX6_whose 73 = .ok (.istore 4, 2) := by decide +kernel
theorem dX6_whose_75 : decode cX6_whose 75 = .ok (.iconst 0, 1) := by decide +kernel
theorem dX6_whose_76 : decode cX6_whose 76 = .ok (.istore 5, 2) := by decide +kernel
theorem dX6_whose_78 : decode cX6_whose 78 = .ok (.iload 5, 2) := by decide +kernel
theorem dX6_whose_80 : decode cX6_whose 80 = .ok (.bipush 7, 2) := by decide +kernel
theorem dX6_whose_82 : decode cX6_whose 82 = .ok (.if_icmp .ge 32, 3) := by decide +kernel
theorem dX6_whose_85 : decode cX6_whose 85 = .ok (.iload 4, 2) := by decide +kernel
theorem dX6_whose_87 : decode cX6_whose 87 = .ok (.aload_n 0, 1) := by decide +kernel
theorem dX6_whose_88 : decode cX6_whose 88 = .ok (.iload 5, 2) := by decide +kernel
theorem dX6_whose_90 : decode cX6_whose 90 = .ok (.iload_n 1, 1) := by decide +kernel
theorem dX6_whose_91 : decode cX6_whose 91 = .ok (.invokevirtual 262, 3) := by decide +kernel
theorem dX6_whose_94 : decode cX6_whose 94 = .ok (.ifCond .ge 7, 3) := by decide +kernel
theorem dX6_whose_97 : decode cX6_whose 97 = .ok (.iconst 0, 1) := by decide +kernel
theorem dX6_whose_98 : decode cX6_whose 98 = .ok (.goto 7, 3) := by decide +kernel
theorem dX6_whose_101 : decode cX6_whose 101 = .ok (.iconst 1, 1) := by decide +kernel
theorem dX6_whose_102 : decode cX6_whose 102 = .ok (.iload 5, 2) := by decide +kernel
theorem dX6_whose_104 : decode cX6_whose 104 = .ok (.ishl, 1) := by decide +kernel
theorem dX6_whose_105 : decode cX6_whose 105 = .ok (.ior, 1) := by decide +kernel
theorem dX6_whose_106 : decode cX6_whose 106 = .ok (.istore 4, 2) := by decide +kernel
theorem dX6_whose_108 : decode cX6_whose 108 = .ok (.iinc 5 1, 3) := by decide +kernel
theorem dX6_whose_111 : decode cX6_whose 111 = .ok (.goto (-33), 3) := by decide +kernel
theorem dX6_whose_114 : decode cX6_whose 114 = .ok (.iload 4, 2) := by decide +kernel
theorem dX6_whose_116 : decode cX6_whose 116 = .ok (.ireturn, 1) := by decide +kernel
theorem dX6_markBy_0 : decode cX6_markBy 0 = .ok (.bipush 60, 2) := by decide +kernel
theorem dX6_markBy_2 : decode cX6_markBy 2 = .ok (.aload_n 0, 1) := by decide +kernel
theorem dX6_markBy_3 : decode cX6_markBy 3 = .ok (.iload_n 2, 1) := by decide +kernel
theorem dX6_markBy_4 : decode cX6_markBy 4 = .ok (.invokevirtual 217, 3) := by decide +kernel
theorem dX6_markBy_7 : decode cX6_markBy 7 = .ok (.iconst 4, 1) := by decide +kernel
theorem dX6_markBy_8 : decode cX6_markBy 8 = .ok (.idiv, 1) := by decide +kernel
theorem dX6_markBy_9 : decode cX6_markBy 9 = .ok (.isub, 1) := by decide +kernel
theorem dX6_markBy_10 : decode cX6_markBy 10 = .ok (.aload_n 0, 1) := by decide +kernel
theorem dX6_markBy_11 : decode cX6_markBy 11 = .ok (.iload_n 2, 1) := by decide +kernel
theorem dX6_markBy_12 : decode cX6_markBy 12 = .ok (.invokevirtual 214, 3) := by decide +kernel
theorem dX6_markBy_15 : decode cX6_markBy 15 = .ok (.isub, 1) := by decide +kernel
theorem dX6_markBy_16 : decode cX6_markBy 16 = .ok (.bipush 60, 2) := by decide +kernel
theorem dX6_markBy_18 : decode cX6_markBy 18 = .ok (.invokestatic 72, 3) := by decide +kernel
theorem dX6_markBy_21 : decode cX6_markBy 21 = .ok (.istore_n 3, 1) := by decide +kernel
theorem dX6_markBy_22 : decode cX6_markBy 22 = .ok (.iload_n 3, 1) := by decide +kernel
theorem dX6_markBy_23 : decode cX6_markBy 23 = .ok (.iconst 2, 1) := by decide +kernel
theorem dX6_markBy_24 : decode cX6_markBy 24 = .ok (.aload_n 0, 1) := by decide +kernel
theorem dX6_markBy_25 : decode cX6_markBy 25 = .ok (.iload_n 2, 1) := by decide +kernel
theorem dX6_markBy_26 : decode cX6_markBy 26 = .ok (.invokevirtual 223, 3) := by decide +kernel
theorem dX6_markBy_29 : decode cX6_markBy 29 = .ok (.invokestatic 265, 3) := by decide +kernel
theorem dX6_markBy_32 : decode cX6_markBy 32 = .ok (.imul, 1) := by decide +kernel
theorem dX6_markBy_33 : decode cX6_markBy 33 = .ok (.isub, 1) := by decide +kernel
theorem dX6_markBy_34 : decode cX6_markBy 34 = .ok (.bipush 60, 2) := by decide +kernel
theorem dX6_markBy_36 : decode cX6_markBy 36 = .ok (.invokestatic 72, 3) := by decide +kernel
theorem dX6_markBy_39 : decode cX6_markBy 39 = .ok (.istore 4, 2) := by decide +kernel
theorem dX6_markBy_41 : decode cX6_markBy 41 = .ok (.iload_n 3, 1) := by decide +kernel
theorem dX6_markBy_42 : decode cX6_markBy 42 = .ok (.iconst 3, 1) := by decide +kernel
theorem dX6_markBy_43 : decode cX6_markBy 43 = .ok (.aload_n 0, 1) := by decide +kernel
theorem dX6_markBy_44 : decode cX6_markBy 44 = .ok (.getfield 16, 3) := by decide +kernel
theorem dX6_markBy_47 : decode cX6_markBy 47 = .ok (.iconst 3, 1) := by decide +kernel
theorem dX6_markBy_48 : decode cX6_markBy 48 = .ok (.iaload, 1) := by decide +kernel
theorem dX6_markBy_49 : decode cX6_markBy 49 = .ok (.imul, 1) := by decide +kernel
theorem dX6_markBy_50 : decode cX6_markBy 50 = .ok (.iadd, 1) := by decide +kernel
theorem dX6_markBy_51 : decode cX6_markBy 51 = .ok (.bipush 60, 2) := by decide +kernel
theorem dX6_markBy_53 : decode cX6_markBy 53 = .ok (.invokestatic 72, 3) := by decide +kernel
theorem dX6_markBy_56 : decode cX6_markBy 56 = .ok (.istore 5, 2) := by decide +kernel
theorem dX6_markBy_58 : decode cX6_markBy 58 = .ok (.aload_n 0, 1) := by decide +kernel
theorem dX6_markBy_59 : decode cX6_markBy 59 = .ok (.aload_n 0, 1) := by decide +kernel
theorem dX6_markBy_60 : decode cX6_markBy 60 = .ok (.getfield 19, 3) := by decide +kernel
theorem dX6_markBy_63 : decode cX6_markBy 63 = .ok (.iload_n 2, 1) := by decide +kernel
theorem dX6_markBy_64 : decode cX6_markBy 64 = .ok (.iaload, 1) := by decide +kernel
theorem dX6_markBy_65 : decode cX6_markBy 65 = .ok (.iload_n 2, 1) := by decide +kernel
theorem dX6_markBy_66 : decode cX6_markBy 66 = .ok (.invokevirtual 68, 3) := by decide +kernel
theorem dX6_markBy_69 : decode cX6_markBy 69 = .ok (.istore 6, 2) := by decide +kernel
theorem dX6_markBy_71 : decode cX6_markBy 71 = .ok (.iload_n 1, 1) := by decide +kernel
theorem dX6_markBy_72 : decode cX6_markBy 72 = .ok (.tableswitch 55 0 3 #[32, 34, 37, 40], 32) := by decide +kernel
theorem dX6_markBy_104 : decode cX6_markBy 104 = .ok (.iload_n 3, 1) := by decide +kernel
theorem dX6_markBy_105 : decode cX6_markBy 105 = .ok (.ireturn, 1) := by decide +kernel
theorem dX6_markBy_106 : decode cX6_markBy 106 = .ok (.iload 4, 2) := by decide +kernel
theorem dX6_markBy_108 : decode cX6_markBy 108 = .ok (.ireturn, 1) := by decide +kernel
theorem dX6_markBy_109 : decode cX6_markBy 109 = .ok (.iload 5, 2) := by decide +kernel
theorem dX6_markBy_111 : decode cX6_markBy 111 = .ok (.ireturn, 1) := by decide +kernel
theorem dX6_markBy_112 : decode cX6_markBy 112 = .ok (.iload 5, 2) := by decide +kernel
theorem dX6_markBy_114 : decode cX6_markBy 114 = .ok (.aload_n 0, 1) := by decide +kernel
theorem dX6_markBy_115 : decode cX6_markBy 115 = .ok (.getfield 16, 3) := by decide +kernel
theorem dX6_markBy_118 : decode cX6_markBy 118 = .ok (.iconst 4, 1) := by decide +kernel
theorem dX6_markBy_119 : decode cX6_markBy 119 = .ok (.iaload, 1) := by decide +kernel
theorem dX6_markBy_120 : decode cX6_markBy 120 = .ok (.iadd, 1) := by decide +kernel
theorem dX6_markBy_121 : decode cX6_markBy 121 = .ok (.bipush 60, 2) := by decide +kernel
theorem dX6_markBy_123 : decode cX6_markBy 123 = .ok (.invokestatic 72, 3) := by decide +kernel
theorem dX6_markBy_126 : decode cX6_markBy 126 = .ok (.ireturn, 1) := by decide +kernel
theorem dX6_markBy_127 : decode cX6_markBy 127 = .ok (.iload 6, 2) := by decide +kernel
theorem dX6_markBy_129 : decode cX6_markBy 129 = .ok (.ifCond .ge 8, 3) := by decide +kernel
theorem dX6_markBy_132 : decode cX6_markBy 132 = .ok (.iload 4, 2) := by decide +kernel
theorem dX6_markBy_134 : decode cX6_markBy 134 = .ok (.goto 21, 3) := by decide +kernel
theorem dX6_markBy_137 : decode cX6_markBy 137 = .ok (.iload 4, 2) := by decide +kernel
theorem dX6_markBy_139 : decode cX6_markBy 139 = .ok (.aload_n 0, 1) := by decide +kernel
theorem dX6_markBy_140 : decode cX6_markBy 140 = .ok (.iload_n 2, 1) := by decide +kernel
theorem dX6_markBy_141 : decode cX6_markBy 141 = .ok (.iload 6, 2) := by decide +kernel
theorem dX6_markBy_143 : decode cX6_markBy 143 = .ok (.invokevirtual 235, 3) := by decide +kernel
theorem dX6_markBy_146 : decode cX6_markBy 146 = .ok (.bipush 8, 2) := by decide +kernel
theorem dX6_markBy_148 : decode cX6_markBy 148 = .ok (.idiv, 1) := by decide +kernel
theorem dX6_markBy_149 : decode cX6_markBy 149 = .ok (.isub, 1) := by decide +kernel
theorem dX6_markBy_150 : decode cX6_markBy 150 = .ok (.bipush 60, 2) := by decide +kernel
theorem dX6_markBy_152 : decode cX6_markBy 152 = .ok (.invokestatic 72, 3) := by decide +kernel
theorem dX6_markBy_155 : decode cX6_markBy 155 = .ok (.ireturn, 1) := by decide +kernel
theorem dX6_mark_0 : decode cX6_mark 0 = .ok (.aload_n 0, 1) := by decide +kernel
theorem dX6_mark_1 : decode cX6_mark 1 = .ok (.iconst 0, 1) := by decide +kernel
theorem dX6_mark_2 : decode cX6_mark 2 = .ok (.putfield 55, 3) := by decide +kernel
theorem dX6_mark_5 : decode cX6_mark 5 = .ok (.iload_n 1, 1) := by decide +kernel
theorem dX6_mark_6 : decode cX6_mark 6 = .ok (.i2l, 1) := by decide +kernel
theorem dX6_mark_7 : decode cX6_mark 7 = .ok (.lconst 0, 1) := by decide +kernel
theorem dX6_mark_8 : decode cX6_mark 8 = .ok (.ldc2_w 139, 3) := by decide +kernel
theorem dX6_mark_11 : decode cX6_mark 11 = .ok (.invokestatic 59, 3) := by decide +kernel
theorem dX6_mark_14 : decode cX6_mark 14 = .ok (.ifCond .eq 11, 3) := by decide +kernel
theorem dX6_mark_17 : decode cX6_mark 17 = .ok (.aload_n 0, 1) := by decide +kernel
theorem dX6_mark_18 : decode cX6_mark 18 = .ok (.iload_n 2, 1) := by decide +kernel
theorem dX6_mark_19 : decode cX6_mark 19 = .ok (.invokevirtual 206, 3) := by decide +kernel
theorem dX6_mark_22 : decode cX6_mark 22 = .ok (.ifCond .ne 26, 3) := by decide +kernel
theorem dX6_mark_25 : decode cX6_mark 25 = .ok (.aload_n 0, 1) := by decide +kernel
theorem dX6_mark_26 : decode cX6_mark 26 = .ok (.iload_n 1, 1) := by decide +kernel
theorem dX6_mark_27 : decode cX6_mark 27 = .ok (.i2l, 1) := by decide +kernel
theorem dX6_mark_28 : decode cX6_mark 28 = .ok (.lconst 0, 1) := by decide +kernel
theorem dX6_mark_29 : decode cX6_mark 29 = .ok (.ldc2_w 139, 3) := by decide +kernel
theorem dX6_mark_32 : decode cX6_mark 32 = .ok (.invokestatic 59, 3) := by decide +kernel
theorem dX6_mark_35 : decode cX6_mark 35 = .ok (.ifCond .eq 7, 3) := by decide +kernel
theorem dX6_mark_38 : decode cX6_mark 38 = .ok (.iconst (-1), 1) := by decide +kernel
theorem dX6_mark_39 : decode cX6_mark 39 = .ok (.goto 5, 3) := by decide +kernel
theorem dX6_mark_42 : decode cX6_mark 42 = .ok (.bipush (-2), 2) := by decide +kernel
theorem dX6_mark_44 : decode cX6_mark 44 = .ok (.invokevirtual 102, 3) := by decide +kernel
theorem dX6_mark_47 : decode cX6_mark 47 = .ok (.ireturn, 1) := by decide +kernel
theorem dX6_mark_48 : decode cX6_mark 48 = .ok (.aload_n 0, 1) := by decide +kernel
theorem dX6_mark_49 : decode cX6_mark 49 = .ok (.iload_n 1, 1) := by decide +kernel
theorem dX6_mark_50 : decode cX6_mark 50 = .ok (.iload_n 2, 1) := by decide +kernel
theorem dX6_mark_51 : decode cX6_mark 51 = .ok (.invokevirtual 268, 3) := by decide +kernel
theorem dX6_mark_54 : decode cX6_mark 54 = .ok (.ireturn, 1) := by decide +kernel
theorem dX6_fits_0 : decode cX6_fits 0 = .ok (.aload_n 0, 1) := by decide +kernel
theorem dX6_fits_1 : decode cX6_fits 1 = .ok (.iconst 0, 1) := by decide +kernel
theorem dX6_fits_2 : decode cX6_fits 2 = .ok (.putfield 55, 3) := by decide +kernel
theorem dX6_fits_5 : decode cX6_fits 5 = .ok (.aload_n 0, 1) := by decide +kernel
theorem dX6_fits_6 : decode cX6_fits 6 = .ok (.getfield 259, 3) := by decide +kernel
theorem dX6_fits_9 : decode cX6_fits 9 = .ok (.aload_n 0, 1) := by decide +kernel
theorem dX6_fits_10 : decode cX6_fits 10 = .ok (.getfield 65, 3) := by decide +kernel
theorem dX6_fits_13 : decode cX6_fits 13 = .ok (.if_icmp .eq 10, 3) := by decide +kernel
theorem dX6_fits_16 : decode cX6_fits 16 = .ok (.aload_n 0, 1) := by decide +kernel
theorem dX6_fits_17 : decode cX6_fits 17 = .ok (.bipush (-3), 2) := by decide +kernel
theorem dX6_fits_19 : decode cX6_fits 19 = .ok (.invokevirtual 102, 3) := by decide +kernel
theorem dX6_fits_22 : decode cX6_fits 22 = .ok (.ireturn, 1) := by decide +kernel
theorem dX6_fits_23 : decode cX6_fits 23 = .ok (.iconst 0, 1) := by decide +kernel
theorem dX6_fits_24 : decode cX6_fits 24 = .ok (.istore_n 1, 1) := by decide +kernel
theorem dX6_fits_25 : decode cX6_fits 25 = .ok (.iconst 0, 1) := by decide +kernel
theorem dX6_fits_26 : decode cX6_fits 26 = .ok (.istore_n 2, 1) := by decide +kernel
theorem dX6_fits_27 : decode cX6_fits 27 = .ok (.iload_n 2, 1) := by decide +kernel
theorem dX6_fits_28 : decode cX6_fits 28 = .ok (.iconst 5, 1) := by decide +kernel
theorem dX6_fits_29 : decode cX6_fits 29 = .ok (.if_icmp .ge 70, 3) := by decide +kernel
theorem dX6_fits_32 : decode cX6_fits 32 = .ok (.iconst 1, 1) := by decide +kernel
theorem dX6_fits_33 : decode cX6_fits 33 = .ok (.istore_n 3, 1) := by decide +kernel
theorem dX6_fits_34 : decode cX6_fits 34 = .ok (.iconst 0, 1) := by decide +kernel
theorem dX6_fits_35 : decode cX6_fits 35 = .ok (.istore 4, 2) := by decide +kernel
theorem dX6_fits_37 : decode cX6_fits 37 = .ok (.iload 4, 2) := by decide +kernel
theorem dX6_fits_39 : decode cX6_fits 39 = .ok (.aload_n 0, 1) := by decide +kernel
theorem dX6_fits_40 : decode cX6_fits 40 = .ok (.getfield 65, 3) := by decide +kernel
theorem dX6_fits_43 : decode cX6_fits 43 = .ok (.if_icmp .ge 36, 3) := by decide +kernel
theorem dX6_fits_46 : decode cX6_fits 46 = .ok (.iload_n 3, 1) := by decide +kernel
theorem dX6_fits_47 : decode cX6_fits 47 = .ok (.ifCond .eq 24, 3) := by decide +kernel
theorem dX6_fits_50 : decode cX6_fits 50 = .ok (.aload_n 0, 1) := by decide +kernel
theorem dX6_fits_51 : decode cX6_fits 51 = .ok (.iload_n 2, 1) := by decide +kernel
theorem dX6_fits_52 : decode cX6_fits 52 = .ok (.iload 4, 2) := by decide +kernel
theorem dX6_fits_54 : decode cX6_fits 54 = .ok (.invokevirtual 268, 3) := by decide +kernel
theorem dX6_fits_57 : decode cX6_fits 57 = .ok (.aload_n 0, 1) := by decide +kernel
theorem dX6_fits_58 : decode cX6_fits 58 = .ok (.getfield 52, 3) := by decide +kernel
theorem dX6_fits_61 : decode cX6_fits 61 = .ok (.iload 4, 2) := by decide +kernel
theorem dX6_fits_63 : decode cX6_fits 63 = .ok (.iaload, 1) := by decide +kernel
theorem dX6_fits_64 : decode cX6_fits 64 = .ok (.if_icmp .ne 7, 3) := by decide +kernel
theorem dX6_fits_67 : decode cX6_fits 67 = .ok (.iconst 1, 1) := by decide +kernel
theorem dX6_fits_68 : decode cX6_fits 68 = .ok (.goto 4, 3) := by decide +kernel
theorem dX6_fits_71 : decode cX6_fits 71 = .ok (.iconst 0, 1) := by decide +kernel
theorem dX6_fits_72 : decode cX6_fits 72 = .ok (.istore_n 3, 1) := by decide +kernel
theorem dX6_fits_73 : decode cX6_fits 73 = .ok (.iinc 4 1, 3) := by decide +kernel
theorem dX6_fits_76 : decode cX6_fits 76 = .ok (.goto (-39), 3) := by decide +kernel
theorem dX6_fits_79 : decode cX6_fits 79 = .ok (.iload_n 1, 1) := by decide +kernel
theorem dX6_fits_80 : decode cX6_fits 80 = .ok (.iload_n 3, 1) := by decide +kernel
theorem dX6_fits_81 : decode cX6_fits 81 = .ok (.ifCond .eq 9, 3) := by decide +kernel
theorem dX6_fits_84 : decode cX6_fits 84 = .ok (.iconst 1, 1) := by decide +kernel
theorem dX6_fits_85 : decode cX6_fits 85 = .ok (.iload_n 2, 1) := by decide +kernel
theorem dX6_fits_86 : decode cX6_fits 86 = .ok (.ishl, 1) := by decide +kernel
theorem dX6_fits_87 : decode cX6_fits 87 = .ok (.goto 4, 3) := by decide +kernel
theorem dX6_fits_90 : decode cX6_fits 90 = .ok (.iconst 0, 1) := by decide +kernel
theorem dX6_fits_91 : decode cX6_fits 91 = .ok (.ior, 1) := by decide +kernel
theorem dX6_fits_92 : decode cX6_fits 92 = .ok (.istore_n 1, 1) := by decide +kernel
theorem dX6_fits_93 : decode cX6_fits 93 = .ok (.iinc 2 1, 3) := by decide +kernel
theorem dX6_fits_96 : decode cX6_fits 96 = .ok (.goto (-69), 3) := by decide +kernel
theorem dX6_fits_99 : decode cX6_fits 99 = .ok (.iload_n 1, 1) := by decide +kernel
theorem dX6_fits_100 : decode cX6_fits 100 = .ok (.ireturn, 1) := by decide +kernel
theorem dX6_areApart_0 : decode cX6_areApart 0 = .ok (.iconst 1, 1) := by decide +kernel
theorem dX6_areApart_1 : decode cX6_areApart 1 = .ok (.istore_n 2, 1) := by decide +kernel
theorem dX6_areApart_2 : decode cX6_areApart 2 = .ok (.iconst 0, 1) := by decide +kernel
theorem dX6_areApart_3 : decode cX6_areApart 3 = .ok (.istore_n 3, 1) := by decide +kernel
theorem dX6_areApart_4 : decode cX6_areApart 4 = .ok (.iload_n 3, 1) := by decide +kernel
theorem dX6_areApart_5 : decode cX6_areApart 5 = .ok (.iconst 5, 1) := by decide +kernel
theorem dX6_areApart_6 : decode cX6_areApart 6 = .ok (.if_icmp .ge 100, 3) := by decide +kernel
theorem dX6_areApart_9 : decode cX6_areApart 9 = .ok (.iconst 0, 1) := by decide +kernel
theorem dX6_areApart_10 : decode cX6_areApart 10 = .ok (.istore 4, 2) := by decide +kernel
theorem dX6_areApart_12 : decode cX6_areApart 12 = .ok (.iload 4, 2) := by decide +kernel
theorem dX6_areApart_14 : decode cX6_areApart 14 = .ok (.iload_n 3, 1) := by decide +kernel
theorem dX6_areApart_15 : decode cX6_areApart 15 = .ok (.if_icmp .ge 85, 3) := by decide +kernel
theorem dX6_areApart_18 : decode cX6_areApart 18 = .ok (.iconst 0, 1) := by decide +kernel
theorem dX6_areApart_19 : decode cX6_areApart 19 = .ok (.istore 5, 2) := by decide +kernel
theorem dX6_areApart_21 : decode cX6_areApart 21 = .ok (.iconst 0, 1) := by decide +kernel
theorem dX6_areApart_22 : decode cX6_areApart 22 = .ok (.istore 6, 2) := by decide +kernel
theorem dX6_areApart_24 : decode cX6_areApart 24 = .ok (.iload 6, 2) := by decide +kernel
theorem dX6_areApart_26 : decode cX6_areApart 26 = .ok (.aload_n 0, 1) := by decide +kernel
theorem dX6_areApart_27 : decode cX6_areApart 27 = .ok (.getfield 65, 3) := by decide +kernel
theorem dX6_areApart_30 : decode cX6_areApart 30 = .ok (.if_icmp .ge 49, 3) := by decide +kernel
theorem dX6_areApart_33 : decode cX6_areApart 33 = .ok (.iload 5, 2) := by decide +kernel
theorem dX6_areApart_35 : decode cX6_areApart 35 = .ok (.ifCond .ne 31, 3) := by decide +kernel
theorem dX6_areApart_38 : decode cX6_areApart 38 = .ok (.iload_n 1, 1) := by decide +kernel
theorem dX6_areApart_39 : decode cX6_areApart 39 = .ok (.iload 6, 2) := by decide +kernel
theorem dX6_areApart_41 : decode cX6_areApart 41 = .ok (.ishr, 1) := by decide +kernel
theorem dX6_areApart_42 : decode cX6_areApart 42 = .ok (.iconst 1, 1) := by decide +kernel
theorem dX6_areApart_43 : decode cX6_areApart 43 = .ok (.iand, 1) := by decide +kernel
theorem dX6_areApart_44 : decode cX6_areApart 44 = .ok (.iconst 1, 1) := by decide +kernel
theorem dX6_areApart_45 : decode cX6_areApart 45 = .ok (.if_icmp .ne 25, 3) := by decide +kernel
theorem dX6_areApart_48 : decode cX6_areApart 48 = .ok (.aload_n 0, 1) := by decide +kernel
theorem dX6_areApart_49 : decode cX6_areApart 49 = .ok (.iload_n 3, 1) := by decide +kernel
theorem dX6_areApart_50 : decode cX6_areApart 50 = .ok (.iload 6, 2) := by decide +kernel
theorem dX6_areApart_52 : decode cX6_areApart 52 = .ok (.invokevirtual 268, 3) := by decide +kernel
theorem dX6_areApart_55 : decode cX6_areApart 55 = .ok (.aload_n 0, 1) := by decide +kernel
theorem dX6_areApart_56 : decode cX6_areApart 56 = .ok (.iload 4, 2) := by decide +kernel
theorem dX6_areApart_58 : decode cX6_areApart 58 = .ok (.iload 6, 2) := by decide +kernel
theorem dX6_areApart_60 : decode cX6_areApart 60 = .ok (.invokevirtual 268, 3) := by decide +kernel
theorem dX6_areApart_63 : decode cX6_areApart 63 = .ok (.if_icmp .eq 7, 3) := by decide +kernel
theorem dX6_areApart_66 : decode cX6_areApart 66 = .ok (.iconst 1, 1) := by decide +kernel
theorem dX6_areApart_67 : decode cX6_areApart 67 = .ok (.goto 4, 3) := by decide +kernel
theorem dX6_areApart_70 : decode cX6_areApart 70 = .ok (.iconst 0, 1) := by decide +kernel
theorem dX6_areApart_71 : decode cX6_areApart 71 = .ok (.istore 5, 2) := by decide +kernel
theorem dX6_areApart_73 : decode cX6_areApart 73 = .ok (.iinc 6 1, 3) := by decide +kernel
theorem dX6_areApart_76 : decode cX6_areApart 76 = .ok (.goto (-52), 3) := by decide +kernel
theorem dX6_areApart_79 : decode cX6_areApart 79 = .ok (.iload_n 2, 1) := by decide +kernel
theorem dX6_areApart_80 : decode cX6_areApart 80 = .ok (.ifCond .eq 12, 3) := by decide +kernel
theorem dX6_areApart_83 : decode cX6_areApart 83 = .ok (.iload 5, 2) := by decide +kernel
theorem dX6_areApart_85 : decode cX6_areApart 85 = .ok (.ifCond .eq 7, 3) := by decide +kernel
theorem dX6_areApart_88 : decode cX6_areApart 88 = .ok (.iconst 1, 1) := by decide +kernel
theorem dX6_areApart_89 : decode cX6_areApart 89 = .ok (.goto 4, 3) := by decide +kernel
theorem dX6_areApart_92 : decode cX6_areApart 92 = .ok (.iconst 0, 1) := by decide +kernel
theorem dX6_areApart_93 : decode cX6_areApart 93 = .ok (.istore_n 2, 1) := by decide +kernel
theorem dX6_areApart_94 : decode cX6_areApart 94 = .ok (.iinc 4 1, 3) := by decide +kernel
theorem dX6_areApart_97 : decode cX6_areApart 97 = .ok (.goto (-85), 3) := by decide +kernel
theorem dX6_areApart_100 : decode cX6_areApart 100 = .ok (.iinc 3 1, 3) := by decide +kernel
theorem dX6_areApart_103 : decode cX6_areApart 103 = .ok (.goto (-99), 3) := by decide +kernel
theorem dX6_areApart_106 : decode cX6_areApart 106 = .ok (.iload_n 2, 1) := by decide +kernel
theorem dX6_areApart_107 : decode cX6_areApart 107 = .ok (.ireturn, 1) := by decide +kernel
theorem dX6_fewest_0 : decode cX6_fewest 0 = .ok (.aload_n 0, 1) := by decide +kernel
theorem dX6_fewest_1 : decode cX6_fewest 1 = .ok (.iconst 0, 1) := by decide +kernel
theorem dX6_fewest_2 : decode cX6_fewest 2 = .ok (.putfield 55, 3) := by decide +kernel
theorem dX6_fewest_5 : decode cX6_fewest 5 = .ok (.iload_n 1, 1) := by decide +kernel
theorem dX6_fewest_6 : decode cX6_fewest 6 = .ok (.i2l, 1) := by decide +kernel
theorem dX6_fewest_7 : decode cX6_fewest 7 = .ok (.lconst 0, 1) := by decide +kernel
theorem dX6_fewest_8 : decode cX6_fewest 8 = .ok (.lconst 1, 1) := by decide +kernel
theorem dX6_fewest_9 : decode cX6_fewest 9 = .ok (.invokestatic 59, 3) := by decide +kernel
theorem dX6_fewest_12 : decode cX6_fewest 12 = .ok (.ifCond .ne 10, 3) := by decide +kernel
theorem dX6_fewest_15 : decode cX6_fewest 15 = .ok (.aload_n 0, 1) := by decide +kernel
theorem dX6_fewest_16 : decode cX6_fewest 16 = .ok (.bipush (-2), 2) := by decide +kernel
theorem dX6_fewest_18 : decode cX6_fewest 18 = .ok (.invokevirtual 102, 3) := by decide +kernel
theorem dX6_fewest_21 : decode cX6_fewest 21 = .ok (.ireturn, 1) := by decide +kernel
theorem dX6_fewest_22 : decode cX6_fewest 22 = .ok (.bipush (-9), 2) := by decide +kernel
theorem dX6_fewest_24 : decode cX6_fewest 24 = .ok (.istore_n 2, 1) := by decide +kernel
theorem dX6_fewest_25 : decode cX6_fewest 25 = .ok (.iconst 0, 1) := by decide +kernel
theorem dX6_fewest_26 : decode cX6_fewest 26 = .ok (.istore_n 3, 1) := by decide +kernel
theorem dX6_fewest_27 : decode cX6_fewest 27 = .ok (.iload_n 3, 1) := by decide +kernel
theorem dX6_fewest_28 : decode cX6_fewest 28 = .ok (.iconst 1, 1) := by decide +kernel
theorem dX6_fewest_29 : decode cX6_fewest 29 = .ok (.aload_n 0, 1) := by decide +kernel
theorem dX6_fewest_30 : decode cX6_fewest 30 = .ok (.getfield 65, 3) := by decide +kernel
theorem dX6_fewest_33 : decode cX6_fewest 33 = .ok (.ishl, 1) := by decide +kernel
theorem dX6_fewest_34 : decode cX6_fewest 34 = .ok (.if_icmp .ge 38, 3) := by decide +kernel
theorem dX6_fewest_37 : decode cX6_fewest 37 = .ok (.iload_n 2, 1) := by decide +kernel
theorem dX6_fewest_38 : decode cX6_fewest 38 = .ok (.ifCond .lt 14, 3) := by decide +kernel
theorem dX6_fewest_41 : decode cX6_fewest 41 = .ok (.iload_n 3, 1) := by decide +kernel
theorem dX6_fewest_42 : decode cX6_fewest 42 = .ok (.invokestatic 265, 3) := by decide +kernel
theorem dX6_fewest_45 : decode cX6_fewest 45 = .ok (.iload_n 2, 1) := by decide +kernel
theorem dX6_fewest_46 : decode cX6_fewest 46 = .ok (.invokestatic 265, 3) := by decide +kernel
theorem dX6_fewest_49 : decode cX6_fewest 49 = .ok (.if_icmp .ge 15, 3) := by decide +kernel
theorem dX6_fewest_52 : decode cX6_fewest 52 = .ok (.aload_n 0, 1) := by decide +kernel
theorem dX6_fewest_53 : decode cX6_fewest 53 = .ok (.iload_n 3, 1) := by decide +kernel
theorem dX6_fewest_54 : decode cX6_fewest 54 = .ok (.invokevirtual 271, 3) := by decide +kernel
theorem dX6_fewest_57 : decode cX6_fewest 57 = .ok (.ifCond .eq 7, 3) := by decide +kernel
theorem dX6_fewest_60 : decode cX6_fewest 60 = .ok (.iload_n 3, 1) := by decide +kernel
theorem dX6_fewest_61 : decode cX6_fewest 61 = .ok (.goto 4, 3) := by decide +kernel
theorem dX6_fewest_64 : decode cX6_fewest 64 = .ok (.iload_n 2, 1) := by decide +kernel
theorem dX6_fewest_65 : decode cX6_fewest 65 = .ok (.istore_n 2, 1) := by decide +kernel
theorem dX6_fewest_66 : decode cX6_fewest 66 = .ok (.iinc 3 1, 3) := by decide +kernel
theorem dX6_fewest_69 : decode cX6_fewest 69 = .ok (.goto (-42), 3) := by decide +kernel
theorem dX6_fewest_72 : decode cX6_fewest 72 = .ok (.iload_n 2, 1) := by decide +kernel
theorem dX6_fewest_73 : decode cX6_fewest 73 = .ok (.ifCond .ge 8, 3) := by decide +kernel
theorem dX6_fewest_76 : decode cX6_fewest 76 = .ok (.bipush (-9), 2) := by decide +kernel
theorem dX6_fewest_78 : decode cX6_fewest 78 = .ok (.goto 15, 3) := by decide +kernel
theorem dX6_fewest_81 : decode cX6_fewest 81 = .ok (.iload_n 1, 1) := by decide +kernel
theorem dX6_fewest_82 : decode cX6_fewest 82 = .ok (.ifCond .ne 10, 3) := by decide +kernel
theorem dX6_fewest_85 : decode cX6_fewest 85 = .ok (.iload_n 2, 1) := by decide +kernel
theorem dX6_fewest_86 : decode cX6_fewest 86 = .ok (.invokestatic 265, 3) := by decide +kernel
theorem dX6_fewest_89 : decode cX6_fewest 89 = .ok (.goto 4, 3) := by decide +kernel
theorem dX6_fewest_92 : decode cX6_fewest 92 = .ok (.iload_n 2, 1) := by decide +kernel
theorem dX6_fewest_93 : decode cX6_fewest 93 = .ok (.ireturn, 1) := by decide +kernel
theorem dX6_marksOf_0 : decode cX6_marksOf 0 = .ok (.iload_n 0, 1) := by decide +kernel
theorem dX6_marksOf_1 : decode cX6_marksOf 1 = .ok (.bipush 60, 2) := by decide +kernel
theorem dX6_marksOf_3 : decode cX6_marksOf 3 = .ok (.iload_n 1, 1) := by decide +kernel
theorem dX6_marksOf_4 : decode cX6_marksOf 4 = .ok (.imul, 1) := by decide +kernel
theorem dX6_marksOf_5 : decode cX6_marksOf 5 = .ok (.iload_n 1, 1) := by decide +kernel
theorem dX6_marksOf_6 : decode cX6_marksOf 6 = .ok (.iload_n 1, 1) := by decide +kernel
theorem dX6_marksOf_7 : decode cX6_marksOf 7 = .ok (.imul, 1) := by decide +kernel
theorem dX6_marksOf_8 : decode cX6_marksOf 8 = .ok (.isub, 1) := by decide +kernel
theorem dX6_marksOf_9 : decode cX6_marksOf 9 = .ok (.imul, 1) := by decide +kernel
theorem dX6_marksOf_10 : decode cX6_marksOf 10 = .ok (.bipush 100, 2) := by decide +kernel
theorem dX6_marksOf_12 : decode cX6_marksOf 12 = .ok (.iload_n 0, 1) := by decide +kernel
theorem dX6_marksOf_13 : decode cX6_marksOf 13 = .ok (.isub, 1) := by decide +kernel
theorem dX6_marksOf_14 : decode cX6_marksOf 14 = .ok (.bipush 40, 2) := by decide +kernel
theorem dX6_marksOf_16 : decode cX6_marksOf 16 = .ok (.iload_n 2, 1) := by decide +kernel
theorem dX6_marksOf_17 : decode cX6_marksOf 17 = .ok (.imul, 1) := by decide +kernel
theorem dX6_marksOf_18 : decode cX6_marksOf 18 = .ok (.iload_n 2, 1) := by decide +kernel
theorem dX6_marksOf_19 : decode cX6_marksOf 19 = .ok (.iload_n 2, 1) := by decide +kernel
theorem dX6_marksOf_20 : decode cX6_marksOf 20 = .ok (.imul, 1) := by decide +kernel
theorem dX6_marksOf_21 : decode cX6_marksOf 21 = .ok (.iconst 4, 1) := by decide +kernel
theorem dX6_marksOf_22 : decode cX6_marksOf 22 = .ok (.idiv, 1) := by decide +kernel
theorem dX6_marksOf_23 : decode cX6_marksOf 23 = .ok (.iadd, 1) := by decide +kernel
theorem dX6_marksOf_24 : decode cX6_marksOf 24 = .ok (.imul, 1) := by decide +kernel
theorem dX6_marksOf_25 : decode cX6_marksOf 25 = .ok (.iadd, 1) := by decide +kernel
theorem dX6_marksOf_26 : decode cX6_marksOf 26 = .ok (.bipush 100, 2) := by decide +kernel
theorem dX6_marksOf_28 : decode cX6_marksOf 28 = .ok (.idiv, 1) := by decide +kernel
theorem dX6_marksOf_29 : decode cX6_marksOf 29 = .ok (.ireturn, 1) := by decide +kernel
theorem dX6_bestHours_0 : decode cX6_bestHours 0 = .ok (.iconst 0, 1) := by decide +kernel
theorem dX6_bestHours_1 : decode cX6_bestHours 1 = .ok (.istore_n 2, 1) := by decide +kernel
theorem dX6_bestHours_2 : decode cX6_bestHours 2 = .ok (.iconst 1, 1) := by decide +kernel
theorem dX6_bestHours_3 : decode cX6_bestHours 3 = .ok (.istore_n 3, 1) := by decide +kernel
theorem dX6_bestHours_4 : decode cX6_bestHours 4 = .ok (.iload_n 3, 1) := by decide +kernel
theorem dX6_bestHours_5 : decode cX6_bestHours 5 = .ok (.iload_n 1, 1) := by decide +kernel
theorem dX6_bestHours_6 : decode cX6_bestHours 6 = .ok (.if_icmp .gt 34, 3) := by decide +kernel
theorem dX6_bestHours_9 : decode cX6_bestHours 9 = .ok (.iload_n 0, 1) := by decide +kernel
theorem dX6_bestHours_10 : decode cX6_bestHours 10 = .ok (.iload_n 3, 1) := by decide +kernel
theorem dX6_bestHours_11 : decode cX6_bestHours 11 = .ok (.iload_n 1, 1) := by decide +kernel
theorem dX6_bestHours_12 : decode cX6_bestHours 12 = .ok (.iload_n 3, 1) := by decide +kernel
theorem dX6_bestHours_13 : decode cX6_bestHours 13 = .ok (.isub, 1) := by decide +kernel
theorem dX6_bestHours_14 : decode cX6_bestHours 14 = .ok (.invokestatic 274, 3) := by decide +kernel
theorem dX6_bestHours_17 : decode cX6_bestHours 17 = .ok (.iload_n 0, 1) := by decide +kernel
theorem dX6_bestHours_18 : decode cX6_bestHours 18 = .ok (.iload_n 2, 1) := by decide +kernel
theorem dX6_bestHours_19 : decode cX6_bestHours 19 = .ok (.iload_n 1, 1) := by decide +kernel
theorem dX6_bestHours_20 : decode cX6_bestHours 20 = .ok (.iload_n 2, 1) := by decide +kernel
theorem dX6_bestHours_21 : decode cX6_bestHours 21 = .ok (.isub, 1) := by decide +kernel
theorem dX6_bestHours_22 : decode cX6_bestHours 22 = .ok (.invokestatic 274, 3) := by decide +kernel
theorem dX6_bestHours_25 : decode cX6_bestHours 25 = .ok (.if_icmp .le 7, 3) := by decide +kernel
theorem dX6_bestHours_28 : decode cX6_bestHours 28 = .ok (.iload_n 3, 1) := by decide +kernel
theorem dX6_bestHours_29 : decode cX6_bestHours 29 = .ok (.goto 4, 3) := by decide +kernel
theorem dX6_bestHours_32 : decode cX6_bestHours 32 = .ok (.iload_n 2, 1) := by decide +kernel
theorem dX6_bestHours_33 : decode cX6_bestHours 33 = .ok (.istore_n 2, 1) := by decide +kernel
theorem dX6_bestHours_34 : decode cX6_bestHours 34 = .ok (.iinc 3 1, 3) := by decide +kernel
theorem dX6_bestHours_37 : decode cX6_bestHours 37 = .ok (.goto (-33), 3) := by decide +kernel
theorem dX6_bestHours_40 : decode cX6_bestHours 40 = .ok (.iload_n 2, 1) := by decide +kernel
theorem dX6_bestHours_41 : decode cX6_bestHours 41 = .ok (.ireturn, 1) := by decide +kernel
theorem dX6_hours_0 : decode cX6_hours 0 = .ok (.aload_n 0, 1) := by decide +kernel
theorem dX6_hours_1 : decode cX6_hours 1 = .ok (.iconst 0, 1) := by decide +kernel
theorem dX6_hours_2 : decode cX6_hours 2 = .ok (.putfield 55, 3) := by decide +kernel
theorem dX6_hours_5 : decode cX6_hours 5 = .ok (.iload_n 1, 1) := by decide +kernel
theorem dX6_hours_6 : decode cX6_hours 6 = .ok (.iconst 0, 1) := by decide +kernel
theorem dX6_hours_7 : decode cX6_hours 7 = .ok (.bipush 40, 2) := by decide +kernel
theorem dX6_hours_9 : decode cX6_hours 9 = .ok (.invokestatic 201, 3) := by decide +kernel
theorem dX6_hours_12 : decode cX6_hours 12 = .ok (.istore_n 3, 1) := by decide +kernel
theorem dX6_hours_13 : decode cX6_hours 13 = .ok (.iload_n 3, 1) := by decide +kernel
theorem dX6_hours_14 : decode cX6_hours 14 = .ok (.ifCond .ne 18, 3) := by decide +kernel
theorem dX6_hours_17 : decode cX6_hours 17 = .ok (.iload_n 2, 1) := by decide +kernel
theorem dX6_hours_18 : decode cX6_hours 18 = .ok (.i2l, 1) := by decide +kernel
theorem dX6_hours_19 : decode cX6_hours 19 = .ok (.lconst 0, 1) := by decide +kernel
theorem dX6_hours_20 : decode cX6_hours 20 = .ok (.lconst 1, 1) := by decide +kernel
theorem dX6_hours_21 : decode cX6_hours 21 = .ok (.invokestatic 59, 3) := by decide +kernel
theorem dX6_hours_24 : decode cX6_hours 24 = .ok (.ifCond .ne 8, 3) := by decide +kernel
theorem dX6_hours_27 : decode cX6_hours 27 = .ok (.bipush (-2), 2) := by decide +kernel
theorem dX6_hours_29 : decode cX6_hours 29 = .ok (.goto 4, 3) := by decide +kernel
theorem dX6_hours_32 : decode cX6_hours 32 = .ok (.iload_n 3, 1) := by decide +kernel
theorem dX6_hours_33 : decode cX6_hours 33 = .ok (.istore_n 3, 1) := by decide +kernel
theorem dX6_hours_34 : decode cX6_hours 34 = .ok (.iload_n 3, 1) := by decide +kernel
theorem dX6_hours_35 : decode cX6_hours 35 = .ok (.ifCond .ge 9, 3) := by decide +kernel
theorem dX6_hours_38 : decode cX6_hours 38 = .ok (.aload_n 0, 1) := by decide +kernel
theorem dX6_hours_39 : decode cX6_hours 39 = .ok (.iload_n 3, 1) := by decide +kernel
theorem dX6_hours_40 : decode cX6_hours 40 = .ok (.invokevirtual 102, 3) := by decide +kernel
theorem dX6_hours_43 : decode cX6_hours 43 = .ok (.ireturn, 1) := by decide +kernel
theorem dX6_hours_44 : decode cX6_hours 44 = .ok (.aload_n 0, 1) := by decide +kernel
theorem dX6_hours_45 : decode cX6_hours 45 = .ok (.getfield 16, 3) := by decide +kernel
theorem dX6_hours_48 : decode cX6_hours 48 = .ok (.iconst 2, 1) := by decide +kernel
theorem dX6_hours_49 : decode cX6_hours 49 = .ok (.iaload, 1) := by decide +kernel
theorem dX6_hours_50 : decode cX6_hours 50 = .ok (.iload_n 1, 1) := by decide +kernel
theorem dX6_hours_51 : decode cX6_hours 51 = .ok (.invokestatic 277, 3) := by decide +kernel
theorem dX6_hours_54 : decode cX6_hours 54 = .ok (.istore 4, 2) := by decide +kernel
theorem dX6_hours_56 : decode cX6_hours 56 = .ok (.iload_n 2, 1) := by decide +kernel
theorem dX6_hours_57 : decode cX6_hours 57 = .ok (.ifCond .ne 8, 3) := by decide +kernel
theorem dX6_hours_60 : decode cX6_hours 60 = .ok (.iload 4, 2) := by decide +kernel
theorem dX6_hours_62 : decode cX6_hours 62 = .ok (.goto 18, 3) := by decide +kernel
theorem dX6_hours_65 : decode cX6_hours 65 = .ok (.aload_n 0, 1) := by decide +kernel
theorem dX6_hours_66 : decode cX6_hours 66 = .ok (.getfield 16, 3) := by decide +kernel
theorem dX6_hours_69 : decode cX6_hours 69 = .ok (.iconst 2, 1) := by decide +kernel
theorem dX6_hours_70 : decode cX6_hours 70 = .ok (.iaload, 1) := by decide +kernel
theorem dX6_hours_71 : decode cX6_hours 71 = .ok (.iload 4, 2) := by decide +kernel
theorem dX6_hours_73 : decode cX6_hours 73 = .ok (.iload_n 1, 1) := by decide +kernel
theorem dX6_hours_74 : decode cX6_hours 74 = .ok (.iload 4, 2) := by decide +kernel
theorem dX6_hours_76 : decode cX6_hours 76 = .ok (.isub, 1) := by decide +kernel
theorem dX6_hours_77 : decode cX6_hours 77 = .ok (.invokestatic 274, 3) := by decide +kernel
theorem dX6_hours_80 : decode cX6_hours 80 = .ok (.ireturn, 1) := by decide +kernel
theorem dX6_won_0 : decode cX6_won 0 = .ok (.aload_n 0, 1) := by decide +kernel
theorem dX6_won_1 : decode cX6_won 1 = .ok (.iconst 0, 1) := by decide +kernel
theorem dX6_won_2 : decode cX6_won 2 = .ok (.putfield 55, 3) := by decide +kernel
theorem dX6_won_5 : decode cX6_won 5 = .ok (.iload_n 1, 1) := by decide +kernel
theorem dX6_won_6 : decode cX6_won 6 = .ok (.iconst 0, 1) := by decide +kernel
theorem dX6_won_7 : decode cX6_won 7 = .ok (.bipush 40, 2) := by decide +kernel
theorem dX6_won_9 : decode cX6_won 9 = .ok (.invokestatic 201, 3) := by decide +kernel
theorem dX6_won_12 : decode cX6_won 12 = .ok (.ifCond .ge 15, 3) := by decide +kernel
theorem dX6_won_15 : decode cX6_won 15 = .ok (.aload_n 0, 1) := by decide +kernel
theorem dX6_won_16 : decode cX6_won 16 = .ok (.iload_n 1, 1) := by decide +kernel
theorem dX6_won_17 : decode cX6_won 17 = .ok (.iconst 0, 1) := by decide +kernel
theorem dX6_won_18 : decode cX6_won 18 = .ok (.bipush 40, 2) := by decide +kernel
theorem dX6_won_20 : decode cX6_won 20 = .ok (.invokestatic 201, 3) := by decide +kernel
theorem dX6_won_23 : decode cX6_won 23 = .ok (.invokevirtual 102, 3) := by decide +kernel
theorem dX6_won_26 : decode cX6_won 26 = .ok (.ireturn, 1) := by decide +kernel
theorem dX6_won_27 : decode cX6_won 27 = .ok (.iconst 0, 1) := by decide +kernel
theorem dX6_won_28 : decode cX6_won 28 = .ok (.istore_n 2, 1) := by decide +kernel
theorem dX6_won_29 : decode cX6_won 29 = .ok (.iload_n 2, 1) := by decide +kernel
theorem dX6_won_30 : decode cX6_won 30 = .ok (.bipush 100, 2) := by decide +kernel
theorem dX6_won_32 : decode cX6_won 32 = .ok (.if_icmp .gt 19, 3) := by decide +kernel
theorem dX6_won_35 : decode cX6_won 35 = .ok (.iload_n 2, 1) := by decide +kernel
theorem dX6_won_36 : decode cX6_won 36 = .ok (.iload_n 1, 1) := by decide +kernel
theorem dX6_won_37 : decode cX6_won 37 = .ok (.invokestatic 277, 3) := by decide +kernel
theorem dX6_won_40 : decode cX6_won 40 = .ok (.ifCond .le 5, 3) := by decide +kernel
theorem dX6_won_43 : decode cX6_won 43 = .ok (.iload_n 2, 1) := by decide +kernel
theorem dX6_won_44 : decode cX6_won 44 = .ok (.ireturn, 1) := by decide +kernel
theorem dX6_won_45 : decode cX6_won 45 = .ok (.iinc 2 10, 3) := by decide +kernel
theorem dX6_won_48 : decode cX6_won 48 = .ok (.goto (-19), 3) := by decide +kernel
theorem dX6_won_51 : decode cX6_won 51 = .ok (.bipush (-9), 2) := by decide +kernel
theorem dX6_won_53 : decode cX6_won 53 = .ok (.ireturn, 1) := by decide +kernel
theorem dX6_lot_0 : decode cX6_lot 0 = .ok (.aload_n 0, 1) := by decide +kernel
theorem dX6_lot_1 : decode cX6_lot 1 = .ok (.iconst 0, 1) := by decide +kernel
theorem dX6_lot_2 : decode cX6_lot 2 = .ok (.putfield 55, 3) := by decide +kernel
theorem dX6_lot_5 : decode cX6_lot 5 = .ok (.iload_n 1, 1) := by decide +kernel
theorem dX6_lot_6 : decode cX6_lot 6 = .ok (.iload_n 2, 1) := by decide +kernel
theorem dX6_lot_7 : decode cX6_lot 7 = .ok (.invokestatic 154, 3) := by decide +kernel
theorem dX6_lot_10 : decode cX6_lot 10 = .ok (.ifCond .ge 13, 3) := by decide +kernel
theorem dX6_lot_13 : decode cX6_lot 13 = .ok (.aload_n 0, 1) := by decide +kernel
theorem dX6_lot_14 : decode cX6_lot 14 = .ok (.iload_n 1, 1) := by decide +kernel
theorem dX6_lot_15 : decode cX6_lot 15 = .ok (.iload_n 2, 1) := by decide +kernel
theorem dX6_lot_16 : decode cX6_lot 16 = .ok (.invokestatic 154, 3) := by decide +kernel
theorem dX6_lot_19 : decode cX6_lot 19 = .ok (.invokevirtual 102, 3) := by decide +kernel
theorem dX6_lot_22 : decode cX6_lot 22 = .ok (.ireturn, 1) := by decide +kernel
theorem dX6_lot_23 : decode cX6_lot 23 = .ok (.aload_n 0, 1) := by decide +kernel
theorem dX6_lot_24 : decode cX6_lot 24 = .ok (.aload_n 0, 1) := by decide +kernel
theorem dX6_lot_25 : decode cX6_lot 25 = .ok (.getfield 157, 3) := by decide +kernel
theorem dX6_lot_28 : decode cX6_lot 28 = .ok (.iconst 0, 1) := by decide +kernel
theorem dX6_lot_29 : decode cX6_lot 29 = .ok (.iload_n 1, 1) := by decide +kernel
theorem dX6_lot_30 : decode cX6_lot 30 = .ok (.iload_n 2, 1) := by decide +kernel
theorem dX6_lot_31 : decode cX6_lot 31 = .ok (.invokevirtual 240, 3) := by decide +kernel
theorem dX6_lot_34 : decode cX6_lot 34 = .ok (.istore_n 3, 1) := by decide +kernel
theorem dX6_lot_35 : decode cX6_lot 35 = .ok (.aload_n 0, 1) := by decide +kernel
theorem dX6_lot_36 : decode cX6_lot 36 = .ok (.aload_n 0, 1) := by decide +kernel
theorem dX6_lot_37 : decode cX6_lot 37 = .ok (.getfield 157, 3) := by decide +kernel
theorem dX6_lot_40 : decode cX6_lot 40 = .ok (.iconst 1, 1) := by decide +kernel
theorem dX6_lot_41 : decode cX6_lot 41 = .ok (.iload_n 1, 1) := by decide +kernel
theorem dX6_lot_42 : decode cX6_lot 42 = .ok (.iload_n 2, 1) := by decide +kernel
theorem dX6_lot_43 : decode cX6_lot 43 = .ok (.invokevirtual 240, 3) := by decide +kernel
theorem dX6_lot_46 : decode cX6_lot 46 = .ok (.istore 4, 2) := by decide +kernel
theorem dX6_lot_48 : decode cX6_lot 48 = .ok (.iload_n 3, 1) := by decide +kernel
theorem dX6_lot_49 : decode cX6_lot 49 = .ok (.iload 4, 2) := by decide +kernel
theorem dX6_lot_51 : decode cX6_lot 51 = .ok (.if_icmp .ge 7, 3) := by decide +kernel
theorem dX6_lot_54 : decode cX6_lot 54 = .ok (.iconst 0, 1) := by decide +kernel
theorem dX6_lot_55 : decode cX6_lot 55 = .ok (.goto 14, 3) := by decide +kernel
theorem dX6_lot_58 : decode cX6_lot 58 = .ok (.iload_n 3, 1) := by decide +kernel
theorem dX6_lot_59 : decode cX6_lot 59 = .ok (.iload 4, 2) := by decide +kernel
theorem dX6_lot_61 : decode cX6_lot 61 = .ok (.if_icmp .le 7, 3) := by decide +kernel
theorem dX6_lot_64 : decode cX6_lot 64 = .ok (.iconst 1, 1) := by decide +kernel
theorem dX6_lot_65 : decode cX6_lot 65 = .ok (.goto 4, 3) := by decide +kernel
theorem dX6_lot_68 : decode cX6_lot 68 = .ok (.iconst 2, 1) := by decide +kernel
theorem dX6_lot_69 : decode cX6_lot 69 = .ok (.ireturn, 1) := by decide +kernel
theorem dX6_row_0 : decode cX6_row 0 = .ok (.aload_n 0, 1) := by decide +kernel
theorem dX6_row_1 : decode cX6_row 1 = .ok (.iconst 0, 1) := by decide +kernel
theorem dX6_row_2 : decode cX6_row 2 = .ok (.putfield 55, 3) := by decide +kernel
theorem dX6_row_5 : decode cX6_row 5 = .ok (.iload_n 1, 1) := by decide +kernel
theorem dX6_row_6 : decode cX6_row 6 = .ok (.ifCond .ge 10, 3) := by decide +kernel
theorem dX6_row_9 : decode cX6_row 9 = .ok (.aload_n 0, 1) := by decide +kernel
theorem dX6_row_10 : decode cX6_row 10 = .ok (.bipush (-4), 2) := by decide +kernel
theorem dX6_row_12 : decode cX6_row 12 = .ok (.invokevirtual 102, 3) := by decide +kernel
theorem dX6_row_15 : decode cX6_row 15 = .ok (.ireturn, 1) := by decide +kernel
theorem dX6_row_16 : decode cX6_row 16 = .ok (.iload_n 1, 1) := by decide +kernel
theorem dX6_row_17 : decode cX6_row 17 = .ok (.bipush 99, 2) := by decide +kernel
theorem dX6_row_19 : decode cX6_row 19 = .ok (.if_icmp .gt 12, 3) := by decide +kernel
theorem dX6_row_22 : decode cX6_row 22 = .ok (.aload_n 0, 1) := by decide +kernel
theorem dX6_row_23 : decode cX6_row 23 = .ok (.getfield 259, 3) := by decide +kernel
theorem dX6_row_26 : decode cX6_row 26 = .ok (.bipush 12, 2) := by decide +kernel
theorem dX6_row_28 : decode cX6_row 28 = .ok (.if_icmp .ne 10, 3) := by decide +kernel
theorem dX6_row_31 : decode cX6_row 31 = .ok (.aload_n 0, 1) := by decide +kernel
theorem dX6_row_32 : decode cX6_row 32 = .ok (.bipush (-6), 2) := by decide +kernel
theorem dX6_row_34 : decode cX6_row 34 = .ok (.invokevirtual 102, 3) := by decide +kernel
theorem dX6_row_37 : decode cX6_row 37 = .ok (.ireturn, 1) := by decide +kernel
theorem dX6_row_38 : decode cX6_row 38 = .ok (.aload_n 0, 1) := by decide +kernel
theorem dX6_row_39 : decode cX6_row 39 = .ok (.getfield 52, 3) := by decide +kernel
theorem dX6_row_42 : decode cX6_row 42 = .ok (.aload_n 0, 1) := by decide +kernel
theorem dX6_row_43 : decode cX6_row 43 = .ok (.getfield 259, 3) := by decide +kernel
theorem dX6_row_46 : decode cX6_row 46 = .ok (.iload_n 1, 1) := by decide +kernel
theorem dX6_row_47 : decode cX6_row 47 = .ok (.iastore, 1) := by decide +kernel
theorem dX6_row_48 : decode cX6_row 48 = .ok (.aload_n 0, 1) := by decide +kernel
theorem dX6_row_49 : decode cX6_row 49 = .ok (.dup, 1) := by decide +kernel
theorem dX6_row_50 : decode cX6_row 50 = .ok (.getfield 259, 3) := by decide +kernel
theorem dX6_row_53 : decode cX6_row 53 = .ok (.iconst 1, 1) := by decide +kernel
theorem dX6_row_54 : decode cX6_row 54 = .ok (.iadd, 1) := by decide +kernel
theorem dX6_row_55 : decode cX6_row 55 = .ok (.putfield 259, 3) := by decide +kernel
theorem dX6_row_58 : decode cX6_row 58 = .ok (.aload_n 0, 1) := by decide +kernel
theorem dX6_row_59 : decode cX6_row 59 = .ok (.getfield 259, 3) := by decide +kernel
theorem dX6_row_62 : decode cX6_row 62 = .ok (.ireturn, 1) := by decide +kernel
theorem dX6_judge_0 : decode cX6_judge 0 = .ok (.aload_n 0, 1) := by decide +kernel
theorem dX6_judge_1 : decode cX6_judge 1 = .ok (.iconst 0, 1) := by decide +kernel
theorem dX6_judge_2 : decode cX6_judge 2 = .ok (.putfield 55, 3) := by decide +kernel
theorem dX6_judge_5 : decode cX6_judge 5 = .ok (.aload_n 0, 1) := by decide +kernel
theorem dX6_judge_6 : decode cX6_judge 6 = .ok (.iload_n 1, 1) := by decide +kernel
theorem dX6_judge_7 : decode cX6_judge 7 = .ok (.invokevirtual 206, 3) := by decide +kernel
theorem dX6_judge_10 : decode cX6_judge 10 = .ok (.ifCond .ne 9, 3) := by decide +kernel
theorem dX6_judge_13 : decode cX6_judge 13 = .ok (.aload_n 0, 1) := by decide +kernel
theorem dX6_judge_14 : decode cX6_judge 14 = .ok (.iconst (-1), 1) := by decide +kernel
theorem dX6_judge_15 : decode cX6_judge 15 = .ok (.invokevirtual 102, 3) := by decide +kernel
theorem dX6_judge_18 : decode cX6_judge 18 = .ok (.ireturn, 1) := by decide +kernel
theorem dX6_judge_19 : decode cX6_judge 19 = .ok (.aload_n 0, 1) := by decide +kernel
theorem dX6_judge_20 : decode cX6_judge 20 = .ok (.getfield 259, 3) := by decide +kernel
theorem dX6_judge_23 : decode cX6_judge 23 = .ok (.istore_n 2, 1) := by decide +kernel
theorem dX6_judge_24 : decode cX6_judge 24 = .ok (.aload_n 0, 1) := by decide +kernel
theorem dX6_judge_25 : decode cX6_judge 25 = .ok (.iconst 0, 1) := by decide +kernel
theorem dX6_judge_26 : decode cX6_judge 26 = .ok (.putfield 259, 3) := by decide +kernel
theorem dX6_judge_29 : decode cX6_judge 29 = .ok (.iconst 0, 1) := by decide +kernel
theorem dX6_judge_30 : decode cX6_judge 30 = .ok (.istore_n 3, 1) := by decide +kernel
theorem dX6_judge_31 : decode cX6_judge 31 = .ok (.iload_n 3, 1) := by decide +kernel
theorem dX6_judge_32 : decode cX6_judge 32 = .ok (.iload_n 2, 1) := by decide +kernel
theorem dX6_judge_33 : decode cX6_judge 33 = .ok (.if_icmp .ge 31, 3) := by decide +kernel
theorem dX6_judge_36 : decode cX6_judge 36 = .ok (.aload_n 0, 1) := by decide +kernel
theorem dX6_judge_37 : decode cX6_judge 37 = .ok (.getfield 52, 3) := by decide +kernel
theorem dX6_judge_40 : decode cX6_judge 40 = .ok (.iload_n 3, 1) := by decide +kernel
theorem dX6_judge_41 : decode cX6_judge 41 = .ok (.iaload, 1) := by decide +kernel
theorem dX6_judge_42 : decode cX6_judge 42 = .ok (.aload_n 0, 1) := by decide +kernel
theorem dX6_judge_43 : decode cX6_judge 43 = .ok (.getfield 28, 3) := by decide +kernel
theorem dX6_judge_46 : decode cX6_judge 46 = .ok (.bipush 12, 2) := by decide +kernel
theorem dX6_judge_48 : decode cX6_judge 48 = .ok (.iload_n 1, 1) := by decide +kernel
theorem dX6_judge_49 : decode cX6_judge 49 = .ok (.imul, 1) := by decide +kernel
theorem dX6_judge_50 : decode cX6_judge 50 = .ok (.iload_n 3, 1) := by decide +kernel
theorem dX6_judge_51 : decode cX6_judge 51 = .ok (.iadd, 1) := by decide +kernel
theorem dX6_judge_52 : decode cX6_judge 52 = .ok (.iaload, 1) := by decide +kernel
theorem dX6_judge_53 : decode cX6_judge 53 = .ok (.if_icmp .eq 5, 3) := by decide +kernel
theorem dX6_judge_56 : decode cX6_judge 56 = .ok (.iload_n 3, 1) := by decide +kernel
theorem dX6_judge_57 : decode cX6_judge 57 = .ok (.ireturn, 1) := by decide +kernel
theorem dX6_judge_58 : decode cX6_judge 58 = .ok (.iinc 3 1, 3) := by decide +kernel
theorem dX6_judge_61 : decode cX6_judge 61 = .ok (.goto (-30), 3) := by decide +kernel
theorem dX6_judge_64 : decode cX6_judge 64 = .ok (.bipush (-9), 2) := by decide +kernel
theorem dX6_judge_66 : decode cX6_judge 66 = .ok (.ireturn, 1) := by decide +kernel
theorem dX6_clear_0 : decode cX6_clear 0 = .ok (.aload_n 0, 1) := by decide +kernel
theorem dX6_clear_1 : decode cX6_clear 1 = .ok (.iconst 0, 1) := by decide +kernel
theorem dX6_clear_2 : decode cX6_clear 2 = .ok (.putfield 55, 3) := by decide +kernel
theorem dX6_clear_5 : decode cX6_clear 5 = .ok (.aload_n 0, 1) := by decide +kernel
theorem dX6_clear_6 : decode cX6_clear 6 = .ok (.getfield 259, 3) := by decide +kernel
theorem dX6_clear_9 : decode cX6_clear 9 = .ok (.istore_n 1, 1) := by decide +kernel
theorem dX6_clear_10 : decode cX6_clear 10 = .ok (.aload_n 0, 1) := by decide +kernel
theorem dX6_clear_11 : decode cX6_clear 11 = .ok (.iconst 0, 1) := by decide +kernel
theorem dX6_clear_12 : decode cX6_clear 12 = .ok (.putfield 259, 3) := by decide +kernel
theorem dX6_clear_15 : decode cX6_clear 15 = .ok (.iload_n 1, 1) := by decide +kernel
theorem dX6_clear_16 : decode cX6_clear 16 = .ok (.ireturn, 1) := by decide +kernel
theorem dX6_drawn_0 : decode cX6_drawn 0 = .ok (.aload_n 0, 1) := by decide +kernel
theorem dX6_drawn_1 : decode cX6_drawn 1 = .ok (.aload_n 0, 1) := by decide +kernel
theorem dX6_drawn_2 : decode cX6_drawn 2 = .ok (.getfield 280, 3) := by decide +kernel
theorem dX6_drawn_5 : decode cX6_drawn 5 = .ok (.ldc_w 283, 3) := by decide +kernel
theorem dX6_drawn_8 : decode cX6_drawn 8 = .ok (.imul, 1) := by decide +kernel
theorem dX6_drawn_9 : decode cX6_drawn 9 = .ok (.sipush 12345, 3) := by decide +kernel
theorem dX6_drawn_12 : decode cX6_drawn 12 = .ok (.iadd, 1) := by decide +kernel
theorem dX6_drawn_13 : decode cX6_drawn 13 = .ok (.putfield 280, 3) := by decide +kernel
theorem dX6_drawn_16 : decode cX6_drawn 16 = .ok (.aload_n 0, 1) := by decide +kernel
theorem dX6_drawn_17 : decode cX6_drawn 17 = .ok (.getfield 280, 3) := by decide +kernel
theorem dX6_drawn_20 : decode cX6_drawn 20 = .ok (.ldc_w 284, 3) := by decide +kernel
theorem dX6_drawn_23 : decode cX6_drawn 23 = .ok (.iand, 1) := by decide +kernel
theorem dX6_drawn_24 : decode cX6_drawn 24 = .ok (.ldc_w 285, 3) := by decide +kernel
theorem dX6_drawn_27 : decode cX6_drawn 27 = .ok (.idiv, 1) := by decide +kernel
theorem dX6_drawn_28 : decode cX6_drawn 28 = .ok (.iload_n 1, 1) := by decide +kernel
theorem dX6_drawn_29 : decode cX6_drawn 29 = .ok (.irem, 1) := by decide +kernel
theorem dX6_drawn_30 : decode cX6_drawn 30 = .ok (.ireturn, 1) := by decide +kernel
theorem dX6_seeds_0 : decode cX6_seeds 0 = .ok (.aload_n 0, 1) := by decide +kernel
theorem dX6_seeds_1 : decode cX6_seeds 1 = .ok (.iconst 0, 1) := by decide +kernel
theorem dX6_seeds_2 : decode cX6_seeds 2 = .ok (.putfield 55, 3) := by decide +kernel
theorem dX6_seeds_5 : decode cX6_seeds 5 = .ok (.iload_n 1, 1) := by decide +kernel
theorem dX6_seeds_6 : decode cX6_seeds 6 = .ok (.iconst 1, 1) := by decide +kernel
theorem dX6_seeds_7 : decode cX6_seeds 7 = .ok (.bipush 20, 2) := by decide +kernel
theorem dX6_seeds_9 : decode cX6_seeds 9 = .ok (.invokestatic 201, 3) := by decide +kernel
theorem dX6_seeds_12 : decode cX6_seeds 12 = .ok (.istore 4, 2) := by decide +kernel
theorem dX6_seeds_14 : decode cX6_seeds 14 = .ok (.iload 4, 2) := by decide +kernel
theorem dX6_seeds_16 : decode cX6_seeds 16 = .ok (.ifCond .ne 18, 3) := by decide +kernel
theorem dX6_seeds_19 : decode cX6_seeds 19 = .ok (.iload_n 3, 1) := by decide +kernel
theorem dX6_seeds_20 : decode cX6_seeds 20 = .ok (.i2l, 1) := by decide +kernel
theorem dX6_seeds_21 : decode cX6_seeds 21 = .ok (.lconst 0, 1) := by decide +kernel
theorem dX6_seeds_22 : decode cX6_seeds 22 = .ok (.lconst 1, 1) := by decide +kernel
theorem dX6_seeds_23 : decode cX6_seeds 23 = .ok (.invokestatic 59, 3) := by decide +kernel
theorem dX6_seeds_26 : decode cX6_seeds 26 = .ok (.ifCond .ne 8, 3) := by decide +kernel
theorem dX6_seeds_29 : decode cX6_seeds 29 = .ok (.bipush (-2), 2) := by decide +kernel
theorem dX6_seeds_31 : decode cX6_seeds 31 = .ok (.goto 5, 3) := by decide +kernel
theorem dX6_seeds_34 : decode cX6_seeds 34 = .ok (.iload 4, 2) := by decide +kernel
theorem dX6_seeds_36 : decode cX6_seeds 36 = .ok (.istore 4, 2) := by decide +kernel
theorem dX6_seeds_38 : decode cX6_seeds 38 = .ok (.iload 4, 2) := by decide +kernel
theorem dX6_seeds_40 : decode cX6_seeds 40 = .ok (.ifCond .ge 10, 3) := by decide +kernel
theorem dX6_seeds_43 : decode cX6_seeds 43 = .ok (.aload_n 0, 1) := by decide +kernel
theorem dX6_seeds_44 : decode cX6_seeds 44 = .ok (.iload 4, 2) := by decide +kernel
theorem dX6_seeds_46 : decode cX6_seeds 46 = .ok (.invokevirtual 102, 3) := by decide +kernel
theorem dX6_seeds_49 : decode cX6_seeds 49 = .ok (.ireturn, 1) := by decide +kernel
theorem dX6_seeds_50 : decode cX6_seeds 50 = .ok (.aload_n 0, 1) := by decide +kernel
theorem dX6_seeds_51 : decode cX6_seeds 51 = .ok (.getfield 65, 3) := by decide +kernel
theorem dX6_seeds_54 : decode cX6_seeds 54 = .ok (.istore 5, 2) := by decide +kernel
theorem dX6_seeds_56 : decode cX6_seeds 56 = .ok (.aload_n 0, 1) := by decide +kernel
theorem dX6_seeds_57 : decode cX6_seeds 57 = .ok (.iload_n 2, 1) := by decide +kernel
theorem dX6_seeds_58 : decode cX6_seeds 58 = .ok (.putfield 280, 3) := by decide +kernel
theorem dX6_seeds_61 : decode cX6_seeds 61 = .ok (.iconst 0, 1) := by decide +kernel
theorem dX6_seeds_62 : decode cX6_seeds 62 = .ok (.istore 6, 2) := by decide +kernel
theorem dX6_seeds_64 : decode cX6_seeds 64 = .ok (.iconst 0, 1) := by decide +kernel
theorem dX6_seeds_65 : decode cX6_seeds 65 = .ok (.istore 7, 2) := by decide +kernel
theorem dX6_seeds_67 : decode cX6_seeds 67 = .ok (.iconst 0, 1) := by decide +kernel
theorem dX6_seeds_68 : decode cX6_seeds 68 = .ok (.istore 8, 2) := by decide +kernel
theorem dX6_seeds_70 : decode cX6_seeds 70 = .ok (.iload 8, 2) := by decide +kernel
theorem dX6_seeds_72 : decode cX6_seeds 72 = .ok (.iload_n 1, 1) := by decide +kernel
theorem dX6_seeds_73 : decode cX6_seeds 73 = .ok (.if_icmp .ge 76, 3) := by decide +kernel
theorem dX6_seeds_76 : decode cX6_seeds 76 = .ok (.aload_n 0, 1) := by decide +kernel
theorem dX6_seeds_77 : decode cX6_seeds 77 = .ok (.iconst 2, 1) := by decide +kernel
theorem dX6_seeds_78 : decode cX6_seeds 78 = .ok (.invokevirtual 286, 3) := by decide +kernel
theorem dX6_seeds_81 : decode cX6_seeds 81 = .ok (.istore 9, 2) := by decide +kernel
theorem dX6_seeds_83 : decode cX6_seeds 83 = .ok (.aload_n 0, 1) := by decide +kernel
theorem dX6_seeds_84 : decode cX6_seeds 84 = .ok (.bipush 9, 2) := by decide +kernel
theorem dX6_seeds_86 : decode cX6_seeds 86 = .ok (.invokevirtual 286, 3) := by decide +kernel
theorem dX6_seeds_89 : decode cX6_seeds 89 = .ok (.iconst 1, 1) := by decide +kernel
theorem dX6_seeds_90 : decode cX6_seeds 90 = .ok (.iadd, 1) := by decide +kernel
theorem dX6_seeds_91 : decode cX6_seeds 91 = .ok (.istore 10, 2) := by decide +kernel
theorem dX6_seeds_93 : decode cX6_seeds 93 = .ok (.aload_n 0, 1) := by decide +kernel
theorem dX6_seeds_94 : decode cX6_seeds 94 = .ok (.aload_n 0, 1) := by decide +kernel
theorem dX6_seeds_95 : decode cX6_seeds 95 = .ok (.aload_n 0, 1) := by decide +kernel
theorem dX6_seeds_96 : decode cX6_seeds 96 = .ok (.getfield 157, 3) := by decide +kernel
theorem dX6_seeds_99 : decode cX6_seeds 99 = .ok (.iload 9, 2) := by decide +kernel
theorem dX6_seeds_101 : decode cX6_seeds 101 = .ok (.iload 10, 2) := by decide +kernel
theorem dX6_seeds_103 : decode cX6_seeds 103 = .ok (.aload_n 0, 1) := by decide +kernel
theorem dX6_seeds_104 : decode cX6_seeds 104 = .ok (.bipush 9, 2) := by decide +kernel
theorem dX6_seeds_106 : decode cX6_seeds 106 = .ok (.invokevirtual 286, 3) := by decide +kernel
theorem dX6_seeds_109 : decode cX6_seeds 109 = .ok (.iconst 1, 1) := by decide +kernel
theorem dX6_seeds_110 : decode cX6_seeds 110 = .ok (.iadd, 1) := by decide +kernel
theorem dX6_seeds_111 : decode cX6_seeds 111 = .ok (.invokevirtual 160, 3) := by decide +kernel
theorem dX6_seeds_114 : decode cX6_seeds 114 = .ok (.invokevirtual 217, 3) := by decide +kernel
theorem dX6_seeds_117 : decode cX6_seeds 117 = .ok (.istore 11, 2) := by decide +kernel
theorem dX6_seeds_119 : decode cX6_seeds 119 = .ok (.iload 6, 2) := by decide +kernel
theorem dX6_seeds_121 : decode cX6_seeds 121 = .ok (.iload 11, 2) := by decide +kernel
theorem dX6_seeds_123 : decode cX6_seeds 123 = .ok (.iadd, 1) := by decide +kernel
theorem dX6_seeds_124 : decode cX6_seeds 124 = .ok (.istore 6, 2) := by decide +kernel
theorem dX6_seeds_126 : decode cX6_seeds 126 = .ok (.iload 7, 2) := by decide +kernel
theorem dX6_seeds_128 : decode cX6_seeds 128 = .ok (.iload 11, 2) := by decide +kernel
theorem dX6_seeds_130 : decode cX6_seeds 130 = .ok (.bipush 60, 2) := by decide +kernel
theorem dX6_seeds_132 : decode cX6_seeds 132 = .ok (.if_icmp .ge 7, 3) := by decide +kernel
theorem dX6_seeds_135 : decode cX6_seeds 135 = .ok (.iconst 1, 1) := by decide +kernel
theorem dX6_seeds_136 : decode cX6_seeds 136 = .ok (.goto 4, 3) := by decide +kernel
theorem dX6_seeds_139 : decode cX6_seeds 139 = .ok (.iconst 0, 1) := by decide +kernel
theorem dX6_seeds_140 : decode cX6_seeds 140 = .ok (.iadd, 1) := by decide +kernel
theorem dX6_seeds_141 : decode cX6_seeds 141 = .ok (.istore 7, 2) := by decide +kernel
theorem dX6_seeds_143 : decode cX6_seeds 143 = .ok (.iinc 8 1, 3) := by decide +kernel
theorem dX6_seeds_146 : decode cX6_seeds 146 = .ok (.goto (-76), 3) := by decide +kernel
theorem dX6_seeds_149 : decode cX6_seeds 149 = .ok (.aload_n 0, 1) := by decide +kernel
theorem dX6_seeds_150 : decode cX6_seeds 150 = .ok (.iload 5, 2) := by decide +kernel
theorem dX6_seeds_152 : decode cX6_seeds 152 = .ok (.putfield 65, 3) := by decide +kernel
theorem dX6_seeds_155 : decode cX6_seeds 155 = .ok (.iload_n 3, 1) := by decide +kernel
theorem dX6_seeds_156 : decode cX6_seeds 156 = .ok (.ifCond .ne 8, 3) := by decide +kernel
theorem dX6_seeds_159 : decode cX6_seeds 159 = .ok (.iload 6, 2) := by decide +kernel
theorem dX6_seeds_161 : decode cX6_seeds 161 = .ok (.goto 5, 3) := by decide +kernel
theorem dX6_seeds_164 : decode cX6_seeds 164 = .ok (.iload 7, 2) := by decide +kernel
theorem dX6_seeds_166 : decode cX6_seeds 166 = .ok (.ireturn, 1) := by decide +kernel
theorem dX6_count_0 : decode cX6_count 0 = .ok (.aload_n 0, 1) := by decide +kernel
theorem dX6_count_1 : decode cX6_count 1 = .ok (.iconst 0, 1) := by decide +kernel
theorem dX6_count_2 : decode cX6_count 2 = .ok (.putfield 55, 3) := by decide +kernel
theorem dX6_count_5 : decode cX6_count 5 = .ok (.iconst 0, 1) := by decide +kernel
theorem dX6_count_6 : decode cX6_count 6 = .ok (.istore_n 2, 1) := by decide +kernel
theorem dX6_count_7 : decode cX6_count 7 = .ok (.iconst 0, 1) := by decide +kernel
theorem dX6_count_8 : decode cX6_count 8 = .ok (.istore_n 3, 1) := by decide +kernel
theorem dX6_count_9 : decode cX6_count 9 = .ok (.iconst 0, 1) := by decide +kernel
theorem dX6_count_10 : decode cX6_count 10 = .ok (.istore 4, 2) := by decide +kernel
theorem dX6_count_12 : decode cX6_count 12 = .ok (.iload 4, 2) := by decide +kernel
theorem dX6_count_14 : decode cX6_count 14 = .ok (.bipush 24, 2) := by decide +kernel
theorem dX6_count_16 : decode cX6_count 16 = .ok (.if_icmp .ge 37, 3) := by decide +kernel
theorem dX6_count_19 : decode cX6_count 19 = .ok (.iload_n 2, 1) := by decide +kernel
theorem dX6_count_20 : decode cX6_count 20 = .ok (.aload_n 0, 1) := by decide +kernel
theorem dX6_count_21 : decode cX6_count 21 = .ok (.getfield 7, 3) := by decide +kernel
theorem dX6_count_24 : decode cX6_count 24 = .ok (.iload 4, 2) := by decide +kernel
theorem dX6_count_26 : decode cX6_count 26 = .ok (.iaload, 1) := by decide +kernel
theorem dX6_count_27 : decode cX6_count 27 = .ok (.iadd, 1) := by decide +kernel
theorem dX6_count_28 : decode cX6_count 28 = .ok (.istore_n 2, 1) := by decide +kernel
theorem dX6_count_29 : decode cX6_count 29 = .ok (.iload_n 3, 1) := by decide +kernel
theorem dX6_count_30 : decode cX6_count 30 = .ok (.aload_n 0, 1) := by decide +kernel
theorem dX6_count_31 : decode cX6_count 31 = .ok (.getfield 13, 3) := by decide +kernel
theorem dX6_count_34 : decode cX6_count 34 = .ok (.iload 4, 2) := by decide +kernel
theorem dX6_count_36 : decode cX6_count 36 = .ok (.iaload, 1) := by decide +kernel
theorem dX6_count_37 : decode cX6_count 37 = .ok (.ifCond .le 7, 3) := by decide +kernel
theorem dX6_count_40 : decode cX6_count 40 = .ok (.iconst 1, 1) := by decide +kernel
theorem dX6_count_41 : decode cX6_count 41 = .ok (.goto 4, 3) := by decide +kernel
theorem dX6_count_44 : decode cX6_count 44 = .ok (.iconst 0, 1) := by decide +kernel
theorem dX6_count_45 : decode cX6_count 45 = .ok (.iadd, 1) := by decide +kernel
theorem dX6_count_46 : decode cX6_count 46 = .ok (.istore_n 3, 1) := by decide +kernel
theorem dX6_count_47 : decode cX6_count 47 = .ok (.iinc 4 1, 3) := by decide +kernel
theorem dX6_count_50 : decode cX6_count 50 = .ok (.goto (-38), 3) := by decide +kernel
theorem dX6_count_53 : decode cX6_count 53 = .ok (.iconst 0, 1) := by decide +kernel
theorem dX6_count_54 : decode cX6_count 54 = .ok (.istore 4, 2) := by decide +kernel
theorem dX6_count_56 : decode cX6_count 56 = .ok (.iconst 0, 1) := by decide +kernel
theorem dX6_count_57 : decode cX6_count 57 = .ok (.istore 5, 2) := by decide +kernel
theorem dX6_count_59 : decode cX6_count 59 = .ok (.iload 5, 2) := by decide +kernel
theorem dX6_count_61 : decode cX6_count 61 = .ok (.aload_n 0, 1) := by decide +kernel
theorem dX6_count_62 : decode cX6_count 62 = .ok (.getfield 65, 3) := by decide +kernel
theorem dX6_count_65 : decode cX6_count 65 = .ok (.if_icmp .ge 29, 3) := by decide +kernel
theorem dX6_count_68 : decode cX6_count 68 = .ok (.iload 4, 2) := by decide +kernel
theorem dX6_count_70 : decode cX6_count 70 = .ok (.aload_n 0, 1) := by decide +kernel
theorem dX6_count_71 : decode cX6_count 71 = .ok (.getfield 19, 3) := by decide +kernel
theorem dX6_count_74 : decode cX6_count 74 = .ok (.iload 5, 2) := by decide +kernel
theorem dX6_count_76 : decode cX6_count 76 = .ok (.iaload, 1) := by decide +kernel
theorem dX6_count_77 : decode cX6_count 77 = .ok (.ifCond .ne 7, 3) := by decide +kernel
theorem dX6_count_80 : decode cX6_count 80 = .ok (.iconst 1, 1) := by decide +kernel
theorem dX6_count_81 : decode cX6_count 81 = .ok (.goto 4, 3) := by decide +kernel
theorem dX6_count_84 : decode cX6_count 84 = .ok (.iconst 0, 1) := by decide +kernel
theorem dX6_count_85 : decode cX6_count 85 = .ok (.iadd, 1) := by decide +kernel
theorem dX6_count_86 : decode cX6_count 86 = .ok (.istore 4, 2) := by decide +kernel
theorem dX6_count_88 : decode cX6_count 88 = .ok (.iinc 5 1, 3) := by decide +kernel
theorem dX6_count_91 : decode cX6_count 91 = .ok (.goto (-32), 3) := by decide +kernel
theorem dX6_count_94 : decode cX6_count 94 = .ok (.iload_n 1, 1) := by decide +kernel
theorem dX6_count_95 : decode cX6_count 95 = .ok (.tableswitch 77 0 7 #[45, 50, 53, 58, 63, 65, 67, 72], 45) := by decide +kernel
theorem dX6_count_140 : decode cX6_count 140 = .ok (.aload_n 0, 1) := by decide +kernel
theorem dX6_count_141 : decode cX6_count 141 = .ok (.getfield 65, 3) := by decide +kernel
theorem dX6_count_144 : decode cX6_count 144 = .ok (.ireturn, 1) := by decide +kernel
theorem dX6_count_145 : decode cX6_count 145 = .ok (.iload 4, 2) := by decide +kernel
theorem dX6_count_147 : decode cX6_count 147 = .ok (.ireturn, 1) := by decide +kernel
theorem dX6_count_148 : decode cX6_count 148 = .ok (.aload_n 0, 1) := by decide +kernel
theorem dX6_count_149 : decode cX6_count 149 = .ok (.getfield 157, 3) := by decide +kernel
theorem dX6_count_152 : decode cX6_count 152 = .ok (.ireturn, 1) := by decide +kernel
theorem dX6_count_153 : decode cX6_count 153 = .ok (.aload_n 0, 1) := by decide +kernel
theorem dX6_count_154 : decode cX6_count 154 = .ok (.getfield 75, 3) := by decide +kernel
theorem dX6_count_157 : decode cX6_count 157 = .ok (.ireturn, 1) := by decide +kernel
theorem dX6_count_158 : decode cX6_count 158 = .ok (.iload_n 2, 1) := by decide +kernel
theorem dX6_count_159 : decode cX6_count 159 = .ok (.ireturn, 1) := by decide +kernel
theorem dX6_count_160 : decode cX6_count 160 = .ok (.iload_n 3, 1) := by decide +kernel
theorem dX6_count_161 : decode cX6_count 161 = .ok (.ireturn, 1) := by decide +kernel
theorem dX6_count_162 : decode cX6_count 162 = .ok (.aload_n 0, 1) := by decide +kernel
theorem dX6_count_163 : decode cX6_count 163 = .ok (.getfield 105, 3) := by decide +kernel
theorem dX6_count_166 : decode cX6_count 166 = .ok (.ireturn, 1) := by decide +kernel
theorem dX6_count_167 : decode cX6_count 167 = .ok (.aload_n 0, 1) := by decide +kernel
theorem dX6_count_168 : decode cX6_count 168 = .ok (.getfield 259, 3) := by decide +kernel
theorem dX6_count_171 : decode cX6_count 171 = .ok (.ireturn, 1) := by decide +kernel
theorem dX6_count_172 : decode cX6_count 172 = .ok (.iload_n 1, 1) := by decide +kernel
theorem dX6_count_173 : decode cX6_count 173 = .ok (.i2l, 1) := by decide +kernel
theorem dX6_count_174 : decode cX6_count 174 = .ok (.ldc2_w 289, 3) := by decide +kernel
theorem dX6_count_177 : decode cX6_count 177 = .ok (.ldc2_w 291, 3) := by decide +kernel
theorem dX6_count_180 : decode cX6_count 180 = .ok (.invokestatic 59, 3) := by decide +kernel
theorem dX6_count_183 : decode cX6_count 183 = .ok (.ifCond .eq 15, 3) := by decide +kernel
theorem dX6_count_186 : decode cX6_count 186 = .ok (.aload_n 0, 1) := by decide +kernel
theorem dX6_count_187 : decode cX6_count 187 = .ok (.getfield 16, 3) := by decide +kernel
theorem dX6_count_190 : decode cX6_count 190 = .ok (.iload_n 1, 1) := by decide +kernel
theorem dX6_count_191 : decode cX6_count 191 = .ok (.bipush 20, 2) := by decide +kernel
theorem dX6_count_193 : decode cX6_count 193 = .ok (.isub, 1) := by decide +kernel
theorem dX6_count_194 : decode cX6_count 194 = .ok (.iaload, 1) := by decide +kernel
theorem dX6_count_195 : decode cX6_count 195 = .ok (.goto 31, 3) := by decide +kernel
theorem dX6_count_198 : decode cX6_count 198 = .ok (.iload_n 1, 1) := by decide +kernel
theorem dX6_count_199 : decode cX6_count 199 = .ok (.i2l, 1) := by decide +kernel
theorem dX6_count_200 : decode cX6_count 200 = .ok (.ldc2_w 63, 3) := by decide +kernel
theorem dX6_count_203 : decode cX6_count 203 = .ok (.ldc2_w 293, 3) := by decide +kernel
theorem dX6_count_206 : decode cX6_count 206 = .ok (.invokestatic 59, 3) := by decide +kernel
theorem dX6_count_209 : decode cX6_count 209 = .ok (.ifCond .eq 15, 3) := by decide +kernel
theorem dX6_count_212 : decode cX6_count 212 = .ok (.aload_n 0, 1) := by decide +kernel
theorem dX6_count_213 : decode cX6_count 213 = .ok (.getfield 31, 3) := by decide +kernel
theorem dX6_count_216 : decode cX6_count 216 = .ok (.iload_n 1, 1) := by decide +kernel
theorem dX6_count_217 : decode cX6_count 217 = .ok (.bipush 10, 2) := by decide +kernel
theorem dX6_count_219 : decode cX6_count 219 = .ok (.isub, 1) := by decide +kernel
theorem dX6_count_220 : decode cX6_count 220 = .ok (.iaload, 1) := by decide +kernel
theorem dX6_count_221 : decode cX6_count 221 = .ok (.goto 5, 3) := by decide +kernel
theorem dX6_count_224 : decode cX6_count 224 = .ok (.bipush (-9), 2) := by decide +kernel
theorem dX6_count_226 : decode cX6_count 226 = .ok (.ireturn, 1) := by decide +kernel
