theorem dX3_init_0 : decode cX3_init 0 = .ok (.aload_n 0, 1) := by decide +kernel
theorem dX3_init_1 : decode cX3_init 1 = .ok (.invokespecial 3, 3) := by decide +kernel
theorem dX3_init_4 : decode cX3_init 4 = .ok (.aload_n 0, 1) := by decide +kernel
theorem dX3_init_5 : decode cX3_init 5 = .ok (.bipush 24, 2) := by decide +kernel
theorem dX3_init_7 : decode cX3_init 7 = .ok (.newarray .int, 2) := by decide +kernel
theorem dX3_init_9 : decode cX3_init 9 = .ok (.putfield 9, 3) := by decide +kernel
theorem dX3_init_12 : decode cX3_init 12 = .ok (.aload_n 0, 1) := by decide +kernel
theorem dX3_init_13 : decode cX3_init 13 = .ok (.bipush 24, 2) := by decide +kernel
theorem dX3_init_15 : decode cX3_init 15 = .ok (.newarray .int, 2) := by decide +kernel
theorem dX3_init_17 : decode cX3_init 17 = .ok (.putfield 15, 3) := by decide +kernel
theorem dX3_init_20 : decode cX3_init 20 = .ok (.aload_n 0, 1) := by decide +kernel
theorem dX3_init_21 : decode cX3_init 21 = .ok (.iconst 5, 1) := by decide +kernel
theorem dX3_init_22 : decode cX3_init 22 = .ok (.newarray .int, 2) := by decide +kernel
theorem dX3_init_24 : decode cX3_init 24 = .ok (.putfield 18, 3) := by decide +kernel
theorem dX3_init_27 : decode cX3_init 27 = .ok (.aload_n 0, 1) := by decide +kernel
theorem dX3_init_28 : decode cX3_init 28 = .ok (.iconst 0, 1) := by decide +kernel
theorem dX3_init_29 : decode cX3_init 29 = .ok (.putfield 21, 3) := by decide +kernel
theorem dX3_init_32 : decode cX3_init 32 = .ok (.aload_n 0, 1) := by decide +kernel
theorem dX3_init_33 : decode cX3_init 33 = .ok (.bipush 6, 2) := by decide +kernel
theorem dX3_init_35 : decode cX3_init 35 = .ok (.anewarray 25, 3) := by decide +kernel
theorem dX3_init_38 : decode cX3_init 38 = .ok (.putfield 27, 3) := by decide +kernel
theorem dX3_init_41 : decode cX3_init 41 = .ok (.getstatic 31, 3) := by decide +kernel
theorem dX3_init_44 : decode cX3_init 44 = .ok (.iconst 0, 1) := by decide +kernel
theorem dX3_init_45 : decode cX3_init 45 = .ok (.aload_n 0, 1) := by decide +kernel
theorem dX3_init_46 : decode cX3_init 46 = .ok (.getfield 18, 3) := by decide +kernel
theorem dX3_init_49 : decode cX3_init 49 = .ok (.iconst 0, 1) := by decide +kernel
theorem dX3_init_50 : decode cX3_init 50 = .ok (.iconst 5, 1) := by decide +kernel
theorem dX3_init_51 : decode cX3_init 51 = .ok (.invokestatic 34, 3) := by decide +kernel
theorem dX3_init_54 : decode cX3_init 54 = .ok (.iconst 0, 1) := by decide +kernel
theorem dX3_init_55 : decode cX3_init 55 = .ok (.istore_n 1, 1) := by decide +kernel
theorem dX3_init_56 : decode cX3_init 56 = .ok (.iload_n 1, 1) := by decide +kernel
theorem dX3_init_57 : decode cX3_init 57 = .ok (.bipush 6, 2) := by decide +kernel
theorem dX3_init_59 : decode cX3_init 59 = .ok (.if_icmp .ge 22, 3) := by decide +kernel
theorem dX3_init_62 : decode cX3_init 62 = .ok (.aload_n 0, 1) := by decide +kernel
theorem dX3_init_63 : decode cX3_init 63 = .ok (.getfield 27, 3) := by decide +kernel
theorem dX3_init_66 : decode cX3_init 66 = .ok (.iload_n 1, 1) := by decide +kernel
theorem dX3_init_67 : decode cX3_init 67 = .ok (.new 25, 3) := by decide +kernel
theorem dX3_init_70 : decode cX3_init 70 = .ok (.dup, 1) := by decide +kernel
theorem dX3_init_71 : decode cX3_init 71 = .ok (.invokespecial 40, 3) := by decide +kernel
theorem dX3_init_74 : decode cX3_init 74 = .ok (.aastore, 1) := by decide +kernel
theorem dX3_init_75 : decode cX3_init 75 = .ok (.iinc 1 1, 3) := by decide +kernel
theorem dX3_init_78 : decode cX3_init 78 = .ok (.goto (-22), 3) := by decide +kernel
theorem dX3_init_81 : decode cX3_init 81 = .ok (.return_, 1) := by decide +kernel
theorem dX3_copyFrom_0 : decode cX3_copyFrom 0 = .ok (.aload_n 1, 1) := by decide +kernel
theorem dX3_copyFrom_1 : decode cX3_copyFrom 1 = .ok (.getfield 9, 3) := by decide +kernel
theorem dX3_copyFrom_4 : decode cX3_copyFrom 4 = .ok (.iconst 0, 1) := by decide +kernel
theorem dX3_copyFrom_5 : decode cX3_copyFrom 5 = .ok (.aload_n 0, 1) := by decide +kernel
theorem dX3_copyFrom_6 : decode cX3_copyFrom 6 = .ok (.getfield 9, 3) := by decide +kernel
theorem dX3_copyFrom_9 : decode cX3_copyFrom 9 = .ok (.iconst 0, 1) := by decide +kernel
theorem dX3_copyFrom_10 : decode cX3_copyFrom 10 = .ok (.bipush 24, 2) := by decide +kernel
theorem dX3_copyFrom_12 : decode cX3_copyFrom 12 = .ok (.invokestatic 34, 3) := by decide +kernel
theorem dX3_copyFrom_15 : decode cX3_copyFrom 15 = .ok (.aload_n 1, 1) := by decide +kernel
theorem dX3_copyFrom_16 : decode cX3_copyFrom 16 = .ok (.getfield 15, 3) := by decide +kernel
theorem dX3_copyFrom_19 : decode cX3_copyFrom 19 = .ok (.iconst 0, 1) := by decide +kernel
theorem dX3_copyFrom_20 : decode cX3_copyFrom 20 = .ok (.aload_n 0, 1) := by decide +kernel
theorem dX3_copyFrom_21 : decode cX3_copyFrom 21 = .ok (.getfield 15, 3) := by decide +kernel
theorem dX3_copyFrom_24 : decode cX3_copyFrom 24 = .ok (.iconst 0, 1) := by decide +kernel
theorem dX3_copyFrom_25 : decode cX3_copyFrom 25 = .ok (.bipush 24, 2) := by decide +kernel
theorem dX3_copyFrom_27 : decode cX3_copyFrom 27 = .ok (.invokestatic 34, 3) := by decide +kernel
theorem dX3_copyFrom_30 : decode cX3_copyFrom 30 = .ok (.aload_n 1, 1) := by decide +kernel
theorem dX3_copyFrom_31 : decode cX3_copyFrom 31 = .ok (.getfield 18, 3) := by decide +kernel
theorem dX3_copyFrom_34 : decode cX3_copyFrom 34 = .ok (.iconst 0, 1) := by decide +kernel
theorem dX3_copyFrom_35 : decode cX3_copyFrom 35 = .ok (.aload_n 0, 1) := by decide +kernel
theorem dX3_copyFrom_36 : decode cX3_copyFrom 36 = .ok (.getfield 18, 3) := by decide +kernel
theorem dX3_copyFrom_39 : decode cX3_copyFrom 39 = .ok (.iconst 0, 1) := by decide +kernel
theorem dX3_copyFrom_40 : decode cX3_copyFrom 40 = .ok (.iconst 5, 1) := by decide +kernel
theorem dX3_copyFrom_41 : decode cX3_copyFrom 41 = .ok (.invokestatic 34, 3) := by decide +kernel
theorem dX3_copyFrom_44 : decode cX3_copyFrom 44 = .ok (.aload_n 0, 1) := by decide +kernel
theorem dX3_copyFrom_45 : decode cX3_copyFrom 45 = .ok (.aload_n 1, 1) := by decide +kernel
theorem dX3_copyFrom_46 : decode cX3_copyFrom 46 = .ok (.getfield 21, 3) := by decide +kernel
theorem dX3_copyFrom_49 : decode cX3_copyFrom 49 = .ok (.putfield 21, 3) := by decide +kernel
theorem dX3_copyFrom_52 : decode cX3_copyFrom 52 = .ok (.aload_n 0, 1) := by decide +kernel
theorem dX3_copyFrom_53 : decode cX3_copyFrom 53 = .ok (.aload_n 1, 1) := by decide +kernel
theorem dX3_copyFrom_54 : decode cX3_copyFrom 54 = .ok (.getfield 41, 3) := by decide +kernel
theorem dX3_copyFrom_57 : decode cX3_copyFrom 57 = .ok (.putfield 41, 3) := by decide +kernel
theorem dX3_copyFrom_60 : decode cX3_copyFrom 60 = .ok (.aload_n 0, 1) := by decide +kernel
theorem dX3_copyFrom_61 : decode cX3_copyFrom 61 = .ok (.aload_n 1, 1) := by decide +kernel
theorem dX3_copyFrom_62 : decode cX3_copyFrom 62 = .ok (.getfield 44, 3) := by decide +kernel
theorem dX3_copyFrom_65 : decode cX3_copyFrom 65 = .ok (.putfield 44, 3) := by decide +kernel
theorem dX3_copyFrom_68 : decode cX3_copyFrom 68 = .ok (.iconst 0, 1) := by decide +kernel
theorem dX3_copyFrom_69 : decode cX3_copyFrom 69 = .ok (.istore_n 2, 1) := by decide +kernel
theorem dX3_copyFrom_70 : decode cX3_copyFrom 70 = .ok (.iload_n 2, 1) := by decide +kernel
theorem dX3_copyFrom_71 : decode cX3_copyFrom 71 = .ok (.bipush 6, 2) := by decide +kernel
theorem dX3_copyFrom_73 : decode cX3_copyFrom 73 = .ok (.if_icmp .ge 24, 3) := by decide +kernel
theorem dX3_copyFrom_76 : decode cX3_copyFrom 76 = .ok (.aload_n 0, 1) := by decide +kernel
theorem dX3_copyFrom_77 : decode cX3_copyFrom 77 = .ok (.getfield 27, 3) := by decide +kernel
theorem dX3_copyFrom_80 : decode cX3_copyFrom 80 = .ok (.iload_n 2, 1) := by decide +kernel
theorem dX3_copyFrom_81 : decode cX3_copyFrom 81 = .ok (.aaload, 1) := by decide +kernel
theorem dX3_copyFrom_82 : decode cX3_copyFrom 82 = .ok (.aload_n 1, 1) := by decide +kernel
theorem dX3_copyFrom_83 : decode cX3_copyFrom 83 = .ok (.getfield 27, 3) := by decide +kernel
theorem dX3_copyFrom_86 : decode cX3_copyFrom 86 = .ok (.iload_n 2, 1) := by decide +kernel
theorem dX3_copyFrom_87 : decode cX3_copyFrom 87 = .ok (.aaload, 1) := by decide +kernel
theorem dX3_copyFrom_88 : decode cX3_copyFrom 88 = .ok (.invokevirtual 47, 3) := by decide +kernel
theorem dX3_copyFrom_91 : decode cX3_copyFrom 91 = .ok (.iinc 2 1, 3) := by decide +kernel
theorem dX3_copyFrom_94 : decode cX3_copyFrom 94 = .ok (.goto (-24), 3) := by decide +kernel
theorem dX3_copyFrom_97 : decode cX3_copyFrom 97 = .ok (.return_, 1) := by decide +kernel
theorem dX3_hasTrace_0 : decode cX3_hasTrace 0 = .ok (.iload_n 1, 1) := by decide +kernel
theorem dX3_hasTrace_1 : decode cX3_hasTrace 1 = .ok (.iconst 0, 1) := by decide +kernel
theorem dX3_hasTrace_2 : decode cX3_hasTrace 2 = .ok (.aload_n 0, 1) := by decide +kernel
theorem dX3_hasTrace_3 : decode cX3_hasTrace 3 = .ok (.getfield 44, 3) := by decide +kernel
theorem dX3_hasTrace_6 : decode cX3_hasTrace 6 = .ok (.iconst 1, 1) := by decide +kernel
theorem dX3_hasTrace_7 : decode cX3_hasTrace 7 = .ok (.isub, 1) := by decide +kernel
theorem dX3_hasTrace_8 : decode cX3_hasTrace 8 = .ok (.invokestatic 51, 3) := by decide +kernel
theorem dX3_hasTrace_11 : decode cX3_hasTrace 11 = .ok (.ireturn, 1) := by decide +kernel
theorem dX3_latestAhead_0 : decode cX3_latestAhead 0 = .ok (.iload_n 2, 1) := by decide +kernel
theorem dX3_latestAhead_1 : decode cX3_latestAhead 1 = .ok (.aload_n 0, 1) := by decide +kernel
theorem dX3_latestAhead_2 : decode cX3_latestAhead 2 = .ok (.getfield 44, 3) := by decide +kernel
theorem dX3_latestAhead_5 : decode cX3_latestAhead 5 = .ok (.invokestatic 55, 3) := by decide +kernel
theorem dX3_latestAhead_8 : decode cX3_latestAhead 8 = .ok (.iconst 1, 1) := by decide +kernel
theorem dX3_latestAhead_9 : decode cX3_latestAhead 9 = .ok (.isub, 1) := by decide +kernel
theorem dX3_latestAhead_10 : decode cX3_latestAhead 10 = .ok (.istore_n 3, 1) := by decide +kernel
theorem dX3_latestAhead_11 : decode cX3_latestAhead 11 = .ok (.iload_n 3, 1) := by decide +kernel
theorem dX3_latestAhead_12 : decode cX3_latestAhead 12 = .ok (.ifCond .lt 29, 3) := by decide +kernel
theorem dX3_latestAhead_15 : decode cX3_latestAhead 15 = .ok (.aload_n 0, 1) := by decide +kernel
theorem dX3_latestAhead_16 : decode cX3_latestAhead 16 = .ok (.getfield 27, 3) := by decide +kernel
theorem dX3_latestAhead_19 : decode cX3_latestAhead 19 = .ok (.iload_n 3, 1) := by decide +kernel
theorem dX3_latestAhead_20 : decode cX3_latestAhead 20 = .ok (.aaload, 1) := by decide +kernel
theorem dX3_latestAhead_21 : decode cX3_latestAhead 21 = .ok (.getfield 61, 3) := by decide +kernel
theorem dX3_latestAhead_24 : decode cX3_latestAhead 24 = .ok (.iload_n 1, 1) := by decide +kernel
theorem dX3_latestAhead_25 : decode cX3_latestAhead 25 = .ok (.if_icmp .ne 10, 3) := by decide +kernel
theorem dX3_latestAhead_28 : decode cX3_latestAhead 28 = .ok (.aload_n 0, 1) := by decide +kernel
theorem dX3_latestAhead_29 : decode cX3_latestAhead 29 = .ok (.getfield 27, 3) := by decide +kernel
theorem dX3_latestAhead_32 : decode cX3_latestAhead 32 = .ok (.iload_n 3, 1) := by decide +kernel
theorem dX3_latestAhead_33 : decode cX3_latestAhead 33 = .ok (.aaload, 1) := by decide +kernel
theorem dX3_latestAhead_34 : decode cX3_latestAhead 34 = .ok (.areturn, 1) := by decide +kernel
theorem dX3_latestAhead_35 : decode cX3_latestAhead 35 = .ok (.iinc 3 (-1), 3) := by decide +kernel
theorem dX3_latestAhead_38 : decode cX3_latestAhead 38 = .ok (.goto (-27), 3) := by decide +kernel
theorem dX3_latestAhead_41 : decode cX3_latestAhead 41 = .ok (.aconst_null, 1) := by decide +kernel
theorem dX3_latestAhead_42 : decode cX3_latestAhead 42 = .ok (.areturn, 1) := by decide +kernel
theorem dX3_latestOf_0 : decode cX3_latestOf 0 = .ok (.aload_n 0, 1) := by decide +kernel
theorem dX3_latestOf_1 : decode cX3_latestOf 1 = .ok (.iload_n 1, 1) := by decide +kernel
theorem dX3_latestOf_2 : decode cX3_latestOf 2 = .ok (.aload_n 0, 1) := by decide +kernel
theorem dX3_latestOf_3 : decode cX3_latestOf 3 = .ok (.getfield 44, 3) := by decide +kernel
theorem dX3_latestOf_6 : decode cX3_latestOf 6 = .ok (.invokevirtual 64, 3) := by decide +kernel
theorem dX3_latestOf_9 : decode cX3_latestOf 9 = .ok (.areturn, 1) := by decide +kernel
theorem dX3_addTrace_0 : decode cX3_addTrace 0 = .ok (.aload_n 0, 1) := by decide +kernel
theorem dX3_addTrace_1 : decode cX3_addTrace 1 = .ok (.getfield 44, 3) := by decide +kernel
theorem dX3_addTrace_4 : decode cX3_addTrace 4 = .ok (.bipush 6, 2) := by decide +kernel
theorem dX3_addTrace_6 : decode cX3_addTrace 6 = .ok (.if_icmp .lt 6, 3) := by decide +kernel
theorem dX3_addTrace_9 : decode cX3_addTrace 9 = .ok (.bipush (-6), 2) := by decide +kernel
theorem dX3_addTrace_11 : decode cX3_addTrace 11 = .ok (.ireturn, 1) := by decide +kernel
theorem dX3_addTrace_12 : decode cX3_addTrace 12 = .ok (.aload_n 0, 1) := by decide +kernel
theorem dX3_addTrace_13 : decode cX3_addTrace 13 = .ok (.getfield 27, 3) := by decide +kernel
theorem dX3_addTrace_16 : decode cX3_addTrace 16 = .ok (.aload_n 0, 1) := by decide +kernel
theorem dX3_addTrace_17 : decode cX3_addTrace 17 = .ok (.getfield 44, 3) := by decide +kernel
theorem dX3_addTrace_20 : decode cX3_addTrace 20 = .ok (.aaload, 1) := by decide +kernel
theorem dX3_addTrace_21 : decode cX3_addTrace 21 = .ok (.astore 4, 2) := by decide +kernel
theorem dX3_addTrace_23 : decode cX3_addTrace 23 = .ok (.aload 4, 2) := by decide +kernel
theorem dX3_addTrace_25 : decode cX3_addTrace 25 = .ok (.iload_n 1, 1) := by decide +kernel
theorem dX3_addTrace_26 : decode cX3_addTrace 26 = .ok (.iload_n 2, 1) := by decide +kernel
theorem dX3_addTrace_27 : decode cX3_addTrace 27 = .ok (.iload_n 3, 1) := by decide +kernel
theorem dX3_addTrace_28 : decode cX3_addTrace 28 = .ok (.invokevirtual 68, 3) := by decide +kernel
theorem dX3_addTrace_31 : decode cX3_addTrace 31 = .ok (.aload_n 0, 1) := by decide +kernel
theorem dX3_addTrace_32 : decode cX3_addTrace 32 = .ok (.aload 4, 2) := by decide +kernel
theorem dX3_addTrace_34 : decode cX3_addTrace 34 = .ok (.aload_n 0, 1) := by decide +kernel
theorem dX3_addTrace_35 : decode cX3_addTrace 35 = .ok (.getfield 21, 3) := by decide +kernel
theorem dX3_addTrace_38 : decode cX3_addTrace 38 = .ok (.aload_n 0, 1) := by decide +kernel
theorem dX3_addTrace_39 : decode cX3_addTrace 39 = .ok (.iload_n 1, 1) := by decide +kernel
theorem dX3_addTrace_40 : decode cX3_addTrace 40 = .ok (.invokevirtual 72, 3) := by decide +kernel
theorem dX3_addTrace_43 : decode cX3_addTrace 43 = .ok (.invokevirtual 76, 3) := by decide +kernel
theorem dX3_addTrace_46 : decode cX3_addTrace 46 = .ok (.aload_n 0, 1) := by decide +kernel
theorem dX3_addTrace_47 : decode cX3_addTrace 47 = .ok (.dup, 1) := by decide +kernel
theorem dX3_addTrace_48 : decode cX3_addTrace 48 = .ok (.getfield 44, 3) := by decide +kernel
theorem dX3_addTrace_51 : decode cX3_addTrace 51 = .ok (.iconst 1, 1) := by decide +kernel
theorem dX3_addTrace_52 : decode cX3_addTrace 52 = .ok (.iadd, 1) := by decide +kernel
theorem dX3_addTrace_53 : decode cX3_addTrace 53 = .ok (.putfield 44, 3) := by decide +kernel
theorem dX3_addTrace_56 : decode cX3_addTrace 56 = .ok (.aload_n 0, 1) := by decide +kernel
theorem dX3_addTrace_57 : decode cX3_addTrace 57 = .ok (.getfield 44, 3) := by decide +kernel
theorem dX3_addTrace_60 : decode cX3_addTrace 60 = .ok (.iconst 1, 1) := by decide +kernel
theorem dX3_addTrace_61 : decode cX3_addTrace 61 = .ok (.isub, 1) := by decide +kernel
theorem dX3_addTrace_62 : decode cX3_addTrace 62 = .ok (.ireturn, 1) := by decide +kernel
theorem dX3_skate_0 : decode cX3_skate 0 = .ok (.bipush 60, 2) := by decide +kernel
theorem dX3_skate_2 : decode cX3_skate 2 = .ok (.aload_n 1, 1) := by decide +kernel
theorem dX3_skate_3 : decode cX3_skate 3 = .ok (.getfield 80, 3) := by decide +kernel
theorem dX3_skate_6 : decode cX3_skate 6 = .ok (.imul, 1) := by decide +kernel
theorem dX3_skate_7 : decode cX3_skate 7 = .ok (.istore 4, 2) := by decide +kernel
theorem dX3_skate_9 : decode cX3_skate 9 = .ok (.iconst 0, 1) := by decide +kernel
theorem dX3_skate_10 : decode cX3_skate 10 = .ok (.istore 5, 2) := by decide +kernel
theorem dX3_skate_12 : decode cX3_skate 12 = .ok (.iload 5, 2) := by decide +kernel
theorem dX3_skate_14 : decode cX3_skate 14 = .ok (.bipush 12, 2) := by decide +kernel
theorem dX3_skate_16 : decode cX3_skate 16 = .ok (.if_icmp .ge 101, 3) := by decide +kernel
theorem dX3_skate_19 : decode cX3_skate 19 = .ok (.iload 5, 2) := by decide +kernel
theorem dX3_skate_21 : decode cX3_skate 21 = .ok (.ifCond .le 39, 3) := by decide +kernel
theorem dX3_skate_24 : decode cX3_skate 24 = .ok (.aload_n 0, 1) := by decide +kernel
theorem dX3_skate_25 : decode cX3_skate 25 = .ok (.getfield 18, 3) := by decide +kernel
theorem dX3_skate_28 : decode cX3_skate 28 = .ok (.iconst 1, 1) := by decide +kernel
theorem dX3_skate_29 : decode cX3_skate 29 = .ok (.iaload, 1) := by decide +kernel
theorem dX3_skate_30 : decode cX3_skate 30 = .ok (.aload_n 0, 1) := by decide +kernel
theorem dX3_skate_31 : decode cX3_skate 31 = .ok (.getfield 9, 3) := by decide +kernel
theorem dX3_skate_34 : decode cX3_skate 34 = .ok (.aload_n 1, 1) := by decide +kernel
theorem dX3_skate_35 : decode cX3_skate 35 = .ok (.getfield 61, 3) := by decide +kernel
theorem dX3_skate_38 : decode cX3_skate 38 = .ok (.iload 5, 2) := by decide +kernel
theorem dX3_skate_40 : decode cX3_skate 40 = .ok (.invokestatic 83, 3) := by decide +kernel
theorem dX3_skate_43 : decode cX3_skate 43 = .ok (.iaload, 1) := by decide +kernel
theorem dX3_skate_44 : decode cX3_skate 44 = .ok (.iadd, 1) := by decide +kernel
theorem dX3_skate_45 : decode cX3_skate 45 = .ok (.istore 6, 2) := by decide +kernel
theorem dX3_skate_47 : decode cX3_skate 47 = .ok (.iconst 0, 1) := by decide +kernel
theorem dX3_skate_48 : decode cX3_skate 48 = .ok (.iload 4, 2) := by decide +kernel
theorem dX3_skate_50 : decode cX3_skate 50 = .ok (.iconst 3, 1) := by decide +kernel
theorem dX3_skate_51 : decode cX3_skate 51 = .ok (.iload 6, 2) := by decide +kernel
theorem dX3_skate_53 : decode cX3_skate 53 = .ok (.imul, 1) := by decide +kernel
theorem dX3_skate_54 : decode cX3_skate 54 = .ok (.isub, 1) := by decide +kernel
theorem dX3_skate_55 : decode cX3_skate 55 = .ok (.invokestatic 86, 3) := by decide +kernel
theorem dX3_skate_58 : decode cX3_skate 58 = .ok (.istore 4, 2) := by decide +kernel
theorem dX3_skate_60 : decode cX3_skate 60 = .ok (.aload_n 1, 1) := by decide +kernel
theorem dX3_skate_61 : decode cX3_skate 61 = .ok (.getfield 89, 3) := by decide +kernel
theorem dX3_skate_64 : decode cX3_skate 64 = .ok (.ifCond .le 13, 3) := by decide +kernel
theorem dX3_skate_67 : decode cX3_skate 67 = .ok (.iload 4, 2) := by decide +kernel
theorem dX3_skate_69 : decode cX3_skate 69 = .ok (.aload_n 1, 1) := by decide +kernel
theorem dX3_skate_70 : decode cX3_skate 70 = .ok (.getfield 89, 3) := by decide +kernel
theorem dX3_skate_73 : decode cX3_skate 73 = .ok (.idiv, 1) := by decide +kernel
theorem dX3_skate_74 : decode cX3_skate 74 = .ok (.goto 4, 3) := by decide +kernel
theorem dX3_skate_77 : decode cX3_skate 77 = .ok (.iconst 0, 1) := by decide +kernel
theorem dX3_skate_78 : decode cX3_skate 78 = .ok (.istore 6, 2) := by decide +kernel
theorem dX3_skate_80 : decode cX3_skate 80 = .ok (.aload_n 0, 1) := by decide +kernel
theorem dX3_skate_81 : decode cX3_skate 81 = .ok (.iload_n 2, 1) := by decide +kernel
theorem dX3_skate_82 : decode cX3_skate 82 = .ok (.aload_n 1, 1) := by decide +kernel
theorem dX3_skate_83 : decode cX3_skate 83 = .ok (.getfield 61, 3) := by decide +kernel
theorem dX3_skate_86 : decode cX3_skate 86 = .ok (.iload 5, 2) := by decide +kernel
theorem dX3_skate_88 : decode cX3_skate 88 = .ok (.iload 6, 2) := by decide +kernel
theorem dX3_skate_90 : decode cX3_skate 90 = .ok (.aload_n 3, 1) := by decide +kernel
theorem dX3_skate_91 : decode cX3_skate 91 = .ok (.invokevirtual 92, 3) := by decide +kernel
theorem dX3_skate_94 : decode cX3_skate 94 = .ok (.istore 7, 2) := by decide +kernel
theorem dX3_skate_96 : decode cX3_skate 96 = .ok (.aload_n 1, 1) := by decide +kernel
theorem dX3_skate_97 : decode cX3_skate 97 = .ok (.getfield 96, 3) := by decide +kernel
theorem dX3_skate_100 : decode cX3_skate 100 = .ok (.iload 5, 2) := by decide +kernel
theorem dX3_skate_102 : decode cX3_skate 102 = .ok (.iload 7, 2) := by decide +kernel
theorem dX3_skate_104 : decode cX3_skate 104 = .ok (.sipush 999, 3) := by decide +kernel
theorem dX3_skate_107 : decode cX3_skate 107 = .ok (.invokestatic 99, 3) := by decide +kernel
theorem dX3_skate_110 : decode cX3_skate 110 = .ok (.iastore, 1) := by decide +kernel
theorem dX3_skate_111 : decode cX3_skate 111 = .ok (.iinc 5 1, 3) := by decide +kernel
theorem dX3_skate_114 : decode cX3_skate 114 = .ok (.goto (-102), 3) := by decide +kernel
theorem dX3_skate_117 : decode cX3_skate 117 = .ok (.return_, 1) := by decide +kernel
theorem dX3_radiusBy_0 : decode cX3_radiusBy 0 = .ok (.iload_n 1, 1) := by decide +kernel
theorem dX3_radiusBy_1 : decode cX3_radiusBy 1 = .ok (.tableswitch 113 1 6 #[39, 49, 56, 69, 76, 89], 39) := by decide +kernel
theorem dX3_radiusBy_40 : decode cX3_radiusBy 40 = .ok (.aload_n 0, 1) := by decide +kernel
theorem dX3_radiusBy_41 : decode cX3_radiusBy 41 = .ok (.iload 4, 2) := by decide +kernel
theorem dX3_radiusBy_43 : decode cX3_radiusBy 43 = .ok (.aload 5, 2) := by decide +kernel
theorem dX3_radiusBy_45 : decode cX3_radiusBy 45 = .ok (.iload_n 3, 1) := by decide +kernel
theorem dX3_radiusBy_46 : decode cX3_radiusBy 46 = .ok (.invokevirtual 102, 3) := by decide +kernel
theorem dX3_radiusBy_49 : decode cX3_radiusBy 49 = .ok (.ireturn, 1) := by decide +kernel
theorem dX3_radiusBy_50 : decode cX3_radiusBy 50 = .ok (.aload_n 0, 1) := by decide +kernel
theorem dX3_radiusBy_51 : decode cX3_radiusBy 51 = .ok (.iload 4, 2) := by decide +kernel
theorem dX3_radiusBy_53 : decode cX3_radiusBy 53 = .ok (.invokevirtual 106, 3) := by decide +kernel
theorem dX3_radiusBy_56 : decode cX3_radiusBy 56 = .ok (.ireturn, 1) := by decide +kernel
theorem dX3_radiusBy_57 : decode cX3_radiusBy 57 = .ok (.aload_n 0, 1) := by decide +kernel
theorem dX3_radiusBy_58 : decode cX3_radiusBy 58 = .ok (.iload 4, 2) := by decide +kernel
theorem dX3_radiusBy_60 : decode cX3_radiusBy 60 = .ok (.aload 5, 2) := by decide +kernel
theorem dX3_radiusBy_62 : decode cX3_radiusBy 62 = .ok (.iload_n 3, 1) := by decide +kernel
theorem dX3_radiusBy_63 : decode cX3_radiusBy 63 = .ok (.invokestatic 110, 3) := by decide +kernel
theorem dX3_radiusBy_66 : decode cX3_radiusBy 66 = .ok (.invokevirtual 102, 3) := by decide +kernel
theorem dX3_radiusBy_69 : decode cX3_radiusBy 69 = .ok (.ireturn, 1) := by decide +kernel
theorem dX3_radiusBy_70 : decode cX3_radiusBy 70 = .ok (.iload 4, 2) := by decide +kernel
theorem dX3_radiusBy_72 : decode cX3_radiusBy 72 = .ok (.iload_n 3, 1) := by decide +kernel
theorem dX3_radiusBy_73 : decode cX3_radiusBy 73 = .ok (.iconst 2, 1) := by decide +kernel
theorem dX3_radiusBy_74 : decode cX3_radiusBy 74 = .ok (.irem, 1) := by decide +kernel
theorem dX3_radiusBy_75 : decode cX3_radiusBy 75 = .ok (.iadd, 1) := by decide +kernel
theorem dX3_radiusBy_76 : decode cX3_radiusBy 76 = .ok (.ireturn, 1) := by decide +kernel
theorem dX3_radiusBy_77 : decode cX3_radiusBy 77 = .ok (.aload_n 0, 1) := by decide +kernel
theorem dX3_radiusBy_78 : decode cX3_radiusBy 78 = .ok (.iload 4, 2) := by decide +kernel
theorem dX3_radiusBy_80 : decode cX3_radiusBy 80 = .ok (.invokevirtual 106, 3) := by decide +kernel
theorem dX3_radiusBy_83 : decode cX3_radiusBy 83 = .ok (.aload_n 0, 1) := by decide +kernel
theorem dX3_radiusBy_84 : decode cX3_radiusBy 84 = .ok (.iload_n 3, 1) := by decide +kernel
theorem dX3_radiusBy_85 : decode cX3_radiusBy 85 = .ok (.invokevirtual 113, 3) := by decide +kernel
theorem dX3_radiusBy_88 : decode cX3_radiusBy 88 = .ok (.iadd, 1) := by decide +kernel
theorem dX3_radiusBy_89 : decode cX3_radiusBy 89 = .ok (.ireturn, 1) := by decide +kernel
theorem dX3_radiusBy_90 : decode cX3_radiusBy 90 = .ok (.aload_n 0, 1) := by decide +kernel
theorem dX3_radiusBy_91 : decode cX3_radiusBy 91 = .ok (.aload_n 0, 1) := by decide +kernel
theorem dX3_radiusBy_92 : decode cX3_radiusBy 92 = .ok (.iload 4, 2) := by decide +kernel
theorem dX3_radiusBy_94 : decode cX3_radiusBy 94 = .ok (.aload 5, 2) := by decide +kernel
theorem dX3_radiusBy_96 : decode cX3_radiusBy 96 = .ok (.iload_n 3, 1) := by decide +kernel
theorem dX3_radiusBy_97 : decode cX3_radiusBy 97 = .ok (.invokevirtual 102, 3) := by decide +kernel
theorem dX3_radiusBy_100 : decode cX3_radiusBy 100 = .ok (.aload_n 0, 1) := by decide +kernel
theorem dX3_radiusBy_101 : decode cX3_radiusBy 101 = .ok (.getfield 15, 3) := by decide +kernel
theorem dX3_radiusBy_104 : decode cX3_radiusBy 104 = .ok (.iload_n 2, 1) := by decide +kernel
theorem dX3_radiusBy_105 : decode cX3_radiusBy 105 = .ok (.iload_n 3, 1) := by decide +kernel
theorem dX3_radiusBy_106 : decode cX3_radiusBy 106 = .ok (.invokestatic 83, 3) := by decide +kernel
theorem dX3_radiusBy_109 : decode cX3_radiusBy 109 = .ok (.iaload, 1) := by decide +kernel
theorem dX3_radiusBy_110 : decode cX3_radiusBy 110 = .ok (.invokevirtual 116, 3) := by decide +kernel
theorem dX3_radiusBy_113 : decode cX3_radiusBy 113 = .ok (.ireturn, 1) := by decide +kernel
theorem dX3_radiusBy_114 : decode cX3_radiusBy 114 = .ok (.iload 4, 2) := by decide +kernel
theorem dX3_radiusBy_116 : decode cX3_radiusBy 116 = .ok (.ireturn, 1) := by decide +kernel
theorem dX3_looked_0 : decode cX3_looked 0 = .ok (.aload_n 2, 1) := by decide +kernel
theorem dX3_looked_1 : decode cX3_looked 1 = .ok (.ifnonnull 7, 3) := by decide +kernel
theorem dX3_looked_4 : decode cX3_looked 4 = .ok (.iload_n 1, 1) := by decide +kernel
theorem dX3_looked_5 : decode cX3_looked 5 = .ok (.goto 15, 3) := by decide +kernel
theorem dX3_looked_8 : decode cX3_looked 8 = .ok (.iload_n 1, 1) := by decide +kernel
theorem dX3_looked_9 : decode cX3_looked 9 = .ok (.aload_n 2, 1) := by decide +kernel
theorem dX3_looked_10 : decode cX3_looked 10 = .ok (.getfield 96, 3) := by decide +kernel
theorem dX3_looked_13 : decode cX3_looked 13 = .ok (.iload_n 3, 1) := by decide +kernel
theorem dX3_looked_14 : decode cX3_looked 14 = .ok (.iaload, 1) := by decide +kernel
theorem dX3_looked_15 : decode cX3_looked 15 = .ok (.iload_n 1, 1) := by decide +kernel
theorem dX3_looked_16 : decode cX3_looked 16 = .ok (.isub, 1) := by decide +kernel
theorem dX3_looked_17 : decode cX3_looked 17 = .ok (.iconst 2, 1) := by decide +kernel
theorem dX3_looked_18 : decode cX3_looked 18 = .ok (.idiv, 1) := by decide +kernel
theorem dX3_looked_19 : decode cX3_looked 19 = .ok (.iadd, 1) := by decide +kernel
theorem dX3_looked_20 : decode cX3_looked 20 = .ok (.ireturn, 1) := by decide +kernel
theorem dX3_centred_0 : decode cX3_centred 0 = .ok (.iload_n 1, 1) := by decide +kernel
theorem dX3_centred_1 : decode cX3_centred 1 = .ok (.aload_n 0, 1) := by decide +kernel
theorem dX3_centred_2 : decode cX3_centred 2 = .ok (.getfield 18, 3) := by decide +kernel
theorem dX3_centred_5 : decode cX3_centred 5 = .ok (.iconst 0, 1) := by decide +kernel
theorem dX3_centred_6 : decode cX3_centred 6 = .ok (.iaload, 1) := by decide +kernel
theorem dX3_centred_7 : decode cX3_centred 7 = .ok (.iload_n 1, 1) := by decide +kernel
theorem dX3_centred_8 : decode cX3_centred 8 = .ok (.isub, 1) := by decide +kernel
theorem dX3_centred_9 : decode cX3_centred 9 = .ok (.iconst 4, 1) := by decide +kernel
theorem dX3_centred_10 : decode cX3_centred 10 = .ok (.idiv, 1) := by decide +kernel
theorem dX3_centred_11 : decode cX3_centred 11 = .ok (.iadd, 1) := by decide +kernel
theorem dX3_centred_12 : decode cX3_centred 12 = .ok (.ireturn, 1) := by decide +kernel
theorem dX3_wobbleOf_0 : decode cX3_wobbleOf 0 = .ok (.iload_n 1, 1) := by decide +kernel
theorem dX3_wobbleOf_1 : decode cX3_wobbleOf 1 = .ok (.aload_n 0, 1) := by decide +kernel
theorem dX3_wobbleOf_2 : decode cX3_wobbleOf 2 = .ok (.getfield 41, 3) := by decide +kernel
theorem dX3_wobbleOf_5 : decode cX3_wobbleOf 5 = .ok (.if_icmp .ne 8, 3) := by decide +kernel
theorem dX3_wobbleOf_8 : decode cX3_wobbleOf 8 = .ok (.aload_n 0, 1) := by decide +kernel
theorem dX3_wobbleOf_9 : decode cX3_wobbleOf 9 = .ok (.getfield 41, 3) := by decide +kernel
theorem dX3_wobbleOf_12 : decode cX3_wobbleOf 12 = .ok (.ireturn, 1) := by decide +kernel
theorem dX3_wobbleOf_13 : decode cX3_wobbleOf 13 = .ok (.iload_n 1, 1) := by decide +kernel
theorem dX3_wobbleOf_14 : decode cX3_wobbleOf 14 = .ok (.aload_n 0, 1) := by decide +kernel
theorem dX3_wobbleOf_15 : decode cX3_wobbleOf 15 = .ok (.getfield 41, 3) := by decide +kernel
theorem dX3_wobbleOf_18 : decode cX3_wobbleOf 18 = .ok (.iconst 1, 1) := by decide +kernel
theorem dX3_wobbleOf_19 : decode cX3_wobbleOf 19 = .ok (.iadd, 1) := by decide +kernel
theorem dX3_wobbleOf_20 : decode cX3_wobbleOf 20 = .ok (.if_icmp .ne 11, 3) := by decide +kernel
theorem dX3_wobbleOf_23 : decode cX3_wobbleOf 23 = .ok (.aload_n 0, 1) := by decide +kernel
theorem dX3_wobbleOf_24 : decode cX3_wobbleOf 24 = .ok (.getfield 41, 3) := by decide +kernel
theorem dX3_wobbleOf_27 : decode cX3_wobbleOf 27 = .ok (.ineg, 1) := by decide +kernel
theorem dX3_wobbleOf_28 : decode cX3_wobbleOf 28 = .ok (.goto 4, 3) := by decide +kernel
theorem dX3_wobbleOf_31 : decode cX3_wobbleOf 31 = .ok (.iconst 0, 1) := by decide +kernel
theorem dX3_wobbleOf_32 : decode cX3_wobbleOf 32 = .ok (.ireturn, 1) := by decide +kernel
theorem dX3_ledAstray_0 : decode cX3_ledAstray 0 = .ok (.iload_n 2, 1) := by decide +kernel
theorem dX3_ledAstray_1 : decode cX3_ledAstray 1 = .ok (.ifCond .ne 7, 3) := by decide +kernel
theorem dX3_ledAstray_4 : decode cX3_ledAstray 4 = .ok (.iload_n 1, 1) := by decide +kernel
theorem dX3_ledAstray_5 : decode cX3_ledAstray 5 = .ok (.goto 16, 3) := by decide +kernel
theorem dX3_ledAstray_8 : decode cX3_ledAstray 8 = .ok (.iload_n 1, 1) := by decide +kernel
theorem dX3_ledAstray_9 : decode cX3_ledAstray 9 = .ok (.iload_n 2, 1) := by decide +kernel
theorem dX3_ledAstray_10 : decode cX3_ledAstray 10 = .ok (.iload_n 1, 1) := by decide +kernel
theorem dX3_ledAstray_11 : decode cX3_ledAstray 11 = .ok (.isub, 1) := by decide +kernel
theorem dX3_ledAstray_12 : decode cX3_ledAstray 12 = .ok (.aload_n 0, 1) := by decide +kernel
theorem dX3_ledAstray_13 : decode cX3_ledAstray 13 = .ok (.getfield 41, 3) := by decide +kernel
theorem dX3_ledAstray_16 : decode cX3_ledAstray 16 = .ok (.imul, 1) := by decide +kernel
theorem dX3_ledAstray_17 : decode cX3_ledAstray 17 = .ok (.bipush 10, 2) := by decide +kernel
theorem dX3_ledAstray_19 : decode cX3_ledAstray 19 = .ok (.idiv, 1) := by decide +kernel
theorem dX3_ledAstray_20 : decode cX3_ledAstray 20 = .ok (.iadd, 1) := by decide +kernel
theorem dX3_ledAstray_21 : decode cX3_ledAstray 21 = .ok (.ireturn, 1) := by decide +kernel
theorem dX3_flatsOf_0 : decode cX3_flatsOf 0 = .ok (.iconst 0, 1) := by decide +kernel
theorem dX3_flatsOf_1 : decode cX3_flatsOf 1 = .ok (.istore_n 2, 1) := by decide +kernel
theorem dX3_flatsOf_2 : decode cX3_flatsOf 2 = .ok (.iconst 0, 1) := by decide +kernel
theorem dX3_flatsOf_3 : decode cX3_flatsOf 3 = .ok (.istore_n 3, 1) := by decide +kernel
theorem dX3_flatsOf_4 : decode cX3_flatsOf 4 = .ok (.iload_n 3, 1) := by decide +kernel
theorem dX3_flatsOf_5 : decode cX3_flatsOf 5 = .ok (.bipush 12, 2) := by decide +kernel
theorem dX3_flatsOf_7 : decode cX3_flatsOf 7 = .ok (.if_icmp .ge 61, 3) := by decide +kernel
theorem dX3_flatsOf_10 : decode cX3_flatsOf 10 = .ok (.aload_n 1, 1) := by decide +kernel
theorem dX3_flatsOf_11 : decode cX3_flatsOf 11 = .ok (.getfield 96, 3) := by decide +kernel
theorem dX3_flatsOf_14 : decode cX3_flatsOf 14 = .ok (.iload_n 3, 1) := by decide +kernel
theorem dX3_flatsOf_15 : decode cX3_flatsOf 15 = .ok (.iaload, 1) := by decide +kernel
theorem dX3_flatsOf_16 : decode cX3_flatsOf 16 = .ok (.aload_n 1, 1) := by decide +kernel
theorem dX3_flatsOf_17 : decode cX3_flatsOf 17 = .ok (.getfield 96, 3) := by decide +kernel
theorem dX3_flatsOf_20 : decode cX3_flatsOf 20 = .ok (.iload_n 3, 1) := by decide +kernel
theorem dX3_flatsOf_21 : decode cX3_flatsOf 21 = .ok (.invokestatic 110, 3) := by decide +kernel
theorem dX3_flatsOf_24 : decode cX3_flatsOf 24 = .ok (.iaload, 1) := by decide +kernel
theorem dX3_flatsOf_25 : decode cX3_flatsOf 25 = .ok (.if_icmp .ne 7, 3) := by decide +kernel
theorem dX3_flatsOf_28 : decode cX3_flatsOf 28 = .ok (.iconst 1, 1) := by decide +kernel
theorem dX3_flatsOf_29 : decode cX3_flatsOf 29 = .ok (.goto 4, 3) := by decide +kernel
theorem dX3_flatsOf_32 : decode cX3_flatsOf 32 = .ok (.iconst 0, 1) := by decide +kernel
theorem dX3_flatsOf_33 : decode cX3_flatsOf 33 = .ok (.istore 4, 2) := by decide +kernel
theorem dX3_flatsOf_35 : decode cX3_flatsOf 35 = .ok (.iload 4, 2) := by decide +kernel
theorem dX3_flatsOf_37 : decode cX3_flatsOf 37 = .ok (.ifCond .eq 25, 3) := by decide +kernel
theorem dX3_flatsOf_40 : decode cX3_flatsOf 40 = .ok (.aload_n 0, 1) := by decide +kernel
theorem dX3_flatsOf_41 : decode cX3_flatsOf 41 = .ok (.getfield 9, 3) := by decide +kernel
theorem dX3_flatsOf_44 : decode cX3_flatsOf 44 = .ok (.aload_n 1, 1) := by decide +kernel
theorem dX3_flatsOf_45 : decode cX3_flatsOf 45 = .ok (.getfield 61, 3) := by decide +kernel
theorem dX3_flatsOf_48 : decode cX3_flatsOf 48 = .ok (.iload_n 3, 1) := by decide +kernel
theorem dX3_flatsOf_49 : decode cX3_flatsOf 49 = .ok (.invokestatic 83, 3) := by decide +kernel
theorem dX3_flatsOf_52 : decode cX3_flatsOf 52 = .ok (.iaload, 1) := by decide +kernel
theorem dX3_flatsOf_53 : decode cX3_flatsOf 53 = .ok (.ifCond .le 9, 3) := by decide +kernel
theorem dX3_flatsOf_56 : decode cX3_flatsOf 56 = .ok (.iload_n 2, 1) := by decide +kernel
theorem dX3_flatsOf_57 : decode cX3_flatsOf 57 = .ok (.iconst 1, 1) := by decide +kernel
theorem dX3_flatsOf_58 : decode cX3_flatsOf 58 = .ok (.iload_n 3, 1) := by decide +kernel
theorem dX3_flatsOf_59 : decode cX3_flatsOf 59 = .ok (.ishl, 1) := by decide +kernel
theorem dX3_flatsOf_60 : decode cX3_flatsOf 60 = .ok (.ior, 1) := by decide +kernel
theorem dX3_flatsOf_61 : decode cX3_flatsOf 61 = .ok (.istore_n 2, 1) := by decide +kernel
theorem dX3_flatsOf_62 : decode cX3_flatsOf 62 = .ok (.iinc 3 1, 3) := by decide +kernel
theorem dX3_flatsOf_65 : decode cX3_flatsOf 65 = .ok (.goto (-61), 3) := by decide +kernel
theorem dX3_flatsOf_68 : decode cX3_flatsOf 68 = .ok (.iload_n 2, 1) := by decide +kernel
theorem dX3_flatsOf_69 : decode cX3_flatsOf 69 = .ok (.ireturn, 1) := by decide +kernel
theorem dX3_offOf_0 : decode cX3_offOf 0 = .ok (.aload_n 1, 1) := by decide +kernel
theorem dX3_offOf_1 : decode cX3_offOf 1 = .ok (.aload_n 0, 1) := by decide +kernel
theorem dX3_offOf_2 : decode cX3_offOf 2 = .ok (.getfield 18, 3) := by decide +kernel
theorem dX3_offOf_5 : decode cX3_offOf 5 = .ok (.iconst 0, 1) := by decide +kernel
theorem dX3_offOf_6 : decode cX3_offOf 6 = .ok (.iaload, 1) := by decide +kernel
theorem dX3_offOf_7 : decode cX3_offOf 7 = .ok (.invokevirtual 119, 3) := by decide +kernel
theorem dX3_offOf_10 : decode cX3_offOf 10 = .ok (.ireturn, 1) := by decide +kernel
theorem dX3_wobblersAt_0 : decode cX3_wobblersAt 0 = .ok (.iconst 0, 1) := by decide +kernel
theorem dX3_wobblersAt_1 : decode cX3_wobblersAt 1 = .ok (.istore_n 3, 1) := by decide +kernel
theorem dX3_wobblersAt_2 : decode cX3_wobblersAt 2 = .ok (.iconst 0, 1) := by decide +kernel
theorem dX3_wobblersAt_3 : decode cX3_wobblersAt 3 = .ok (.istore 4, 2) := by decide +kernel
theorem dX3_wobblersAt_5 : decode cX3_wobblersAt 5 = .ok (.iload 4, 2) := by decide +kernel
theorem dX3_wobblersAt_7 : decode cX3_wobblersAt 7 = .ok (.aload_n 0, 1) := by decide +kernel
theorem dX3_wobblersAt_8 : decode cX3_wobblersAt 8 = .ok (.getfield 44, 3) := by decide +kernel
theorem dX3_wobblersAt_11 : decode cX3_wobblersAt 11 = .ok (.if_icmp .ge 41, 3) := by decide +kernel
theorem dX3_wobblersAt_14 : decode cX3_wobblersAt 14 = .ok (.aload_n 0, 1) := by decide +kernel
theorem dX3_wobblersAt_15 : decode cX3_wobblersAt 15 = .ok (.getfield 27, 3) := by decide +kernel
theorem dX3_wobblersAt_18 : decode cX3_wobblersAt 18 = .ok (.iload 4, 2) := by decide +kernel
theorem dX3_wobblersAt_20 : decode cX3_wobblersAt 20 = .ok (.aaload, 1) := by decide +kernel
theorem dX3_wobblersAt_21 : decode cX3_wobblersAt 21 = .ok (.getfield 61, 3) := by decide +kernel
theorem dX3_wobblersAt_24 : decode cX3_wobblersAt 24 = .ok (.iload_n 1, 1) := by decide +kernel
theorem dX3_wobblersAt_25 : decode cX3_wobblersAt 25 = .ok (.if_icmp .ne 21, 3) := by decide +kernel
theorem dX3_wobblersAt_28 : decode cX3_wobblersAt 28 = .ok (.aload_n 0, 1) := by decide +kernel
theorem dX3_wobblersAt_29 : decode cX3_wobblersAt 29 = .ok (.getfield 27, 3) := by decide +kernel
theorem dX3_wobblersAt_32 : decode cX3_wobblersAt 32 = .ok (.iload 4, 2) := by decide +kernel
theorem dX3_wobblersAt_34 : decode cX3_wobblersAt 34 = .ok (.aaload, 1) := by decide +kernel
theorem dX3_wobblersAt_35 : decode cX3_wobblersAt 35 = .ok (.iload_n 2, 1) := by decide +kernel
theorem dX3_wobblersAt_36 : decode cX3_wobblersAt 36 = .ok (.invokevirtual 122, 3) := by decide +kernel
theorem dX3_wobblersAt_39 : decode cX3_wobblersAt 39 = .ok (.iconst 4, 1) := by decide +kernel
theorem dX3_wobblersAt_40 : decode cX3_wobblersAt 40 = .ok (.if_icmp .lt 6, 3) := by decide +kernel
theorem dX3_wobblersAt_43 : decode cX3_wobblersAt 43 = .ok (.iinc 3 1, 3) := by decide +kernel
theorem dX3_wobblersAt_46 : decode cX3_wobblersAt 46 = .ok (.iinc 4 1, 3) := by decide +kernel
theorem dX3_wobblersAt_49 : decode cX3_wobblersAt 49 = .ok (.goto (-44), 3) := by decide +kernel
theorem dX3_wobblersAt_52 : decode cX3_wobblersAt 52 = .ok (.iload_n 3, 1) := by decide +kernel
theorem dX3_wobblersAt_53 : decode cX3_wobblersAt 53 = .ok (.ireturn, 1) := by decide +kernel
theorem dX3_shareOf_0 : decode cX3_shareOf 0 = .ok (.iconst 0, 1) := by decide +kernel
theorem dX3_shareOf_1 : decode cX3_shareOf 1 = .ok (.iload_n 2, 1) := by decide +kernel
theorem dX3_shareOf_2 : decode cX3_shareOf 2 = .ok (.invokestatic 83, 3) := by decide +kernel
theorem dX3_shareOf_5 : decode cX3_shareOf 5 = .ok (.istore_n 3, 1) := by decide +kernel
theorem dX3_shareOf_6 : decode cX3_shareOf 6 = .ok (.iconst 1, 1) := by decide +kernel
theorem dX3_shareOf_7 : decode cX3_shareOf 7 = .ok (.iload_n 2, 1) := by decide +kernel
theorem dX3_shareOf_8 : decode cX3_shareOf 8 = .ok (.invokestatic 83, 3) := by decide +kernel
theorem dX3_shareOf_11 : decode cX3_shareOf 11 = .ok (.istore 4, 2) := by decide +kernel
theorem dX3_shareOf_13 : decode cX3_shareOf 13 = .ok (.iload_n 1, 1) := by decide +kernel
theorem dX3_shareOf_14 : decode cX3_shareOf 14 = .ok (.ifCond .ne 39, 3) := by decide +kernel
theorem dX3_shareOf_17 : decode cX3_shareOf 17 = .ok (.aload_n 0, 1) := by decide +kernel
theorem dX3_shareOf_18 : decode cX3_shareOf 18 = .ok (.iconst 0, 1) := by decide +kernel
theorem dX3_shareOf_19 : decode cX3_shareOf 19 = .ok (.iload_n 2, 1) := by decide +kernel
theorem dX3_shareOf_20 : decode cX3_shareOf 20 = .ok (.invokevirtual 125, 3) := by decide +kernel
theorem dX3_shareOf_23 : decode cX3_shareOf 23 = .ok (.istore 5, 2) := by decide +kernel
theorem dX3_shareOf_25 : decode cX3_shareOf 25 = .ok (.aload_n 0, 1) := by decide +kernel
theorem dX3_shareOf_26 : decode cX3_shareOf 26 = .ok (.iconst 1, 1) := by decide +kernel
theorem dX3_shareOf_27 : decode cX3_shareOf 27 = .ok (.iload_n 2, 1) := by decide +kernel
theorem dX3_shareOf_28 : decode cX3_shareOf 28 = .ok (.invokevirtual 125, 3) := by decide +kernel
theorem dX3_shareOf_31 : decode cX3_shareOf 31 = .ok (.istore 6, 2) := by decide +kernel
theorem dX3_shareOf_33 : decode cX3_shareOf 33 = .ok (.iload 5, 2) := by decide +kernel
theorem dX3_shareOf_35 : decode cX3_shareOf 35 = .ok (.ifCond .le 16, 3) := by decide +kernel
theorem dX3_shareOf_38 : decode cX3_shareOf 38 = .ok (.iload 6, 2) := by decide +kernel
theorem dX3_shareOf_40 : decode cX3_shareOf 40 = .ok (.ifCond .le 11, 3) := by decide +kernel
theorem dX3_shareOf_43 : decode cX3_shareOf 43 = .ok (.iload 5, 2) := by decide +kernel
theorem dX3_shareOf_45 : decode cX3_shareOf 45 = .ok (.iload 6, 2) := by decide +kernel
theorem dX3_shareOf_47 : decode cX3_shareOf 47 = .ok (.iadd, 1) := by decide +kernel
theorem dX3_shareOf_48 : decode cX3_shareOf 48 = .ok (.goto 4, 3) := by decide +kernel
theorem dX3_shareOf_51 : decode cX3_shareOf 51 = .ok (.iconst 0, 1) := by decide +kernel
theorem dX3_shareOf_52 : decode cX3_shareOf 52 = .ok (.ireturn, 1) := by decide +kernel
theorem dX3_shareOf_53 : decode cX3_shareOf 53 = .ok (.iload_n 1, 1) := by decide +kernel
theorem dX3_shareOf_54 : decode cX3_shareOf 54 = .ok (.iconst 1, 1) := by decide +kernel
theorem dX3_shareOf_55 : decode cX3_shareOf 55 = .ok (.if_icmp .ne 20, 3) := by decide +kernel
theorem dX3_shareOf_58 : decode cX3_shareOf 58 = .ok (.iconst 3, 1) := by decide +kernel
theorem dX3_shareOf_59 : decode cX3_shareOf 59 = .ok (.aload_n 0, 1) := by decide +kernel
theorem dX3_shareOf_60 : decode cX3_shareOf 60 = .ok (.getfield 9, 3) := by decide +kernel
theorem dX3_shareOf_63 : decode cX3_shareOf 63 = .ok (.iload_n 3, 1) := by decide +kernel
theorem dX3_shareOf_64 : decode cX3_shareOf 64 = .ok (.iaload, 1) := by decide +kernel
theorem dX3_shareOf_65 : decode cX3_shareOf 65 = .ok (.aload_n 0, 1) := by decide +kernel
theorem dX3_shareOf_66 : decode cX3_shareOf 66 = .ok (.getfield 9, 3) := by decide +kernel
theorem dX3_shareOf_69 : decode cX3_shareOf 69 = .ok (.iload 4, 2) := by decide +kernel
theorem dX3_shareOf_71 : decode cX3_shareOf 71 = .ok (.iaload, 1) := by decide +kernel
theorem dX3_shareOf_72 : decode cX3_shareOf 72 = .ok (.iadd, 1) := by decide +kernel
theorem dX3_shareOf_73 : decode cX3_shareOf 73 = .ok (.imul, 1) := by decide +kernel
theorem dX3_shareOf_74 : decode cX3_shareOf 74 = .ok (.ireturn, 1) := by decide +kernel
theorem dX3_shareOf_75 : decode cX3_shareOf 75 = .ok (.aload_n 0, 1) := by decide +kernel
theorem dX3_shareOf_76 : decode cX3_shareOf 76 = .ok (.getfield 15, 3) := by decide +kernel
theorem dX3_shareOf_79 : decode cX3_shareOf 79 = .ok (.iload_n 3, 1) := by decide +kernel
theorem dX3_shareOf_80 : decode cX3_shareOf 80 = .ok (.iaload, 1) := by decide +kernel
theorem dX3_shareOf_81 : decode cX3_shareOf 81 = .ok (.ifCond .le 7, 3) := by decide +kernel
theorem dX3_shareOf_84 : decode cX3_shareOf 84 = .ok (.iconst 2, 1) := by decide +kernel
theorem dX3_shareOf_85 : decode cX3_shareOf 85 = .ok (.goto 4, 3) := by decide +kernel
theorem dX3_shareOf_88 : decode cX3_shareOf 88 = .ok (.iconst 0, 1) := by decide +kernel
theorem dX3_shareOf_89 : decode cX3_shareOf 89 = .ok (.aload_n 0, 1) := by decide +kernel
theorem dX3_shareOf_90 : decode cX3_shareOf 90 = .ok (.getfield 15, 3) := by decide +kernel
theorem dX3_shareOf_93 : decode cX3_shareOf 93 = .ok (.iload 4, 2) := by decide +kernel
theorem dX3_shareOf_95 : decode cX3_shareOf 95 = .ok (.iaload, 1) := by decide +kernel
theorem dX3_shareOf_96 : decode cX3_shareOf 96 = .ok (.ifCond .le 7, 3) := by decide +kernel
theorem dX3_shareOf_99 : decode cX3_shareOf 99 = .ok (.iconst 2, 1) := by decide +kernel
theorem dX3_shareOf_100 : decode cX3_shareOf 100 = .ok (.goto 4, 3) := by decide +kernel
theorem dX3_shareOf_103 : decode cX3_shareOf 103 = .ok (.iconst 0, 1) := by decide +kernel
theorem dX3_shareOf_104 : decode cX3_shareOf 104 = .ok (.iadd, 1) := by decide +kernel
theorem dX3_shareOf_105 : decode cX3_shareOf 105 = .ok (.ireturn, 1) := by decide +kernel
theorem dX3_spreadAt_0 : decode cX3_spreadAt 0 = .ok (.sipush 999, 3) := by decide +kernel
theorem dX3_spreadAt_3 : decode cX3_spreadAt 3 = .ok (.istore_n 3, 1) := by decide +kernel
theorem dX3_spreadAt_4 : decode cX3_spreadAt 4 = .ok (.bipush (-9), 2) := by decide +kernel
theorem dX3_spreadAt_6 : decode cX3_spreadAt 6 = .ok (.istore 4, 2) := by decide +kernel
theorem dX3_spreadAt_8 : decode cX3_spreadAt 8 = .ok (.iconst 0, 1) := by decide +kernel
theorem dX3_spreadAt_9 : decode cX3_spreadAt 9 = .ok (.istore 5, 2) := by decide +kernel
theorem dX3_spreadAt_11 : decode cX3_spreadAt 11 = .ok (.iload 5, 2) := by decide +kernel
theorem dX3_spreadAt_13 : decode cX3_spreadAt 13 = .ok (.aload_n 0, 1) := by decide +kernel
theorem dX3_spreadAt_14 : decode cX3_spreadAt 14 = .ok (.getfield 44, 3) := by decide +kernel
theorem dX3_spreadAt_17 : decode cX3_spreadAt 17 = .ok (.if_icmp .ge 59, 3) := by decide +kernel
theorem dX3_spreadAt_20 : decode cX3_spreadAt 20 = .ok (.aload_n 0, 1) := by decide +kernel
theorem dX3_spreadAt_21 : decode cX3_spreadAt 21 = .ok (.getfield 27, 3) := by decide +kernel
theorem dX3_spreadAt_24 : decode cX3_spreadAt 24 = .ok (.iload 5, 2) := by decide +kernel
theorem dX3_spreadAt_26 : decode cX3_spreadAt 26 = .ok (.aaload, 1) := by decide +kernel
theorem dX3_spreadAt_27 : decode cX3_spreadAt 27 = .ok (.getfield 61, 3) := by decide +kernel
theorem dX3_spreadAt_30 : decode cX3_spreadAt 30 = .ok (.iload_n 1, 1) := by decide +kernel
theorem dX3_spreadAt_31 : decode cX3_spreadAt 31 = .ok (.if_icmp .ne 39, 3) := by decide +kernel
theorem dX3_spreadAt_34 : decode cX3_spreadAt 34 = .ok (.iload_n 3, 1) := by decide +kernel
theorem dX3_spreadAt_35 : decode cX3_spreadAt 35 = .ok (.aload_n 0, 1) := by decide +kernel
theorem dX3_spreadAt_36 : decode cX3_spreadAt 36 = .ok (.getfield 27, 3) := by decide +kernel
theorem dX3_spreadAt_39 : decode cX3_spreadAt 39 = .ok (.iload 5, 2) := by decide +kernel
theorem dX3_spreadAt_41 : decode cX3_spreadAt 41 = .ok (.aaload, 1) := by decide +kernel
theorem dX3_spreadAt_42 : decode cX3_spreadAt 42 = .ok (.getfield 96, 3) := by decide +kernel
theorem dX3_spreadAt_45 : decode cX3_spreadAt 45 = .ok (.iload_n 2, 1) := by decide +kernel
theorem dX3_spreadAt_46 : decode cX3_spreadAt 46 = .ok (.iaload, 1) := by decide +kernel
theorem dX3_spreadAt_47 : decode cX3_spreadAt 47 = .ok (.invokestatic 55, 3) := by decide +kernel
theorem dX3_spreadAt_50 : decode cX3_spreadAt 50 = .ok (.istore_n 3, 1) := by decide +kernel
theorem dX3_spreadAt_51 : decode cX3_spreadAt 51 = .ok (.iload 4, 2) := by decide +kernel
theorem dX3_spreadAt_53 : decode cX3_spreadAt 53 = .ok (.aload_n 0, 1) := by decide +kernel
theorem dX3_spreadAt_54 : decode cX3_spreadAt 54 = .ok (.getfield 27, 3) := by decide +kernel
theorem dX3_spreadAt_57 : decode cX3_spreadAt 57 = .ok (.iload 5, 2) := by decide +kernel
theorem dX3_spreadAt_59 : decode cX3_spreadAt 59 = .ok (.aaload, 1) := by decide +kernel
theorem dX3_spreadAt_60 : decode cX3_spreadAt 60 = .ok (.getfield 96, 3) := by decide +kernel
theorem dX3_spreadAt_63 : decode cX3_spreadAt 63 = .ok (.iload_n 2, 1) := by decide +kernel
theorem dX3_spreadAt_64 : decode cX3_spreadAt 64 = .ok (.iaload, 1) := by decide +kernel
theorem dX3_spreadAt_65 : decode cX3_spreadAt 65 = .ok (.invokestatic 86, 3) := by decide +kernel
theorem dX3_spreadAt_68 : decode cX3_spreadAt 68 = .ok (.istore 4, 2) := by decide +kernel
theorem dX3_spreadAt_70 : decode cX3_spreadAt 70 = .ok (.iinc 5 1, 3) := by decide +kernel
theorem dX3_spreadAt_73 : decode cX3_spreadAt 73 = .ok (.goto (-62), 3) := by decide +kernel
theorem dX3_spreadAt_76 : decode cX3_spreadAt 76 = .ok (.iload 4, 2) := by decide +kernel
theorem dX3_spreadAt_78 : decode cX3_spreadAt 78 = .ok (.bipush (-9), 2) := by decide +kernel
theorem dX3_spreadAt_80 : decode cX3_spreadAt 80 = .ok (.if_icmp .ne 8, 3) := by decide +kernel
theorem dX3_spreadAt_83 : decode cX3_spreadAt 83 = .ok (.bipush (-9), 2) := by decide +kernel
theorem dX3_spreadAt_85 : decode cX3_spreadAt 85 = .ok (.goto 7, 3) := by decide +kernel
theorem dX3_spreadAt_88 : decode cX3_spreadAt 88 = .ok (.iload 4, 2) := by decide +kernel
theorem dX3_spreadAt_90 : decode cX3_spreadAt 90 = .ok (.iload_n 3, 1) := by decide +kernel
theorem dX3_spreadAt_91 : decode cX3_spreadAt 91 = .ok (.isub, 1) := by decide +kernel
theorem dX3_spreadAt_92 : decode cX3_spreadAt 92 = .ok (.ireturn, 1) := by decide +kernel
theorem dX3_tracesOf_0 : decode cX3_tracesOf 0 = .ok (.iconst 0, 1) := by decide +kernel
theorem dX3_tracesOf_1 : decode cX3_tracesOf 1 = .ok (.istore_n 2, 1) := by decide +kernel
theorem dX3_tracesOf_2 : decode cX3_tracesOf 2 = .ok (.iconst 0, 1) := by decide +kernel
theorem dX3_tracesOf_3 : decode cX3_tracesOf 3 = .ok (.istore_n 3, 1) := by decide +kernel
theorem dX3_tracesOf_4 : decode cX3_tracesOf 4 = .ok (.iload_n 3, 1) := by decide +kernel
theorem dX3_tracesOf_5 : decode cX3_tracesOf 5 = .ok (.aload_n 0, 1) := by decide +kernel
theorem dX3_tracesOf_6 : decode cX3_tracesOf 6 = .ok (.getfield 44, 3) := by decide +kernel
theorem dX3_tracesOf_9 : decode cX3_tracesOf 9 = .ok (.if_icmp .ge 25, 3) := by decide +kernel
theorem dX3_tracesOf_12 : decode cX3_tracesOf 12 = .ok (.aload_n 0, 1) := by decide +kernel
theorem dX3_tracesOf_13 : decode cX3_tracesOf 13 = .ok (.getfield 27, 3) := by decide +kernel
theorem dX3_tracesOf_16 : decode cX3_tracesOf 16 = .ok (.iload_n 3, 1) := by decide +kernel
theorem dX3_tracesOf_17 : decode cX3_tracesOf 17 = .ok (.aaload, 1) := by decide +kernel
theorem dX3_tracesOf_18 : decode cX3_tracesOf 18 = .ok (.getfield 61, 3) := by decide +kernel
theorem dX3_tracesOf_21 : decode cX3_tracesOf 21 = .ok (.iload_n 1, 1) := by decide +kernel
theorem dX3_tracesOf_22 : decode cX3_tracesOf 22 = .ok (.if_icmp .ne 6, 3) := by decide +kernel
theorem dX3_tracesOf_25 : decode cX3_tracesOf 25 = .ok (.iinc 2 1, 3) := by decide +kernel
theorem dX3_tracesOf_28 : decode cX3_tracesOf 28 = .ok (.iinc 3 1, 3) := by decide +kernel
theorem dX3_tracesOf_31 : decode cX3_tracesOf 31 = .ok (.goto (-27), 3) := by decide +kernel
theorem dX3_tracesOf_34 : decode cX3_tracesOf 34 = .ok (.iload_n 2, 1) := by decide +kernel
theorem dX3_tracesOf_35 : decode cX3_tracesOf 35 = .ok (.ireturn, 1) := by decide +kernel
