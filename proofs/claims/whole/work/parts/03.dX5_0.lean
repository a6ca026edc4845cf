theorem dX5_init_0 : decode cX5_init 0 = .ok (.aload_n 0, 1) := by decide +kernel
theorem dX5_init_1 : decode cX5_init 1 = .ok (.invokespecial 1, 3) := by decide +kernel
theorem dX5_init_4 : decode cX5_init 4 = .ok (.aload_n 0, 1) := by decide +kernel
theorem dX5_init_5 : decode cX5_init 5 = .ok (.new 7, 3) := by decide +kernel
theorem dX5_init_8 : decode cX5_init 8 = .ok (.dup, 1) := by decide +kernel
theorem dX5_init_9 : decode cX5_init 9 = .ok (.invokespecial 9, 3) := by decide +kernel
theorem dX5_init_12 : decode cX5_init 12 = .ok (.putfield 10, 3) := by decide +kernel
theorem dX5_init_15 : decode cX5_init 15 = .ok (.aload_n 0, 1) := by decide +kernel
theorem dX5_init_16 : decode cX5_init 16 = .ok (.new 7, 3) := by decide +kernel
theorem dX5_init_19 : decode cX5_init 19 = .ok (.dup, 1) := by decide +kernel
theorem dX5_init_20 : decode cX5_init 20 = .ok (.invokespecial 9, 3) := by decide +kernel
theorem dX5_init_23 : decode cX5_init 23 = .ok (.putfield 16, 3) := by decide +kernel
theorem dX5_init_26 : decode cX5_init 26 = .ok (.aload_n 0, 1) := by decide +kernel
theorem dX5_init_27 : decode cX5_init 27 = .ok (.new 19, 3) := by decide +kernel
theorem dX5_init_30 : decode cX5_init 30 = .ok (.dup, 1) := by decide +kernel
theorem dX5_init_31 : decode cX5_init 31 = .ok (.aload_n 0, 1) := by decide +kernel
theorem dX5_init_32 : decode cX5_init 32 = .ok (.getfield 10, 3) := by decide +kernel
theorem dX5_init_35 : decode cX5_init 35 = .ok (.invokespecial 21, 3) := by decide +kernel
theorem dX5_init_38 : decode cX5_init 38 = .ok (.putfield 24, 3) := by decide +kernel
theorem dX5_init_41 : decode cX5_init 41 = .ok (.aload_n 0, 1) := by decide +kernel
theorem dX5_init_42 : decode cX5_init 42 = .ok (.new 28, 3) := by decide +kernel
theorem dX5_init_45 : decode cX5_init 45 = .ok (.dup, 1) := by decide +kernel
theorem dX5_init_46 : decode cX5_init 46 = .ok (.aload_n 0, 1) := by decide +kernel
theorem dX5_init_47 : decode cX5_init 47 = .ok (.getfield 10, 3) := by decide +kernel
theorem dX5_init_50 : decode cX5_init 50 = .ok (.invokespecial 30, 3) := by decide +kernel
theorem dX5_init_53 : decode cX5_init 53 = .ok (.putfield 31, 3) := by decide +kernel
theorem dX5_init_56 : decode cX5_init 56 = .ok (.aload_n 0, 1) := by decide +kernel
theorem dX5_init_57 : decode cX5_init 57 = .ok (.new 35, 3) := by decide +kernel
theorem dX5_init_60 : decode cX5_init 60 = .ok (.dup, 1) := by decide +kernel
theorem dX5_init_61 : decode cX5_init 61 = .ok (.invokespecial 37, 3) := by decide +kernel
theorem dX5_init_64 : decode cX5_init 64 = .ok (.putfield 38, 3) := by decide +kernel
theorem dX5_init_67 : decode cX5_init 67 = .ok (.aload_n 0, 1) := by decide +kernel
theorem dX5_init_68 : decode cX5_init 68 = .ok (.bipush 12, 2) := by decide +kernel
theorem dX5_init_70 : decode cX5_init 70 = .ok (.newarray .int, 2) := by decide +kernel
theorem dX5_init_72 : decode cX5_init 72 = .ok (.putfield 42, 3) := by decide +kernel
theorem dX5_init_75 : decode cX5_init 75 = .ok (.aload_n 0, 1) := by decide +kernel
theorem dX5_init_76 : decode cX5_init 76 = .ok (.bipush 7, 2) := by decide +kernel
theorem dX5_init_78 : decode cX5_init 78 = .ok (.newarray .int, 2) := by decide +kernel
theorem dX5_init_80 : decode cX5_init 80 = .ok (.putfield 46, 3) := by decide +kernel
theorem dX5_init_83 : decode cX5_init 83 = .ok (.return_, 1) := by decide +kernel
theorem dX5_feed_0 : decode cX5_feed 0 = .ok (.iload_n 1, 1) := by decide +kernel
theorem dX5_feed_1 : decode cX5_feed 1 = .ok (.iconst 0, 1) := by decide +kernel
theorem dX5_feed_2 : decode cX5_feed 2 = .ok (.sipush 255, 3) := by decide +kernel
theorem dX5_feed_5 : decode cX5_feed 5 = .ok (.invokestatic 49, 3) := by decide +kernel
theorem dX5_feed_8 : decode cX5_feed 8 = .ok (.istore_n 2, 1) := by decide +kernel
theorem dX5_feed_9 : decode cX5_feed 9 = .ok (.iload_n 2, 1) := by decide +kernel
theorem dX5_feed_10 : decode cX5_feed 10 = .ok (.ifCond .ne 18, 3) := by decide +kernel
theorem dX5_feed_13 : decode cX5_feed 13 = .ok (.aload_n 0, 1) := by decide +kernel
theorem dX5_feed_14 : decode cX5_feed 14 = .ok (.getfield 38, 3) := by decide +kernel
theorem dX5_feed_17 : decode cX5_feed 17 = .ok (.getfield 53, 3) := by decide +kernel
theorem dX5_feed_20 : decode cX5_feed 20 = .ok (.bipush 96, 2) := by decide +kernel
theorem dX5_feed_22 : decode cX5_feed 22 = .ok (.if_icmp .lt 6, 3) := by decide +kernel
theorem dX5_feed_25 : decode cX5_feed 25 = .ok (.bipush (-6), 2) := by decide +kernel
theorem dX5_feed_27 : decode cX5_feed 27 = .ok (.istore_n 2, 1) := by decide +kernel
theorem dX5_feed_28 : decode cX5_feed 28 = .ok (.iload_n 2, 1) := by decide +kernel
theorem dX5_feed_29 : decode cX5_feed 29 = .ok (.ifCond .eq 9, 3) := by decide +kernel
theorem dX5_feed_32 : decode cX5_feed 32 = .ok (.aload_n 0, 1) := by decide +kernel
theorem dX5_feed_33 : decode cX5_feed 33 = .ok (.iload_n 2, 1) := by decide +kernel
theorem dX5_feed_34 : decode cX5_feed 34 = .ok (.invokevirtual 57, 3) := by decide +kernel
theorem dX5_feed_37 : decode cX5_feed 37 = .ok (.ireturn, 1) := by decide +kernel
theorem dX5_feed_38 : decode cX5_feed 38 = .ok (.aload_n 0, 1) := by decide +kernel
theorem dX5_feed_39 : decode cX5_feed 39 = .ok (.getfield 38, 3) := by decide +kernel
theorem dX5_feed_42 : decode cX5_feed 42 = .ok (.iload_n 1, 1) := by decide +kernel
theorem dX5_feed_43 : decode cX5_feed 43 = .ok (.invokevirtual 61, 3) := by decide +kernel
theorem dX5_feed_46 : decode cX5_feed 46 = .ok (.aload_n 0, 1) := by decide +kernel
theorem dX5_feed_47 : decode cX5_feed 47 = .ok (.getfield 38, 3) := by decide +kernel
theorem dX5_feed_50 : decode cX5_feed 50 = .ok (.getfield 53, 3) := by decide +kernel
theorem dX5_feed_53 : decode cX5_feed 53 = .ok (.ireturn, 1) := by decide +kernel
theorem dX5_rink_0 : decode cX5_rink 0 = .ok (.aload_n 0, 1) := by decide +kernel
theorem dX5_rink_1 : decode cX5_rink 1 = .ok (.getfield 38, 3) := by decide +kernel
theorem dX5_rink_4 : decode cX5_rink 4 = .ok (.aload_n 0, 1) := by decide +kernel
theorem dX5_rink_5 : decode cX5_rink 5 = .ok (.getfield 10, 3) := by decide +kernel
theorem dX5_rink_8 : decode cX5_rink 8 = .ok (.invokevirtual 65, 3) := by decide +kernel
theorem dX5_rink_11 : decode cX5_rink 11 = .ok (.ireturn, 1) := by decide +kernel
theorem dX5_ice_0 : decode cX5_ice 0 = .ok (.iload_n 1, 1) := by decide +kernel
theorem dX5_ice_1 : decode cX5_ice 1 = .ok (.iload_n 2, 1) := by decide +kernel
theorem dX5_ice_2 : decode cX5_ice 2 = .ok (.invokestatic 69, 3) := by decide +kernel
theorem dX5_ice_5 : decode cX5_ice 5 = .ok (.ifCond .ne 9, 3) := by decide +kernel
theorem dX5_ice_8 : decode cX5_ice 8 = .ok (.aload_n 0, 1) := by decide +kernel
theorem dX5_ice_9 : decode cX5_ice 9 = .ok (.iconst (-1), 1) := by decide +kernel
theorem dX5_ice_10 : decode cX5_ice 10 = .ok (.invokevirtual 57, 3) := by decide +kernel
theorem dX5_ice_13 : decode cX5_ice 13 = .ok (.ireturn, 1) := by decide +kernel
theorem dX5_ice_14 : decode cX5_ice 14 = .ok (.iload_n 3, 1) := by decide +kernel
theorem dX5_ice_15 : decode cX5_ice 15 = .ok (.iconst 0, 1) := by decide +kernel
theorem dX5_ice_16 : decode cX5_ice 16 = .ok (.iconst 1, 1) := by decide +kernel
theorem dX5_ice_17 : decode cX5_ice 17 = .ok (.invokestatic 73, 3) := by decide +kernel
theorem dX5_ice_20 : decode cX5_ice 20 = .ok (.ifCond .ne 10, 3) := by decide +kernel
theorem dX5_ice_23 : decode cX5_ice 23 = .ok (.aload_n 0, 1) := by decide +kernel
theorem dX5_ice_24 : decode cX5_ice 24 = .ok (.bipush (-2), 2) := by decide +kernel
theorem dX5_ice_26 : decode cX5_ice 26 = .ok (.invokevirtual 57, 3) := by decide +kernel
theorem dX5_ice_29 : decode cX5_ice 29 = .ok (.ireturn, 1) := by decide +kernel
theorem dX5_ice_30 : decode cX5_ice 30 = .ok (.iload_n 3, 1) := by decide +kernel
theorem dX5_ice_31 : decode cX5_ice 31 = .ok (.ifCond .ne 19, 3) := by decide +kernel
theorem dX5_ice_34 : decode cX5_ice 34 = .ok (.aload_n 0, 1) := by decide +kernel
theorem dX5_ice_35 : decode cX5_ice 35 = .ok (.getfield 10, 3) := by decide +kernel
theorem dX5_ice_38 : decode cX5_ice 38 = .ok (.getfield 77, 3) := by decide +kernel
theorem dX5_ice_41 : decode cX5_ice 41 = .ok (.iload_n 1, 1) := by decide +kernel
theorem dX5_ice_42 : decode cX5_ice 42 = .ok (.iload_n 2, 1) := by decide +kernel
theorem dX5_ice_43 : decode cX5_ice 43 = .ok (.invokestatic 80, 3) := by decide +kernel
theorem dX5_ice_46 : decode cX5_ice 46 = .ok (.iaload, 1) := by decide +kernel
theorem dX5_ice_47 : decode cX5_ice 47 = .ok (.goto 16, 3) := by decide +kernel
theorem dX5_ice_50 : decode cX5_ice 50 = .ok (.aload_n 0, 1) := by decide +kernel
theorem dX5_ice_51 : decode cX5_ice 51 = .ok (.getfield 10, 3) := by decide +kernel
theorem dX5_ice_54 : decode cX5_ice 54 = .ok (.getfield 84, 3) := by decide +kernel
theorem dX5_ice_57 : decode cX5_ice 57 = .ok (.iload_n 1, 1) := by decide +kernel
theorem dX5_ice_58 : decode cX5_ice 58 = .ok (.iload_n 2, 1) := by decide +kernel
theorem dX5_ice_59 : decode cX5_ice 59 = .ok (.invokestatic 80, 3) := by decide +kernel
theorem dX5_ice_62 : decode cX5_ice 62 = .ok (.iaload, 1) := by decide +kernel
theorem dX5_ice_63 : decode cX5_ice 63 = .ok (.ireturn, 1) := by decide +kernel
theorem dX5_lay_0 : decode cX5_lay 0 = .ok (.iload_n 1, 1) := by decide +kernel
theorem dX5_lay_1 : decode cX5_lay 1 = .ok (.iload_n 2, 1) := by decide +kernel
theorem dX5_lay_2 : decode cX5_lay 2 = .ok (.invokestatic 69, 3) := by decide +kernel
theorem dX5_lay_5 : decode cX5_lay 5 = .ok (.ifCond .ne 9, 3) := by decide +kernel
theorem dX5_lay_8 : decode cX5_lay 8 = .ok (.aload_n 0, 1) := by decide +kernel
theorem dX5_lay_9 : decode cX5_lay 9 = .ok (.iconst (-1), 1) := by decide +kernel
theorem dX5_lay_10 : decode cX5_lay 10 = .ok (.invokevirtual 57, 3) := by decide +kernel
theorem dX5_lay_13 : decode cX5_lay 13 = .ok (.ireturn, 1) := by decide +kernel
theorem dX5_lay_14 : decode cX5_lay 14 = .ok (.iload_n 3, 1) := by decide +kernel
theorem dX5_lay_15 : decode cX5_lay 15 = .ok (.iconst 0, 1) := by decide +kernel
theorem dX5_lay_16 : decode cX5_lay 16 = .ok (.iconst 1, 1) := by decide +kernel
theorem dX5_lay_17 : decode cX5_lay 17 = .ok (.invokestatic 73, 3) := by decide +kernel
theorem dX5_lay_20 : decode cX5_lay 20 = .ok (.ifCond .ne 10, 3) := by decide +kernel
theorem dX5_lay_23 : decode cX5_lay 23 = .ok (.aload_n 0, 1) := by decide +kernel
theorem dX5_lay_24 : decode cX5_lay 24 = .ok (.bipush (-2), 2) := by decide +kernel
theorem dX5_lay_26 : decode cX5_lay 26 = .ok (.invokevirtual 57, 3) := by decide +kernel
theorem dX5_lay_29 : decode cX5_lay 29 = .ok (.ireturn, 1) := by decide +kernel
theorem dX5_lay_30 : decode cX5_lay 30 = .ok (.iload 4, 2) := by decide +kernel
theorem dX5_lay_32 : decode cX5_lay 32 = .ok (.iconst 0, 1) := by decide +kernel
theorem dX5_lay_33 : decode cX5_lay 33 = .ok (.iload_n 3, 1) := by decide +kernel
theorem dX5_lay_34 : decode cX5_lay 34 = .ok (.ifCond .ne 7, 3) := by decide +kernel
theorem dX5_lay_37 : decode cX5_lay 37 = .ok (.iconst 3, 1) := by decide +kernel
theorem dX5_lay_38 : decode cX5_lay 38 = .ok (.goto 5, 3) := by decide +kernel
theorem dX5_lay_41 : decode cX5_lay 41 = .ok (.bipush 99, 2) := by decide +kernel
theorem dX5_lay_43 : decode cX5_lay 43 = .ok (.invokestatic 49, 3) := by decide +kernel
theorem dX5_lay_46 : decode cX5_lay 46 = .ok (.istore 5, 2) := by decide +kernel
theorem dX5_lay_48 : decode cX5_lay 48 = .ok (.iload 5, 2) := by decide +kernel
theorem dX5_lay_50 : decode cX5_lay 50 = .ok (.ifCond .eq 10, 3) := by decide +kernel
theorem dX5_lay_53 : decode cX5_lay 53 = .ok (.aload_n 0, 1) := by decide +kernel
theorem dX5_lay_54 : decode cX5_lay 54 = .ok (.iload 5, 2) := by decide +kernel
theorem dX5_lay_56 : decode cX5_lay 56 = .ok (.invokevirtual 57, 3) := by decide +kernel
theorem dX5_lay_59 : decode cX5_lay 59 = .ok (.ireturn, 1) := by decide +kernel
theorem dX5_lay_60 : decode cX5_lay 60 = .ok (.iload_n 3, 1) := by decide +kernel
theorem dX5_lay_61 : decode cX5_lay 61 = .ok (.ifCond .ne 13, 3) := by decide +kernel
theorem dX5_lay_64 : decode cX5_lay 64 = .ok (.aload_n 0, 1) := by decide +kernel
theorem dX5_lay_65 : decode cX5_lay 65 = .ok (.getfield 10, 3) := by decide +kernel
theorem dX5_lay_68 : decode cX5_lay 68 = .ok (.getfield 77, 3) := by decide +kernel
theorem dX5_lay_71 : decode cX5_lay 71 = .ok (.goto 10, 3) := by decide +kernel
theorem dX5_lay_74 : decode cX5_lay 74 = .ok (.aload_n 0, 1) := by decide +kernel
theorem dX5_lay_75 : decode cX5_lay 75 = .ok (.getfield 10, 3) := by decide +kernel
theorem dX5_lay_78 : decode cX5_lay 78 = .ok (.getfield 84, 3) := by decide +kernel
theorem dX5_lay_81 : decode cX5_lay 81 = .ok (.astore 6, 2) := by decide +kernel
theorem dX5_lay_83 : decode cX5_lay 83 = .ok (.aload 6, 2) := by decide +kernel
theorem dX5_lay_85 : decode cX5_lay 85 = .ok (.iload_n 1, 1) := by decide +kernel
theorem dX5_lay_86 : decode cX5_lay 86 = .ok (.iload_n 2, 1) := by decide +kernel
theorem dX5_lay_87 : decode cX5_lay 87 = .ok (.invokestatic 80, 3) := by decide +kernel
theorem dX5_lay_90 : decode cX5_lay 90 = .ok (.iaload, 1) := by decide +kernel
theorem dX5_lay_91 : decode cX5_lay 91 = .ok (.istore 7, 2) := by decide +kernel
theorem dX5_lay_93 : decode cX5_lay 93 = .ok (.aload 6, 2) := by decide +kernel
theorem dX5_lay_95 : decode cX5_lay 95 = .ok (.iload_n 1, 1) := by decide +kernel
theorem dX5_lay_96 : decode cX5_lay 96 = .ok (.iload_n 2, 1) := by decide +kernel
theorem dX5_lay_97 : decode cX5_lay 97 = .ok (.invokestatic 80, 3) := by decide +kernel
theorem dX5_lay_100 : decode cX5_lay 100 = .ok (.iload 4, 2) := by decide +kernel
theorem dX5_lay_102 : decode cX5_lay 102 = .ok (.iastore, 1) := by decide +kernel
theorem dX5_lay_103 : decode cX5_lay 103 = .ok (.iload 7, 2) := by decide +kernel
theorem dX5_lay_105 : decode cX5_lay 105 = .ok (.ireturn, 1) := by decide +kernel
theorem dX5_set_0 : decode cX5_set 0 = .ok (.iload_n 1, 1) := by decide +kernel
theorem dX5_set_1 : decode cX5_set 1 = .ok (.iconst 0, 1) := by decide +kernel
theorem dX5_set_2 : decode cX5_set 2 = .ok (.iconst 4, 1) := by decide +kernel
theorem dX5_set_3 : decode cX5_set 3 = .ok (.invokestatic 73, 3) := by decide +kernel
theorem dX5_set_6 : decode cX5_set 6 = .ok (.ifCond .ne 9, 3) := by decide +kernel
theorem dX5_set_9 : decode cX5_set 9 = .ok (.aload_n 0, 1) := by decide +kernel
theorem dX5_set_10 : decode cX5_set 10 = .ok (.iconst (-1), 1) := by decide +kernel
theorem dX5_set_11 : decode cX5_set 11 = .ok (.invokevirtual 57, 3) := by decide +kernel
theorem dX5_set_14 : decode cX5_set 14 = .ok (.ireturn, 1) := by decide +kernel
theorem dX5_set_15 : decode cX5_set 15 = .ok (.iload_n 2, 1) := by decide +kernel
theorem dX5_set_16 : decode cX5_set 16 = .ok (.getstatic 87, 3) := by decide +kernel
theorem dX5_set_19 : decode cX5_set 19 = .ok (.iload_n 1, 1) := by decide +kernel
theorem dX5_set_20 : decode cX5_set 20 = .ok (.iaload, 1) := by decide +kernel
theorem dX5_set_21 : decode cX5_set 21 = .ok (.getstatic 90, 3) := by decide +kernel
theorem dX5_set_24 : decode cX5_set 24 = .ok (.iload_n 1, 1) := by decide +kernel
theorem dX5_set_25 : decode cX5_set 25 = .ok (.iaload, 1) := by decide +kernel
theorem dX5_set_26 : decode cX5_set 26 = .ok (.invokestatic 49, 3) := by decide +kernel
theorem dX5_set_29 : decode cX5_set 29 = .ok (.istore_n 3, 1) := by decide +kernel
theorem dX5_set_30 : decode cX5_set 30 = .ok (.iload_n 3, 1) := by decide +kernel
theorem dX5_set_31 : decode cX5_set 31 = .ok (.ifCond .eq 9, 3) := by decide +kernel
theorem dX5_set_34 : decode cX5_set 34 = .ok (.aload_n 0, 1) := by decide +kernel
theorem dX5_set_35 : decode cX5_set 35 = .ok (.iload_n 3, 1) := by decide +kernel
theorem dX5_set_36 : decode cX5_set 36 = .ok (.invokevirtual 57, 3) := by decide +kernel
theorem dX5_set_39 : decode cX5_set 39 = .ok (.ireturn, 1) := by decide +kernel
theorem dX5_set_40 : decode cX5_set 40 = .ok (.aload_n 0, 1) := by decide +kernel
theorem dX5_set_41 : decode cX5_set 41 = .ok (.getfield 10, 3) := by decide +kernel
theorem dX5_set_44 : decode cX5_set 44 = .ok (.getfield 93, 3) := by decide +kernel
theorem dX5_set_47 : decode cX5_set 47 = .ok (.iload_n 1, 1) := by decide +kernel
theorem dX5_set_48 : decode cX5_set 48 = .ok (.iaload, 1) := by decide +kernel
theorem dX5_set_49 : decode cX5_set 49 = .ok (.istore 4, 2) := by decide +kernel
theorem dX5_set_51 : decode cX5_set 51 = .ok (.aload_n 0, 1) := by decide +kernel
theorem dX5_set_52 : decode cX5_set 52 = .ok (.getfield 10, 3) := by decide +kernel
theorem dX5_set_55 : decode cX5_set 55 = .ok (.getfield 93, 3) := by decide +kernel
theorem dX5_set_58 : decode cX5_set 58 = .ok (.iload_n 1, 1) := by decide +kernel
theorem dX5_set_59 : decode cX5_set 59 = .ok (.iload_n 2, 1) := by decide +kernel
theorem dX5_set_60 : decode cX5_set 60 = .ok (.iastore, 1) := by decide +kernel
theorem dX5_set_61 : decode cX5_set 61 = .ok (.iload 4, 2) := by decide +kernel
theorem dX5_set_63 : decode cX5_set 63 = .ok (.ireturn, 1) := by decide +kernel
theorem dX5_skater_0 : decode cX5_skater 0 = .ok (.iload_n 1, 1) := by decide +kernel
theorem dX5_skater_1 : decode cX5_skater 1 = .ok (.iconst 0, 1) := by decide +kernel
theorem dX5_skater_2 : decode cX5_skater 2 = .ok (.bipush 6, 2) := by decide +kernel
theorem dX5_skater_4 : decode cX5_skater 4 = .ok (.invokestatic 73, 3) := by decide +kernel
theorem dX5_skater_7 : decode cX5_skater 7 = .ok (.ifCond .ne 10, 3) := by decide +kernel
theorem dX5_skater_10 : decode cX5_skater 10 = .ok (.aload_n 0, 1) := by decide +kernel
theorem dX5_skater_11 : decode cX5_skater 11 = .ok (.bipush (-2), 2) := by decide +kernel
theorem dX5_skater_13 : decode cX5_skater 13 = .ok (.invokevirtual 57, 3) := by decide +kernel
theorem dX5_skater_16 : decode cX5_skater 16 = .ok (.ireturn, 1) := by decide +kernel
theorem dX5_skater_17 : decode cX5_skater 17 = .ok (.iload_n 2, 1) := by decide +kernel
theorem dX5_skater_18 : decode cX5_skater 18 = .ok (.iconst 0, 1) := by decide +kernel
theorem dX5_skater_19 : decode cX5_skater 19 = .ok (.bipush 9, 2) := by decide +kernel
theorem dX5_skater_21 : decode cX5_skater 21 = .ok (.invokestatic 49, 3) := by decide +kernel
theorem dX5_skater_24 : decode cX5_skater 24 = .ok (.istore_n 3, 1) := by decide +kernel
theorem dX5_skater_25 : decode cX5_skater 25 = .ok (.iload_n 3, 1) := by decide +kernel
theorem dX5_skater_26 : decode cX5_skater 26 = .ok (.ifCond .eq 9, 3) := by decide +kernel
theorem dX5_skater_29 : decode cX5_skater 29 = .ok (.aload_n 0, 1) := by decide +kernel
theorem dX5_skater_30 : decode cX5_skater 30 = .ok (.iload_n 3, 1) := by decide +kernel
theorem dX5_skater_31 : decode cX5_skater 31 = .ok (.invokevirtual 57, 3) := by decide +kernel
theorem dX5_skater_34 : decode cX5_skater 34 = .ok (.ireturn, 1) := by decide +kernel
theorem dX5_skater_35 : decode cX5_skater 35 = .ok (.bipush 10, 2) := by decide +kernel
theorem dX5_skater_37 : decode cX5_skater 37 = .ok (.aload_n 0, 1) := by decide +kernel
theorem dX5_skater_38 : decode cX5_skater 38 = .ok (.getfield 10, 3) := by decide +kernel
theorem dX5_skater_41 : decode cX5_skater 41 = .ok (.getfield 96, 3) := by decide +kernel
theorem dX5_skater_44 : decode cX5_skater 44 = .ok (.imul, 1) := by decide +kernel
theorem dX5_skater_45 : decode cX5_skater 45 = .ok (.aload_n 0, 1) := by decide +kernel
theorem dX5_skater_46 : decode cX5_skater 46 = .ok (.getfield 10, 3) := by decide +kernel
theorem dX5_skater_49 : decode cX5_skater 49 = .ok (.getfield 99, 3) := by decide +kernel
theorem dX5_skater_52 : decode cX5_skater 52 = .ok (.iadd, 1) := by decide +kernel
theorem dX5_skater_53 : decode cX5_skater 53 = .ok (.istore 4, 2) := by decide +kernel
theorem dX5_skater_55 : decode cX5_skater 55 = .ok (.aload_n 0, 1) := by decide +kernel
theorem dX5_skater_56 : decode cX5_skater 56 = .ok (.getfield 10, 3) := by decide +kernel
theorem dX5_skater_59 : decode cX5_skater 59 = .ok (.iload_n 1, 1) := by decide +kernel
theorem dX5_skater_60 : decode cX5_skater 60 = .ok (.putfield 96, 3) := by decide +kernel
theorem dX5_skater_63 : decode cX5_skater 63 = .ok (.aload_n 0, 1) := by decide +kernel
theorem dX5_skater_64 : decode cX5_skater 64 = .ok (.getfield 10, 3) := by decide +kernel
theorem dX5_skater_67 : decode cX5_skater 67 = .ok (.iload_n 2, 1) := by decide +kernel
theorem dX5_skater_68 : decode cX5_skater 68 = .ok (.putfield 99, 3) := by decide +kernel
theorem dX5_skater_71 : decode cX5_skater 71 = .ok (.iload 4, 2) := by decide +kernel
theorem dX5_skater_73 : decode cX5_skater 73 = .ok (.ireturn, 1) := by decide +kernel
theorem dX5_draw_0 : decode cX5_draw 0 = .ok (.iload_n 1, 1) := by decide +kernel
theorem dX5_draw_1 : decode cX5_draw 1 = .ok (.iload_n 2, 1) := by decide +kernel
theorem dX5_draw_2 : decode cX5_draw 2 = .ok (.iload_n 3, 1) := by decide +kernel
theorem dX5_draw_3 : decode cX5_draw 3 = .ok (.invokestatic 102, 3) := by decide +kernel
theorem dX5_draw_6 : decode cX5_draw 6 = .ok (.istore 4, 2) := by decide +kernel
theorem dX5_draw_8 : decode cX5_draw 8 = .ok (.iload 4, 2) := by decide +kernel
theorem dX5_draw_10 : decode cX5_draw 10 = .ok (.ifCond .ne 19, 3) := by decide +kernel
theorem dX5_draw_13 : decode cX5_draw 13 = .ok (.aload_n 0, 1) := by decide +kernel
theorem dX5_draw_14 : decode cX5_draw 14 = .ok (.getfield 10, 3) := by decide +kernel
theorem dX5_draw_17 : decode cX5_draw 17 = .ok (.getfield 105, 3) := by decide +kernel
theorem dX5_draw_20 : decode cX5_draw 20 = .ok (.bipush 6, 2) := by decide +kernel
theorem dX5_draw_22 : decode cX5_draw 22 = .ok (.if_icmp .lt 7, 3) := by decide +kernel
theorem dX5_draw_25 : decode cX5_draw 25 = .ok (.bipush (-6), 2) := by decide +kernel
theorem dX5_draw_27 : decode cX5_draw 27 = .ok (.istore 4, 2) := by decide +kernel
theorem dX5_draw_29 : decode cX5_draw 29 = .ok (.iload 4, 2) := by decide +kernel
theorem dX5_draw_31 : decode cX5_draw 31 = .ok (.ifCond .eq 12, 3) := by decide +kernel
theorem dX5_draw_34 : decode cX5_draw 34 = .ok (.aload_n 0, 1) := by decide +kernel
theorem dX5_draw_35 : decode cX5_draw 35 = .ok (.iload 4, 2) := by decide +kernel
theorem dX5_draw_37 : decode cX5_draw 37 = .ok (.invokevirtual 57, 3) := by decide +kernel
theorem dX5_draw_40 : decode cX5_draw 40 = .ok (.goto 13, 3) := by decide +kernel
theorem dX5_draw_43 : decode cX5_draw 43 = .ok (.aload_n 0, 1) := by decide +kernel
theorem dX5_draw_44 : decode cX5_draw 44 = .ok (.getfield 10, 3) := by decide +kernel
theorem dX5_draw_47 : decode cX5_draw 47 = .ok (.iload_n 1, 1) := by decide +kernel
theorem dX5_draw_48 : decode cX5_draw 48 = .ok (.iload_n 2, 1) := by decide +kernel
theorem dX5_draw_49 : decode cX5_draw 49 = .ok (.iload_n 3, 1) := by decide +kernel
theorem dX5_draw_50 : decode cX5_draw 50 = .ok (.invokevirtual 108, 3) := by decide +kernel
theorem dX5_draw_53 : decode cX5_draw 53 = .ok (.ireturn, 1) := by decide +kernel
theorem dX5_sweep_0 : decode cX5_sweep 0 = .ok (.aload_n 0, 1) := by decide +kernel
theorem dX5_sweep_1 : decode cX5_sweep 1 = .ok (.getfield 10, 3) := by decide +kernel
theorem dX5_sweep_4 : decode cX5_sweep 4 = .ok (.getfield 105, 3) := by decide +kernel
theorem dX5_sweep_7 : decode cX5_sweep 7 = .ok (.istore_n 1, 1) := by decide +kernel
theorem dX5_sweep_8 : decode cX5_sweep 8 = .ok (.aload_n 0, 1) := by decide +kernel
theorem dX5_sweep_9 : decode cX5_sweep 9 = .ok (.getfield 10, 3) := by decide +kernel
theorem dX5_sweep_12 : decode cX5_sweep 12 = .ok (.iconst 0, 1) := by decide +kernel
theorem dX5_sweep_13 : decode cX5_sweep 13 = .ok (.putfield 105, 3) := by decide +kernel
theorem dX5_sweep_16 : decode cX5_sweep 16 = .ok (.iload_n 1, 1) := by decide +kernel
theorem dX5_sweep_17 : decode cX5_sweep 17 = .ok (.ireturn, 1) := by decide +kernel
theorem dX5_trace_0 : decode cX5_trace 0 = .ok (.aload_n 0, 1) := by decide +kernel
theorem dX5_trace_1 : decode cX5_trace 1 = .ok (.getfield 10, 3) := by decide +kernel
theorem dX5_trace_4 : decode cX5_trace 4 = .ok (.iload_n 1, 1) := by decide +kernel
theorem dX5_trace_5 : decode cX5_trace 5 = .ok (.invokevirtual 111, 3) := by decide +kernel
theorem dX5_trace_8 : decode cX5_trace 8 = .ok (.ifCond .eq 10, 3) := by decide +kernel
theorem dX5_trace_11 : decode cX5_trace 11 = .ok (.iload_n 2, 1) := by decide +kernel
theorem dX5_trace_12 : decode cX5_trace 12 = .ok (.invokestatic 115, 3) := by decide +kernel
theorem dX5_trace_15 : decode cX5_trace 15 = .ok (.ifCond .ne 9, 3) := by decide +kernel
theorem dX5_trace_18 : decode cX5_trace 18 = .ok (.aload_n 0, 1) := by decide +kernel
theorem dX5_trace_19 : decode cX5_trace 19 = .ok (.iconst (-1), 1) := by decide +kernel
theorem dX5_trace_20 : decode cX5_trace 20 = .ok (.invokevirtual 57, 3) := by decide +kernel
theorem dX5_trace_23 : decode cX5_trace 23 = .ok (.ireturn, 1) := by decide +kernel
theorem dX5_trace_24 : decode cX5_trace 24 = .ok (.aload_n 0, 1) := by decide +kernel
theorem dX5_trace_25 : decode cX5_trace 25 = .ok (.getfield 10, 3) := by decide +kernel
theorem dX5_trace_28 : decode cX5_trace 28 = .ok (.getfield 118, 3) := by decide +kernel
theorem dX5_trace_31 : decode cX5_trace 31 = .ok (.iload_n 1, 1) := by decide +kernel
theorem dX5_trace_32 : decode cX5_trace 32 = .ok (.aaload, 1) := by decide +kernel
theorem dX5_trace_33 : decode cX5_trace 33 = .ok (.getfield 122, 3) := by decide +kernel
theorem dX5_trace_36 : decode cX5_trace 36 = .ok (.iload_n 2, 1) := by decide +kernel
theorem dX5_trace_37 : decode cX5_trace 37 = .ok (.iaload, 1) := by decide +kernel
theorem dX5_trace_38 : decode cX5_trace 38 = .ok (.ireturn, 1) := by decide +kernel
theorem dX5_of_0 : decode cX5_of 0 = .ok (.aload_n 0, 1) := by decide +kernel
theorem dX5_of_1 : decode cX5_of 1 = .ok (.getfield 10, 3) := by decide +kernel
theorem dX5_of_4 : decode cX5_of 4 = .ok (.iload_n 1, 1) := by decide +kernel
theorem dX5_of_5 : decode cX5_of 5 = .ok (.invokevirtual 111, 3) := by decide +kernel
theorem dX5_of_8 : decode cX5_of 8 = .ok (.ifCond .ne 9, 3) := by decide +kernel
theorem dX5_of_11 : decode cX5_of 11 = .ok (.aload_n 0, 1) := by decide +kernel
theorem dX5_of_12 : decode cX5_of 12 = .ok (.iconst (-1), 1) := by decide +kernel
theorem dX5_of_13 : decode cX5_of 13 = .ok (.invokevirtual 57, 3) := by decide +kernel
theorem dX5_of_16 : decode cX5_of 16 = .ok (.ireturn, 1) := by decide +kernel
theorem dX5_of_17 : decode cX5_of 17 = .ok (.aload_n 0, 1) := by decide +kernel
theorem dX5_of_18 : decode cX5_of 18 = .ok (.getfield 10, 3) := by decide +kernel
theorem dX5_of_21 : decode cX5_of 21 = .ok (.getfield 118, 3) := by decide +kernel
theorem dX5_of_24 : decode cX5_of 24 = .ok (.iload_n 1, 1) := by decide +kernel
theorem dX5_of_25 : decode cX5_of 25 = .ok (.aaload, 1) := by decide +kernel
theorem dX5_of_26 : decode cX5_of 26 = .ok (.astore_n 3, 1) := by decide +kernel
theorem dX5_of_27 : decode cX5_of 27 = .ok (.iload_n 2, 1) := by decide +kernel
theorem dX5_of_28 : decode cX5_of 28 = .ok (.tableswitch 109 0 8 #[52, 57, 62, 67, 72, 77, 86, 91, 100], 52) := by decide +kernel
theorem dX5_of_80 : decode cX5_of 80 = .ok (.aload_n 3, 1) := by decide +kernel
theorem dX5_of_81 : decode cX5_of 81 = .ok (.getfield 127, 3) := by decide +kernel
theorem dX5_of_84 : decode cX5_of 84 = .ok (.ireturn, 1) := by decide +kernel
theorem dX5_of_85 : decode cX5_of 85 = .ok (.aload_n 3, 1) := by decide +kernel
theorem dX5_of_86 : decode cX5_of 86 = .ok (.getfield 130, 3) := by decide +kernel
theorem dX5_of_89 : decode cX5_of 89 = .ok (.ireturn, 1) := by decide +kernel
theorem dX5_of_90 : decode cX5_of 90 = .ok (.aload_n 3, 1) := by decide +kernel
theorem dX5_of_91 : decode cX5_of 91 = .ok (.getfield 133, 3) := by decide +kernel
theorem dX5_of_94 : decode cX5_of 94 = .ok (.ireturn, 1) := by decide +kernel
theorem dX5_of_95 : decode cX5_of 95 = .ok (.aload_n 3, 1) := by decide +kernel
theorem dX5_of_96 : decode cX5_of 96 = .ok (.invokevirtual 136, 3) := by decide +kernel
theorem dX5_of_99 : decode cX5_of 99 = .ok (.ireturn, 1) := by decide +kernel
theorem dX5_of_100 : decode cX5_of 100 = .ok (.aload_n 3, 1) := by decide +kernel
theorem dX5_of_101 : decode cX5_of 101 = .ok (.invokevirtual 140, 3) := by decide +kernel
theorem dX5_of_104 : decode cX5_of 104 = .ok (.ireturn, 1) := by decide +kernel
theorem dX5_of_105 : decode cX5_of 105 = .ok (.aload_n 0, 1) := by decide +kernel
theorem dX5_of_106 : decode cX5_of 106 = .ok (.getfield 10, 3) := by decide +kernel
theorem dX5_of_109 : decode cX5_of 109 = .ok (.aload_n 3, 1) := by decide +kernel
theorem dX5_of_110 : decode cX5_of 110 = .ok (.invokevirtual 143, 3) := by decide +kernel
theorem dX5_of_113 : decode cX5_of 113 = .ok (.ireturn, 1) := by decide +kernel
theorem dX5_of_114 : decode cX5_of 114 = .ok (.aload_n 3, 1) := by decide +kernel
theorem dX5_of_115 : decode cX5_of 115 = .ok (.invokevirtual 147, 3) := by decide +kernel
theorem dX5_of_118 : decode cX5_of 118 = .ok (.ireturn, 1) := by decide +kernel
theorem dX5_of_119 : decode cX5_of 119 = .ok (.aload_n 3, 1) := by decide +kernel
theorem dX5_of_120 : decode cX5_of 120 = .ok (.aload_n 3, 1) := by decide +kernel
theorem dX5_of_121 : decode cX5_of 121 = .ok (.invokevirtual 147, 3) := by decide +kernel
theorem dX5_of_124 : decode cX5_of 124 = .ok (.invokevirtual 150, 3) := by decide +kernel
theorem dX5_of_127 : decode cX5_of 127 = .ok (.ireturn, 1) := by decide +kernel
theorem dX5_of_128 : decode cX5_of 128 = .ok (.aload_n 0, 1) := by decide +kernel
theorem dX5_of_129 : decode cX5_of 129 = .ok (.getfield 10, 3) := by decide +kernel
theorem dX5_of_132 : decode cX5_of 132 = .ok (.aload_n 3, 1) := by decide +kernel
theorem dX5_of_133 : decode cX5_of 133 = .ok (.invokevirtual 153, 3) := by decide +kernel
theorem dX5_of_136 : decode cX5_of 136 = .ok (.ireturn, 1) := by decide +kernel
theorem dX5_of_137 : decode cX5_of 137 = .ok (.aload_n 0, 1) := by decide +kernel
theorem dX5_of_138 : decode cX5_of 138 = .ok (.bipush (-2), 2) := by decide +kernel
theorem dX5_of_140 : decode cX5_of 140 = .ok (.invokevirtual 57, 3) := by decide +kernel
theorem dX5_of_143 : decode cX5_of 143 = .ok (.ireturn, 1) := by decide +kernel
theorem dX5_mean_0 : decode cX5_mean 0 = .ok (.aload_n 0, 1) := by decide +kernel
theorem dX5_mean_1 : decode cX5_mean 1 = .ok (.getfield 10, 3) := by decide +kernel
theorem dX5_mean_4 : decode cX5_mean 4 = .ok (.iload_n 1, 1) := by decide +kernel
theorem dX5_mean_5 : decode cX5_mean 5 = .ok (.invokevirtual 111, 3) := by decide +kernel
theorem dX5_mean_8 : decode cX5_mean 8 = .ok (.ifCond .ne 9, 3) := by decide +kernel
theorem dX5_mean_11 : decode cX5_mean 11 = .ok (.aload_n 0, 1) := by decide +kernel
theorem dX5_mean_12 : decode cX5_mean 12 = .ok (.iconst (-1), 1) := by decide +kernel
theorem dX5_mean_13 : decode cX5_mean 13 = .ok (.invokevirtual 156, 3) := by decide +kernel
theorem dX5_mean_16 : decode cX5_mean 16 = .ok (.lreturn, 1) := by decide +kernel
theorem dX5_mean_17 : decode cX5_mean 17 = .ok (.iload_n 2, 1) := by decide +kernel
theorem dX5_mean_18 : decode cX5_mean 18 = .ok (.iconst 0, 1) := by decide +kernel
theorem dX5_mean_19 : decode cX5_mean 19 = .ok (.iconst 1, 1) := by decide +kernel
theorem dX5_mean_20 : decode cX5_mean 20 = .ok (.invokestatic 73, 3) := by decide +kernel
theorem dX5_mean_23 : decode cX5_mean 23 = .ok (.ifCond .ne 10, 3) := by decide +kernel
theorem dX5_mean_26 : decode cX5_mean 26 = .ok (.aload_n 0, 1) := by decide +kernel
theorem dX5_mean_27 : decode cX5_mean 27 = .ok (.bipush (-2), 2) := by decide +kernel
theorem dX5_mean_29 : decode cX5_mean 29 = .ok (.invokevirtual 156, 3) := by decide +kernel
theorem dX5_mean_32 : decode cX5_mean 32 = .ok (.lreturn, 1) := by decide +kernel
theorem dX5_mean_33 : decode cX5_mean 33 = .ok (.aload_n 0, 1) := by decide +kernel
theorem dX5_mean_34 : decode cX5_mean 34 = .ok (.getfield 10, 3) := by decide +kernel
theorem dX5_mean_37 : decode cX5_mean 37 = .ok (.getfield 118, 3) := by decide +kernel
theorem dX5_mean_40 : decode cX5_mean 40 = .ok (.iload_n 1, 1) := by decide +kernel
theorem dX5_mean_41 : decode cX5_mean 41 = .ok (.aaload, 1) := by decide +kernel
theorem dX5_mean_42 : decode cX5_mean 42 = .ok (.invokevirtual 160, 3) := by decide +kernel
theorem dX5_mean_45 : decode cX5_mean 45 = .ok (.bipush 12, 2) := by decide +kernel
theorem dX5_mean_47 : decode cX5_mean 47 = .ok (.iload_n 2, 1) := by decide +kernel
theorem dX5_mean_48 : decode cX5_mean 48 = .ok (.invokestatic 163, 3) := by decide +kernel
theorem dX5_mean_51 : decode cX5_mean 51 = .ok (.lreturn, 1) := by decide +kernel
theorem dX5_close_0 : decode cX5_close 0 = .ok (.aload_n 0, 1) := by decide +kernel
theorem dX5_close_1 : decode cX5_close 1 = .ok (.getfield 10, 3) := by decide +kernel
theorem dX5_close_4 : decode cX5_close 4 = .ok (.iload_n 1, 1) := by decide +kernel
theorem dX5_close_5 : decode cX5_close 5 = .ok (.invokevirtual 111, 3) := by decide +kernel
theorem dX5_close_8 : decode cX5_close 8 = .ok (.ifCond .eq 14, 3) := by decide +kernel
theorem dX5_close_11 : decode cX5_close 11 = .ok (.aload_n 0, 1) := by decide +kernel
theorem dX5_close_12 : decode cX5_close 12 = .ok (.getfield 10, 3) := by decide +kernel
theorem dX5_close_15 : decode cX5_close 15 = .ok (.iload_n 2, 1) := by decide +kernel
theorem dX5_close_16 : decode cX5_close 16 = .ok (.invokevirtual 111, 3) := by decide +kernel
theorem dX5_close_19 : decode cX5_close 19 = .ok (.ifCond .ne 9, 3) := by decide +kernel
theorem dX5_close_22 : decode cX5_close 22 = .ok (.aload_n 0, 1) := by decide +kernel
theorem dX5_close_23 : decode cX5_close 23 = .ok (.iconst (-1), 1) := by decide +kernel
theorem dX5_close_24 : decode cX5_close 24 = .ok (.invokevirtual 57, 3) := by decide +kernel
theorem dX5_close_27 : decode cX5_close 27 = .ok (.ireturn, 1) := by decide +kernel
theorem dX5_close_28 : decode cX5_close 28 = .ok (.aload_n 0, 1) := by decide +kernel
theorem dX5_close_29 : decode cX5_close 29 = .ok (.getfield 10, 3) := by decide +kernel
theorem dX5_close_32 : decode cX5_close 32 = .ok (.getfield 118, 3) := by decide +kernel
theorem dX5_close_35 : decode cX5_close 35 = .ok (.iload_n 1, 1) := by decide +kernel
theorem dX5_close_36 : decode cX5_close 36 = .ok (.aaload, 1) := by decide +kernel
theorem dX5_close_37 : decode cX5_close 37 = .ok (.aload_n 0, 1) := by decide +kernel
theorem dX5_close_38 : decode cX5_close 38 = .ok (.getfield 10, 3) := by decide +kernel
theorem dX5_close_41 : decode cX5_close 41 = .ok (.getfield 118, 3) := by decide +kernel
theorem dX5_close_44 : decode cX5_close 44 = .ok (.iload_n 2, 1) := by decide +kernel
theorem dX5_close_45 : decode cX5_close 45 = .ok (.aaload, 1) := by decide +kernel
theorem dX5_close_46 : decode cX5_close 46 = .ok (.invokevirtual 167, 3) := by decide +kernel
theorem dX5_close_49 : decode cX5_close 49 = .ok (.ireturn, 1) := by decide +kernel
theorem dX5_spread_0 : decode cX5_spread 0 = .ok (.iload_n 1, 1) := by decide +kernel
theorem dX5_spread_1 : decode cX5_spread 1 = .ok (.invokestatic 170, 3) := by decide +kernel
theorem dX5_spread_4 : decode cX5_spread 4 = .ok (.ifCond .ne 9, 3) := by decide +kernel
theorem dX5_spread_7 : decode cX5_spread 7 = .ok (.aload_n 0, 1) := by decide +kernel
theorem dX5_spread_8 : decode cX5_spread 8 = .ok (.iconst (-1), 1) := by decide +kernel
theorem dX5_spread_9 : decode cX5_spread 9 = .ok (.invokevirtual 57, 3) := by decide +kernel
theorem dX5_spread_12 : decode cX5_spread 12 = .ok (.ireturn, 1) := by decide +kernel
theorem dX5_spread_13 : decode cX5_spread 13 = .ok (.aload_n 0, 1) := by decide +kernel
theorem dX5_spread_14 : decode cX5_spread 14 = .ok (.getfield 10, 3) := by decide +kernel
theorem dX5_spread_17 : decode cX5_spread 17 = .ok (.iload_n 1, 1) := by decide +kernel
theorem dX5_spread_18 : decode cX5_spread 18 = .ok (.invokevirtual 173, 3) := by decide +kernel
theorem dX5_spread_21 : decode cX5_spread 21 = .ok (.ifCond .ne 6, 3) := by decide +kernel
theorem dX5_spread_24 : decode cX5_spread 24 = .ok (.bipush (-9), 2) := by decide +kernel
theorem dX5_spread_26 : decode cX5_spread 26 = .ok (.ireturn, 1) := by decide +kernel
theorem dX5_spread_27 : decode cX5_spread 27 = .ok (.iconst 0, 1) := by decide +kernel
theorem dX5_spread_28 : decode cX5_spread 28 = .ok (.istore_n 2, 1) := by decide +kernel
theorem dX5_spread_29 : decode cX5_spread 29 = .ok (.iconst 0, 1) := by decide +kernel
theorem dX5_spread_30 : decode cX5_spread 30 = .ok (.istore_n 3, 1) := by decide +kernel
theorem dX5_spread_31 : decode cX5_spread 31 = .ok (.iload_n 3, 1) := by decide +kernel
theorem dX5_spread_32 : decode cX5_spread 32 = .ok (.bipush 12, 2) := by decide +kernel
theorem dX5_spread_34 : decode cX5_spread 34 = .ok (.if_icmp .ge 21, 3) := by decide +kernel
theorem dX5_spread_37 : decode cX5_spread 37 = .ok (.iload_n 2, 1) := by decide +kernel
theorem dX5_spread_38 : decode cX5_spread 38 = .ok (.aload_n 0, 1) := by decide +kernel
theorem dX5_spread_39 : decode cX5_spread 39 = .ok (.getfield 10, 3) := by decide +kernel
theorem dX5_spread_42 : decode cX5_spread 42 = .ok (.iload_n 1, 1) := by decide +kernel
theorem dX5_spread_43 : decode cX5_spread 43 = .ok (.iload_n 3, 1) := by decide +kernel
theorem dX5_spread_44 : decode cX5_spread 44 = .ok (.invokevirtual 176, 3) := by decide +kernel
theorem dX5_spread_47 : decode cX5_spread 47 = .ok (.iadd, 1) := by decide +kernel
theorem dX5_spread_48 : decode cX5_spread 48 = .ok (.istore_n 2, 1) := by decide +kernel
theorem dX5_spread_49 : decode cX5_spread 49 = .ok (.iinc 3 1, 3) := by decide +kernel
theorem dX5_spread_52 : decode cX5_spread 52 = .ok (.goto (-21), 3) := by decide +kernel
theorem dX5_spread_55 : decode cX5_spread 55 = .ok (.iload_n 2, 1) := by decide +kernel
theorem dX5_spread_56 : decode cX5_spread 56 = .ok (.ireturn, 1) := by decide +kernel
theorem dX5_next_0 : decode cX5_next 0 = .ok (.iload_n 1, 1) := by decide +kernel
theorem dX5_next_1 : decode cX5_next 1 = .ok (.invokestatic 170, 3) := by decide +kernel
theorem dX5_next_4 : decode cX5_next 4 = .ok (.ifCond .eq 17, 3) := by decide +kernel
theorem dX5_next_7 : decode cX5_next 7 = .ok (.iload 4, 2) := by decide +kernel
theorem dX5_next_9 : decode cX5_next 9 = .ok (.iconst (-1), 1) := by decide +kernel
theorem dX5_next_10 : decode cX5_next 10 = .ok (.if_icmp .eq 17, 3) := by decide +kernel
theorem dX5_next_13 : decode cX5_next 13 = .ok (.iload 4, 2) := by decide +kernel
theorem dX5_next_15 : decode cX5_next 15 = .ok (.invokestatic 115, 3) := by decide +kernel
theorem dX5_next_18 : decode cX5_next 18 = .ok (.ifCond .ne 9, 3) := by decide +kernel
theorem dX5_next_21 : decode cX5_next 21 = .ok (.aload_n 0, 1) := by decide +kernel
theorem dX5_next_22 : decode cX5_next 22 = .ok (.iconst (-1), 1) := by decide +kernel
theorem dX5_next_23 : decode cX5_next 23 = .ok (.invokevirtual 57, 3) := by decide +kernel
theorem dX5_next_26 : decode cX5_next 26 = .ok (.ireturn, 1) := by decide +kernel
theorem dX5_next_27 : decode cX5_next 27 = .ok (.iload_n 2, 1) := by decide +kernel
theorem dX5_next_28 : decode cX5_next 28 = .ok (.iload_n 3, 1) := by decide +kernel
theorem dX5_next_29 : decode cX5_next 29 = .ok (.invokestatic 179, 3) := by decide +kernel
theorem dX5_next_32 : decode cX5_next 32 = .ok (.istore 5, 2) := by decide +kernel
theorem dX5_next_34 : decode cX5_next 34 = .ok (.iload 5, 2) := by decide +kernel
theorem dX5_next_36 : decode cX5_next 36 = .ok (.ifCond .eq 10, 3) := by decide +kernel
theorem dX5_next_39 : decode cX5_next 39 = .ok (.aload_n 0, 1) := by decide +kernel
theorem dX5_next_40 : decode cX5_next 40 = .ok (.iload 5, 2) := by decide +kernel
theorem dX5_next_42 : decode cX5_next 42 = .ok (.invokevirtual 57, 3) := by decide +kernel
theorem dX5_next_45 : decode cX5_next 45 = .ok (.ireturn, 1) := by decide +kernel
theorem dX5_next_46 : decode cX5_next 46 = .ok (.aload_n 0, 1) := by decide +kernel
theorem dX5_next_47 : decode cX5_next 47 = .ok (.getfield 31, 3) := by decide +kernel
theorem dX5_next_50 : decode cX5_next 50 = .ok (.aload_n 0, 1) := by decide +kernel
theorem dX5_next_51 : decode cX5_next 51 = .ok (.getfield 10, 3) := by decide +kernel
theorem dX5_next_54 : decode cX5_next 54 = .ok (.getfield 96, 3) := by decide +kernel
theorem dX5_next_57 : decode cX5_next 57 = .ok (.iload_n 1, 1) := by decide +kernel
theorem dX5_next_58 : decode cX5_next 58 = .ok (.iload_n 2, 1) := by decide +kernel
theorem dX5_next_59 : decode cX5_next 59 = .ok (.iload_n 3, 1) := by decide +kernel
theorem dX5_next_60 : decode cX5_next 60 = .ok (.invokevirtual 182, 3) := by decide +kernel
theorem dX5_next_63 : decode cX5_next 63 = .ok (.astore 6, 2) := by decide +kernel
theorem dX5_next_65 : decode cX5_next 65 = .ok (.iload 4, 2) := by decide +kernel
theorem dX5_next_67 : decode cX5_next 67 = .ok (.iconst (-1), 1) := by decide +kernel
theorem dX5_next_68 : decode cX5_next 68 = .ok (.if_icmp .ne 15, 3) := by decide +kernel
theorem dX5_next_71 : decode cX5_next 71 = .ok (.aload_n 0, 1) := by decide +kernel
theorem dX5_next_72 : decode cX5_next 72 = .ok (.getfield 10, 3) := by decide +kernel
theorem dX5_next_75 : decode cX5_next 75 = .ok (.aload 6, 2) := by decide +kernel
theorem dX5_next_77 : decode cX5_next 77 = .ok (.invokevirtual 143, 3) := by decide +kernel
theorem dX5_next_80 : decode cX5_next 80 = .ok (.goto 11, 3) := by decide +kernel
theorem dX5_next_83 : decode cX5_next 83 = .ok (.aload 6, 2) := by decide +kernel
theorem dX5_next_85 : decode cX5_next 85 = .ok (.getfield 122, 3) := by decide +kernel
theorem dX5_next_88 : decode cX5_next 88 = .ok (.iload 4, 2) := by decide +kernel
theorem dX5_next_90 : decode cX5_next 90 = .ok (.iaload, 1) := by decide +kernel
theorem dX5_next_91 : decode cX5_next 91 = .ok (.ireturn, 1) := by decide +kernel
theorem dX5_grows_0 : decode cX5_grows 0 = .ok (.iload_n 2, 1) := by decide +kernel
theorem dX5_grows_1 : decode cX5_grows 1 = .ok (.iload_n 3, 1) := by decide +kernel
theorem dX5_grows_2 : decode cX5_grows 2 = .ok (.iload 5, 2) := by decide +kernel
theorem dX5_grows_4 : decode cX5_grows 4 = .ok (.invokestatic 186, 3) := by decide +kernel
theorem dX5_grows_7 : decode cX5_grows 7 = .ok (.istore 6, 2) := by decide +kernel
theorem dX5_grows_9 : decode cX5_grows 9 = .ok (.iload_n 1, 1) := by decide +kernel
theorem dX5_grows_10 : decode cX5_grows 10 = .ok (.invokestatic 170, 3) := by decide +kernel
theorem dX5_grows_13 : decode cX5_grows 13 = .ok (.ifCond .ne 9, 3) := by decide +kernel
theorem dX5_grows_16 : decode cX5_grows 16 = .ok (.iconst (-1), 1) := by decide +kernel
theorem dX5_grows_17 : decode cX5_grows 17 = .ok (.istore 6, 2) := by decide +kernel
theorem dX5_grows_19 : decode cX5_grows 19 = .ok (.goto 18, 3) := by decide +kernel
theorem dX5_grows_22 : decode cX5_grows 22 = .ok (.iload 4, 2) := by decide +kernel
theorem dX5_grows_24 : decode cX5_grows 24 = .ok (.iconst 0, 1) := by decide +kernel
theorem dX5_grows_25 : decode cX5_grows 25 = .ok (.bipush 6, 2) := by decide +kernel
theorem dX5_grows_27 : decode cX5_grows 27 = .ok (.invokestatic 73, 3) := by decide +kernel
theorem dX5_grows_30 : decode cX5_grows 30 = .ok (.ifCond .ne 7, 3) := by decide +kernel
theorem dX5_grows_33 : decode cX5_grows 33 = .ok (.bipush (-2), 2) := by decide +kernel
theorem dX5_grows_35 : decode cX5_grows 35 = .ok (.istore 6, 2) := by decide +kernel
theorem dX5_grows_37 : decode cX5_grows 37 = .ok (.iload 6, 2) := by decide +kernel
theorem dX5_grows_39 : decode cX5_grows 39 = .ok (.ifCond .eq 13, 3) := by decide +kernel
theorem dX5_grows_42 : decode cX5_grows 42 = .ok (.ldc 189, 2) := by decide +kernel
theorem dX5_grows_44 : decode cX5_grows 44 = .ok (.aload_n 0, 1) := by decide +kernel
theorem dX5_grows_45 : decode cX5_grows 45 = .ok (.iload 6, 2) := by decide +kernel
theorem dX5_grows_47 : decode cX5_grows 47 = .ok (.invokevirtual 57, 3) := by decide +kernel
theorem dX5_grows_50 : decode cX5_grows 50 = .ok (.isub, 1) := by decide +kernel
theorem dX5_grows_51 : decode cX5_grows 51 = .ok (.ireturn, 1) := by decide +kernel
theorem dX5_grows_52 : decode cX5_grows 52 = .ok (.aload_n 0, 1) := by decide +kernel
theorem dX5_grows_53 : decode cX5_grows 53 = .ok (.getfield 31, 3) := by decide +kernel
theorem dX5_grows_56 : decode cX5_grows 56 = .ok (.iload 4, 2) := by decide +kernel
theorem dX5_grows_58 : decode cX5_grows 58 = .ok (.iload_n 1, 1) := by decide +kernel
theorem dX5_grows_59 : decode cX5_grows 59 = .ok (.iload_n 2, 1) := by decide +kernel
theorem dX5_grows_60 : decode cX5_grows 60 = .ok (.iload_n 3, 1) := by decide +kernel
theorem dX5_grows_61 : decode cX5_grows 61 = .ok (.iload 5, 2) := by decide +kernel
theorem dX5_grows_63 : decode cX5_grows 63 = .ok (.invokevirtual 190, 3) := by decide +kernel
theorem dX5_grows_66 : decode cX5_grows 66 = .ok (.ireturn, 1) := by decide +kernel
theorem dX5_calm_0 : decode cX5_calm 0 = .ok (.iload_n 1, 1) := by decide +kernel
theorem dX5_calm_1 : decode cX5_calm 1 = .ok (.invokestatic 170, 3) := by decide +kernel
theorem dX5_calm_4 : decode cX5_calm 4 = .ok (.ifCond .eq 13, 3) := by decide +kernel
theorem dX5_calm_7 : decode cX5_calm 7 = .ok (.iload_n 2, 1) := by decide +kernel
theorem dX5_calm_8 : decode cX5_calm 8 = .ok (.iload_n 3, 1) := by decide +kernel
theorem dX5_calm_9 : decode cX5_calm 9 = .ok (.iload 4, 2) := by decide +kernel
theorem dX5_calm_11 : decode cX5_calm 11 = .ok (.invokestatic 186, 3) := by decide +kernel
theorem dX5_calm_14 : decode cX5_calm 14 = .ok (.goto 4, 3) := by decide +kernel
theorem dX5_calm_17 : decode cX5_calm 17 = .ok (.iconst (-1), 1) := by decide +kernel
theorem dX5_calm_18 : decode cX5_calm 18 = .ok (.istore 5, 2) := by decide +kernel
theorem dX5_calm_20 : decode cX5_calm 20 = .ok (.iload 5, 2) := by decide +kernel
theorem dX5_calm_22 : decode cX5_calm 22 = .ok (.ifCond .eq 10, 3) := by decide +kernel
theorem dX5_calm_25 : decode cX5_calm 25 = .ok (.aload_n 0, 1) := by decide +kernel
theorem dX5_calm_26 : decode cX5_calm 26 = .ok (.iload 5, 2) := by decide +kernel
theorem dX5_calm_28 : decode cX5_calm 28 = .ok (.invokevirtual 57, 3) := by decide +kernel
theorem dX5_calm_31 : decode cX5_calm 31 = .ok (.ireturn, 1) := by decide +kernel
theorem dX5_calm_32 : decode cX5_calm 32 = .ok (.iconst 0, 1) := by decide +kernel
theorem dX5_calm_33 : decode cX5_calm 33 = .ok (.istore 6, 2) := by decide +kernel
theorem dX5_calm_35 : decode cX5_calm 35 = .ok (.iconst 0, 1) := by decide +kernel
theorem dX5_calm_36 : decode cX5_calm 36 = .ok (.istore 7, 2) := by decide +kernel
theorem dX5_calm_38 : decode cX5_calm 38 = .ok (.iload 7, 2) := by decide +kernel
theorem dX5_calm_40 : decode cX5_calm 40 = .ok (.bipush 7, 2) := by decide +kernel
theorem dX5_calm_42 : decode cX5_calm 42 = .ok (.if_icmp .ge 35, 3) := by decide +kernel
theorem dX5_calm_45 : decode cX5_calm 45 = .ok (.aload_n 0, 1) := by decide +kernel
theorem dX5_calm_46 : decode cX5_calm 46 = .ok (.getfield 31, 3) := by decide +kernel
theorem dX5_calm_49 : decode cX5_calm 49 = .ok (.iload 7, 2) := by decide +kernel
theorem dX5_calm_51 : decode cX5_calm 51 = .ok (.iload_n 1, 1) := by decide +kernel
theorem dX5_calm_52 : decode cX5_calm 52 = .ok (.iload_n 2, 1) := by decide +kernel
theorem dX5_calm_53 : decode cX5_calm 53 = .ok (.iload_n 3, 1) := by decide +kernel
theorem dX5_calm_54 : decode cX5_calm 54 = .ok (.iload 4, 2) := by decide +kernel
theorem dX5_calm_56 : decode cX5_calm 56 = .ok (.invokevirtual 190, 3) := by decide +kernel
theorem dX5_calm_59 : decode cX5_calm 59 = .ok (.ifCond .gt 12, 3) := by decide +kernel
theorem dX5_calm_62 : decode cX5_calm 62 = .ok (.iload 6, 2) := by decide +kernel
theorem dX5_calm_64 : decode cX5_calm 64 = .ok (.iconst 1, 1) := by decide +kernel
theorem dX5_calm_65 : decode cX5_calm 65 = .ok (.iload 7, 2) := by decide +kernel
theorem dX5_calm_67 : decode cX5_calm 67 = .ok (.ishl, 1) := by decide +kernel
theorem dX5_calm_68 : decode cX5_calm 68 = .ok (.ior, 1) := by decide +kernel
theorem dX5_calm_69 : decode cX5_calm 69 = .ok (.istore 6, 2) := by decide +kernel
theorem dX5_calm_71 : decode cX5_calm 71 = .ok (.iinc 7 1, 3) := by decide +kernel
theorem dX5_calm_74 : decode cX5_calm 74 = .ok (.goto (-36), 3) := by decide +kernel
theorem dX5_calm_77 : decode cX5_calm 77 = .ok (.iload 6, 2) := by decide +kernel
theorem dX5_calm_79 : decode cX5_calm 79 = .ok (.ireturn, 1) := by decide +kernel
theorem dX5_closes_0 : decode cX5_closes 0 = .ok (.iload_n 1, 1) := by decide +kernel
theorem dX5_closes_1 : decode cX5_closes 1 = .ok (.invokestatic 170, 3) := by decide +kernel
theorem dX5_closes_4 : decode cX5_closes 4 = .ok (.ifCond .eq 14, 3) := by decide +kernel
theorem dX5_closes_7 : decode cX5_closes 7 = .ok (.aload_n 0, 1) := by decide +kernel
theorem dX5_closes_8 : decode cX5_closes 8 = .ok (.getfield 31, 3) := by decide +kernel
theorem dX5_closes_11 : decode cX5_closes 11 = .ok (.iload_n 1, 1) := by decide +kernel
theorem dX5_closes_12 : decode cX5_closes 12 = .ok (.invokevirtual 194, 3) := by decide +kernel
theorem dX5_closes_15 : decode cX5_closes 15 = .ok (.goto 8, 3) := by decide +kernel
theorem dX5_closes_18 : decode cX5_closes 18 = .ok (.aload_n 0, 1) := by decide +kernel
theorem dX5_closes_19 : decode cX5_closes 19 = .ok (.iconst (-1), 1) := by decide +kernel
theorem dX5_closes_20 : decode cX5_closes 20 = .ok (.invokevirtual 57, 3) := by decide +kernel
theorem dX5_closes_23 : decode cX5_closes 23 = .ok (.ireturn, 1) := by decide +kernel
theorem dX5_correct_0 : decode cX5_correct 0 = .ok (.iload_n 1, 1) := by decide +kernel
theorem dX5_correct_1 : decode cX5_correct 1 = .ok (.iload_n 2, 1) := by decide +kernel
theorem dX5_correct_2 : decode cX5_correct 2 = .ok (.iload_n 3, 1) := by decide +kernel
theorem dX5_correct_3 : decode cX5_correct 3 = .ok (.invokestatic 102, 3) := by decide +kernel
theorem dX5_correct_6 : decode cX5_correct 6 = .ok (.istore 4, 2) := by decide +kernel
theorem dX5_correct_8 : decode cX5_correct 8 = .ok (.iload 4, 2) := by decide +kernel
theorem dX5_correct_10 : decode cX5_correct 10 = .ok (.ifCond .eq 10, 3) := by decide +kernel
theorem dX5_correct_13 : decode cX5_correct 13 = .ok (.aload_n 0, 1) := by decide +kernel
theorem dX5_correct_14 : decode cX5_correct 14 = .ok (.iload 4, 2) := by decide +kernel
theorem dX5_correct_16 : decode cX5_correct 16 = .ok (.invokevirtual 57, 3) := by decide +kernel
theorem dX5_correct_19 : decode cX5_correct 19 = .ok (.ireturn, 1) := by decide +kernel
theorem dX5_correct_20 : decode cX5_correct 20 = .ok (.aload_n 0, 1) := by decide +kernel
theorem dX5_correct_21 : decode cX5_correct 21 = .ok (.getfield 31, 3) := by decide +kernel
theorem dX5_correct_24 : decode cX5_correct 24 = .ok (.iconst 2, 1) := by decide +kernel
theorem dX5_correct_25 : decode cX5_correct 25 = .ok (.iload_n 1, 1) := by decide +kernel
theorem dX5_correct_26 : decode cX5_correct 26 = .ok (.iload_n 2, 1) := by decide +kernel
theorem dX5_correct_27 : decode cX5_correct 27 = .ok (.iload_n 3, 1) := by decide +kernel
theorem dX5_correct_28 : decode cX5_correct 28 = .ok (.invokevirtual 197, 3) := by decide +kernel
theorem dX5_correct_31 : decode cX5_correct 31 = .ok (.istore 5, 2) := by decide +kernel
theorem dX5_correct_33 : decode cX5_correct 33 = .ok (.iload 5, 2) := by decide +kernel
theorem dX5_correct_35 : decode cX5_correct 35 = .ok (.aload_n 0, 1) := by decide +kernel
theorem dX5_correct_36 : decode cX5_correct 36 = .ok (.getfield 31, 3) := by decide +kernel
theorem dX5_correct_39 : decode cX5_correct 39 = .ok (.iconst 0, 1) := by decide +kernel
theorem dX5_correct_40 : decode cX5_correct 40 = .ok (.iload_n 1, 1) := by decide +kernel
theorem dX5_correct_41 : decode cX5_correct 41 = .ok (.iload_n 2, 1) := by decide +kernel
theorem dX5_correct_42 : decode cX5_correct 42 = .ok (.iload_n 3, 1) := by decide +kernel
theorem dX5_correct_43 : decode cX5_correct 43 = .ok (.invokevirtual 197, 3) := by decide +kernel
theorem dX5_correct_46 : decode cX5_correct 46 = .ok (.if_icmp .ge 7, 3) := by decide +kernel
theorem dX5_correct_49 : decode cX5_correct 49 = .ok (.iconst 1, 1) := by decide +kernel
theorem dX5_correct_50 : decode cX5_correct 50 = .ok (.goto 4, 3) := by decide +kernel
theorem dX5_correct_53 : decode cX5_correct 53 = .ok (.iconst 0, 1) := by decide +kernel
theorem dX5_correct_54 : decode cX5_correct 54 = .ok (.ireturn, 1) := by decide +kernel
theorem dX5_from_0 : decode cX5_from 0 = .ok (.iload_n 1, 1) := by decide +kernel
theorem dX5_from_1 : decode cX5_from 1 = .ok (.invokestatic 115, 3) := by decide +kernel
theorem dX5_from_4 : decode cX5_from 4 = .ok (.ifCond .ne 9, 3) := by decide +kernel
theorem dX5_from_7 : decode cX5_from 7 = .ok (.aload_n 0, 1) := by decide +kernel
theorem dX5_from_8 : decode cX5_from 8 = .ok (.iconst (-1), 1) := by decide +kernel
theorem dX5_from_9 : decode cX5_from 9 = .ok (.invokevirtual 156, 3) := by decide +kernel
theorem dX5_from_12 : decode cX5_from 12 = .ok (.lreturn, 1) := by decide +kernel
theorem dX5_from_13 : decode cX5_from 13 = .ok (.iload_n 2, 1) := by decide +kernel
theorem dX5_from_14 : decode cX5_from 14 = .ok (.iconst 0, 1) := by decide +kernel
theorem dX5_from_15 : decode cX5_from 15 = .ok (.iconst 2, 1) := by decide +kernel
theorem dX5_from_16 : decode cX5_from 16 = .ok (.invokestatic 73, 3) := by decide +kernel
theorem dX5_from_19 : decode cX5_from 19 = .ok (.ifCond .eq 12, 3) := by decide +kernel
theorem dX5_from_22 : decode cX5_from 22 = .ok (.iload_n 3, 1) := by decide +kernel
theorem dX5_from_23 : decode cX5_from 23 = .ok (.iconst 0, 1) := by decide +kernel
theorem dX5_from_24 : decode cX5_from 24 = .ok (.iconst 1, 1) := by decide +kernel
theorem dX5_from_25 : decode cX5_from 25 = .ok (.invokestatic 73, 3) := by decide +kernel
theorem dX5_from_28 : decode cX5_from 28 = .ok (.ifCond .ne 10, 3) := by decide +kernel
theorem dX5_from_31 : decode cX5_from 31 = .ok (.aload_n 0, 1) := by decide +kernel
theorem dX5_from_32 : decode cX5_from 32 = .ok (.bipush (-2), 2) := by decide +kernel
theorem dX5_from_34 : decode cX5_from 34 = .ok (.invokevirtual 156, 3) := by decide +kernel
theorem dX5_from_37 : decode cX5_from 37 = .ok (.lreturn, 1) := by decide +kernel
theorem dX5_from_38 : decode cX5_from 38 = .ok (.aload_n 0, 1) := by decide +kernel
theorem dX5_from_39 : decode cX5_from 39 = .ok (.getfield 10, 3) := by decide +kernel
theorem dX5_from_42 : decode cX5_from 42 = .ok (.iconst 0, 1) := by decide +kernel
theorem dX5_from_43 : decode cX5_from 43 = .ok (.iload_n 1, 1) := by decide +kernel
theorem dX5_from_44 : decode cX5_from 44 = .ok (.invokevirtual 201, 3) := by decide +kernel
theorem dX5_from_47 : decode cX5_from 47 = .ok (.aload_n 0, 1) := by decide +kernel
theorem dX5_from_48 : decode cX5_from 48 = .ok (.getfield 10, 3) := by decide +kernel
theorem dX5_from_51 : decode cX5_from 51 = .ok (.iconst 1, 1) := by decide +kernel
theorem dX5_from_52 : decode cX5_from 52 = .ok (.iload_n 1, 1) := by decide +kernel
theorem dX5_from_53 : decode cX5_from 53 = .ok (.invokevirtual 201, 3) := by decide +kernel
theorem dX5_from_56 : decode cX5_from 56 = .ok (.iadd, 1) := by decide +kernel
theorem dX5_from_57 : decode cX5_from 57 = .ok (.aload_n 0, 1) := by decide +kernel
theorem dX5_from_58 : decode cX5_from 58 = .ok (.getfield 10, 3) := by decide +kernel
theorem dX5_from_61 : decode cX5_from 61 = .ok (.iconst 2, 1) := by decide +kernel
theorem dX5_from_62 : decode cX5_from 62 = .ok (.iload_n 1, 1) := by decide +kernel
theorem dX5_from_63 : decode cX5_from 63 = .ok (.invokevirtual 201, 3) := by decide +kernel
theorem dX5_from_66 : decode cX5_from 66 = .ok (.iadd, 1) := by decide +kernel
theorem dX5_from_67 : decode cX5_from 67 = .ok (.istore 4, 2) := by decide +kernel
theorem dX5_from_69 : decode cX5_from 69 = .ok (.aload_n 0, 1) := by decide +kernel
theorem dX5_from_70 : decode cX5_from 70 = .ok (.getfield 10, 3) := by decide +kernel
theorem dX5_from_73 : decode cX5_from 73 = .ok (.iload_n 2, 1) := by decide +kernel
theorem dX5_from_74 : decode cX5_from 74 = .ok (.iload_n 1, 1) := by decide +kernel
theorem dX5_from_75 : decode cX5_from 75 = .ok (.invokevirtual 201, 3) := by decide +kernel
theorem dX5_from_78 : decode cX5_from 78 = .ok (.iload 4, 2) := by decide +kernel
theorem dX5_from_80 : decode cX5_from 80 = .ok (.iload_n 3, 1) := by decide +kernel
theorem dX5_from_81 : decode cX5_from 81 = .ok (.invokestatic 163, 3) := by decide +kernel
theorem dX5_from_84 : decode cX5_from 84 = .ok (.lreturn, 1) := by decide +kernel
theorem dX5_whose_0 : decode cX5_whose 0 = .ok (.iload_n 1, 1) := by decide +kernel
theorem dX5_whose_1 : decode cX5_whose 1 = .ok (.invokestatic 170, 3) := by decide +kernel
theorem dX5_whose_4 : decode cX5_whose 4 = .ok (.ifCond .ne 9, 3) := by decide +kernel
theorem dX5_whose_7 : decode cX5_whose 7 = .ok (.aload_n 0, 1) := by decide +kernel
theorem dX5_whose_8 : decode cX5_whose 8 = .ok (.iconst (-1), 1) := by decide +kernel
theorem dX5_whose_9 : decode cX5_whose 9 = .ok (.invokevirtual 57, 3) := by decide +kernel
theorem dX5_whose_12 : decode cX5_whose 12 = .ok (.ireturn, 1) := by decide +kernel
theorem dX5_whose_13 : decode cX5_whose 13 = .ok (.iload_n 2, 1) := by decide +kernel
theorem dX5_whose_14 : decode cX5_whose 14 = .ok (.iconst (-1), 1) := by decide +kernel
theorem dX5_whose_15 : decode cX5_whose 15 = .ok (.if_icmp .eq 20, 3) := by decide +kernel
theorem dX5_whose_18 : decode cX5_whose 18 = .ok (.iload_n 2, 1) := by decide +kernel
theorem dX5_whose_19 : decode cX5_whose 19 = .ok (.iconst 0, 1) := by decide +kernel
theorem dX5_whose_20 : decode cX5_whose 20 = .ok (.bipush 6, 2) := by decide +kernel
theorem dX5_whose_22 : decode cX5_whose 22 = .ok (.invokestatic 73, 3) := by decide +kernel
theorem dX5_whose_25 : decode cX5_whose 25 = .ok (.ifCond .ne 10, 3) := by decide +kernel
theorem dX5_whose_28 : decode cX5_whose 28 = .ok (.aload_n 0, 1) := by decide +kernel
theorem dX5_whose_29 : decode cX5_whose 29 = .ok (.bipush (-2), 2) := by decide +kernel
theorem dX5_whose_31 : decode cX5_whose 31 = .ok (.invokevirtual 57, 3) := by decide +kernel
theorem dX5_whose_34 : decode cX5_whose 34 = .ok (.ireturn, 1) := by decide +kernel
theorem dX5_whose_35 : decode cX5_whose 35 = .ok (.aload_n 0, 1) := by decide +kernel
theorem dX5_whose_36 : decode cX5_whose 36 = .ok (.getfield 204, 3) := by decide +kernel
theorem dX5_whose_39 : decode cX5_whose 39 = .ok (.bipush 12, 2) := by decide +kernel
theorem dX5_whose_41 : decode cX5_whose 41 = .ok (.if_icmp .eq 10, 3) := by decide +kernel
theorem dX5_whose_44 : decode cX5_whose 44 = .ok (.aload_n 0, 1) := by decide +kernel
theorem dX5_whose_45 : decode cX5_whose 45 = .ok (.bipush (-3), 2) := by decide +kernel
theorem dX5_whose_47 : decode cX5_whose 47 = .ok (.invokevirtual 57, 3) := by decide +kernel
theorem dX5_whose_50 : decode cX5_whose 50 = .ok (.ireturn, 1) := by decide +kernel
theorem dX5_whose_51 : decode cX5_whose 51 = .ok (.iload_n 2, 1) := by decide +kernel
theorem dX5_whose_52 : decode cX5_whose 52 = .ok (.iconst (-1), 1) := by decide +kernel
theorem dX5_whose_53 : decode cX5_whose 53 = .ok (.if_icmp .eq 17, 3) := by decide +kernel
theorem dX5_whose_56 : decode cX5_whose 56 = .ok (.aload_n 0, 1) := by decide +kernel
theorem dX5_whose_57 : decode cX5_whose 57 = .ok (.getfield 31, 3) := by decide +kernel
theorem dX5_whose_60 : decode cX5_whose 60 = .ok (.iload_n 2, 1) := by decide +kernel
theorem dX5_whose_61 : decode cX5_whose 61 = .ok (.iload_n 1, 1) := by decide +kernel
theorem dX5_whose_62 : decode cX5_whose 62 = .ok (.aload_n 0, 1) := by decide +kernel
theorem dX5_whose_63 : decode cX5_whose 63 = .ok (.getfield 42, 3) := by decide +kernel
theorem dX5_whose_66 : decode cX5_whose 66 = .ok (.invokevirtual 207, 3) := by decide +kernel
theorem dX5_whose_69 : decode cX5_whose 69 = .ok (.ireturn, 1) := by decide +kernel
theorem dX5_whose_70 : decode cX5_whose 70 = .ok (.iconst 0, 1) := by decide +kernel
theorem dX5_whose_71 : decode cX5_whose 71 = .ok (.istore_n 3, 1) := by decide +kernel
theorem dX5_whose_72 : decode cX5_whose 72 = .ok (.iconst 0, 1) := by decide +kernel
theorem dX5_whose_73 : decode cX5_whose 73 = .ok (.istore 4, 2) := by decide +kernel
theorem dX5_whose_75 : decode cX5_whose 75 = .ok (.iload 4, 2) := by decide +kernel
theorem dX5_whose_77 : decode cX5_whose 77 = .ok (.bipush 7, 2) := by decide +kernel
theorem dX5_whose_79 : decode cX5_whose 79 = .ok (.if_icmp .ge 35, 3) := by decide +kernel
theorem dX5_whose_82 : decode cX5_whose 82 = .ok (.aload_n 0, 1) := by decide +kernel
theorem dX5_whose_83 : decode cX5_whose 83 = .ok (.getfield 31, 3) := by decide +kernel
theorem dX5_whose_86 : decode cX5_whose 86 = .ok (.iload 4, 2) := by decide +kernel
theorem dX5_whose_88 : decode cX5_whose 88 = .ok (.iload_n 1, 1) := by decide +kernel
theorem dX5_whose_89 : decode cX5_whose 89 = .ok (.aload_n 0, 1) := by decide +kernel
theorem dX5_whose_90 : decode cX5_whose 90 = .ok (.getfield 42, 3) := by decide +kernel
theorem dX5_whose_93 : decode cX5_whose 93 = .ok (.invokevirtual 207, 3) := by decide +kernel
theorem dX5_whose_96 : decode cX5_whose 96 = .ok (.bipush (-9), 2) := by decide +kernel
theorem dX5_whose_98 : decode cX5_whose 98 = .ok (.if_icmp .eq 10, 3) := by decide +kernel
theorem dX5_whose_101 : decode cX5_whose 101 = .ok (.iload_n 3, 1) := by decide +kernel
theorem dX5_whose_102 : decode cX5_whose 102 = .ok (.iconst 1, 1) := by decide +kernel
theorem dX5_whose_103 : decode cX5_whose 103 = .ok (.iload 4, 2) := by decide +kernel
theorem dX5_whose_105 : decode cX5_whose 105 = .ok (.ishl, 1) := by decide +kernel
theorem dX5_whose_106 : decode cX5_whose 106 = .ok (.ior, 1) := by decide +kernel
theorem dX5_whose_107 : decode cX5_whose 107 = .ok (.istore_n 3, 1) := by decide +kernel
theorem dX5_whose_108 : decode cX5_whose 108 = .ok (.iinc 4 1, 3) := by decide +kernel
theorem dX5_whose_111 : decode cX5_whose 111 = .ok (.goto (-36), 3) := by decide +kernel
theorem dX5_whose_114 : decode cX5_whose 114 = .ok (.iload_n 3, 1) := by decide +kernel
theorem dX5_whose_115 : decode cX5_whose 115 = .ok (.ireturn, 1) := by decide +kernel
theorem dX5_mark_0 : decode cX5_mark 0 = .ok (.iload_n 1, 1) := by decide +kernel
theorem dX5_mark_1 : decode cX5_mark 1 = .ok (.iconst 0, 1) := by decide +kernel
theorem dX5_mark_2 : decode cX5_mark 2 = .ok (.iconst 4, 1) := by decide +kernel
theorem dX5_mark_3 : decode cX5_mark 3 = .ok (.invokestatic 73, 3) := by decide +kernel
theorem dX5_mark_6 : decode cX5_mark 6 = .ok (.ifCond .ne 10, 3) := by decide +kernel
theorem dX5_mark_9 : decode cX5_mark 9 = .ok (.aload_n 0, 1) := by decide +kernel
theorem dX5_mark_10 : decode cX5_mark 10 = .ok (.bipush (-2), 2) := by decide +kernel
theorem dX5_mark_12 : decode cX5_mark 12 = .ok (.invokevirtual 57, 3) := by decide +kernel
theorem dX5_mark_15 : decode cX5_mark 15 = .ok (.ireturn, 1) := by decide +kernel
theorem dX5_mark_16 : decode cX5_mark 16 = .ok (.aload_n 0, 1) := by decide +kernel
theorem dX5_mark_17 : decode cX5_mark 17 = .ok (.getfield 10, 3) := by decide +kernel
theorem dX5_mark_20 : decode cX5_mark 20 = .ok (.iload_n 2, 1) := by decide +kernel
theorem dX5_mark_21 : decode cX5_mark 21 = .ok (.invokevirtual 111, 3) := by decide +kernel
theorem dX5_mark_24 : decode cX5_mark 24 = .ok (.ifCond .eq 15, 3) := by decide +kernel
theorem dX5_mark_27 : decode cX5_mark 27 = .ok (.aload_n 0, 1) := by decide +kernel
theorem dX5_mark_28 : decode cX5_mark 28 = .ok (.getfield 24, 3) := by decide +kernel
theorem dX5_mark_31 : decode cX5_mark 31 = .ok (.iload_n 1, 1) := by decide +kernel
theorem dX5_mark_32 : decode cX5_mark 32 = .ok (.iload_n 2, 1) := by decide +kernel
theorem dX5_mark_33 : decode cX5_mark 33 = .ok (.invokevirtual 211, 3) := by decide +kernel
theorem dX5_mark_36 : decode cX5_mark 36 = .ok (.goto 8, 3) := by decide +kernel
theorem dX5_mark_39 : decode cX5_mark 39 = .ok (.aload_n 0, 1) := by decide +kernel
theorem dX5_mark_40 : decode cX5_mark 40 = .ok (.iconst (-1), 1) := by decide +kernel
theorem dX5_mark_41 : decode cX5_mark 41 = .ok (.invokevirtual 57, 3) := by decide +kernel
theorem dX5_mark_44 : decode cX5_mark 44 = .ok (.ireturn, 1) := by decide +kernel
theorem dX5_fits_0 : decode cX5_fits 0 = .ok (.aload_n 0, 1) := by decide +kernel
theorem dX5_fits_1 : decode cX5_fits 1 = .ok (.getfield 204, 3) := by decide +kernel
theorem dX5_fits_4 : decode cX5_fits 4 = .ok (.aload_n 0, 1) := by decide +kernel
theorem dX5_fits_5 : decode cX5_fits 5 = .ok (.getfield 10, 3) := by decide +kernel
theorem dX5_fits_8 : decode cX5_fits 8 = .ok (.getfield 105, 3) := by decide +kernel
theorem dX5_fits_11 : decode cX5_fits 11 = .ok (.if_icmp .eq 10, 3) := by decide +kernel
theorem dX5_fits_14 : decode cX5_fits 14 = .ok (.aload_n 0, 1) := by decide +kernel
theorem dX5_fits_15 : decode cX5_fits 15 = .ok (.bipush (-3), 2) := by decide +kernel
theorem dX5_fits_17 : decode cX5_fits 17 = .ok (.invokevirtual 57, 3) := by decide +kernel
theorem dX5_fits_20 : decode cX5_fits 20 = .ok (.ireturn, 1) := by decide +kernel
theorem dX5_fits_21 : decode cX5_fits 21 = .ok (.iconst 0, 1) := by decide +kernel
theorem dX5_fits_22 : decode cX5_fits 22 = .ok (.istore_n 1, 1) := by decide +kernel
theorem dX5_fits_23 : decode cX5_fits 23 = .ok (.iconst 0, 1) := by decide +kernel
theorem dX5_fits_24 : decode cX5_fits 24 = .ok (.istore_n 2, 1) := by decide +kernel
theorem dX5_fits_25 : decode cX5_fits 25 = .ok (.iload_n 2, 1) := by decide +kernel
theorem dX5_fits_26 : decode cX5_fits 26 = .ok (.iconst 5, 1) := by decide +kernel
theorem dX5_fits_27 : decode cX5_fits 27 = .ok (.if_icmp .ge 30, 3) := by decide +kernel
theorem dX5_fits_30 : decode cX5_fits 30 = .ok (.aload_n 0, 1) := by decide +kernel
theorem dX5_fits_31 : decode cX5_fits 31 = .ok (.getfield 24, 3) := by decide +kernel
theorem dX5_fits_34 : decode cX5_fits 34 = .ok (.iload_n 2, 1) := by decide +kernel
theorem dX5_fits_35 : decode cX5_fits 35 = .ok (.aload_n 0, 1) := by decide +kernel
theorem dX5_fits_36 : decode cX5_fits 36 = .ok (.getfield 42, 3) := by decide +kernel
theorem dX5_fits_39 : decode cX5_fits 39 = .ok (.invokevirtual 214, 3) := by decide +kernel
theorem dX5_fits_42 : decode cX5_fits 42 = .ok (.ifCond .eq 9, 3) := by decide +kernel
theorem dX5_fits_45 : decode cX5_fits 45 = .ok (.iload_n 1, 1) := by decide +kernel
theorem dX5_fits_46 : decode cX5_fits 46 = .ok (.iconst 1, 1) := by decide +kernel
theorem dX5_fits_47 : decode cX5_fits 47 = .ok (.iload_n 2, 1) := by decide +kernel
theorem dX5_fits_48 : decode cX5_fits 48 = .ok (.ishl, 1) := by decide +kernel
theorem dX5_fits_49 : decode cX5_fits 49 = .ok (.ior, 1) := by decide +kernel
theorem dX5_fits_50 : decode cX5_fits 50 = .ok (.istore_n 1, 1) := by decide +kernel
theorem dX5_fits_51 : decode cX5_fits 51 = .ok (.iinc 2 1, 3) := by decide +kernel
theorem dX5_fits_54 : decode cX5_fits 54 = .ok (.goto (-29), 3) := by decide +kernel
theorem dX5_fits_57 : decode cX5_fits 57 = .ok (.iload_n 1, 1) := by decide +kernel
theorem dX5_fits_58 : decode cX5_fits 58 = .ok (.ireturn, 1) := by decide +kernel
theorem dX5_fewest_0 : decode cX5_fewest 0 = .ok (.iload_n 1, 1) := by decide +kernel
theorem dX5_fewest_1 : decode cX5_fewest 1 = .ok (.iconst 0, 1) := by decide +kernel
theorem dX5_fewest_2 : decode cX5_fewest 2 = .ok (.iconst 1, 1) := by decide +kernel
theorem dX5_fewest_3 : decode cX5_fewest 3 = .ok (.invokestatic 73, 3) := by decide +kernel
theorem dX5_fewest_6 : decode cX5_fewest 6 = .ok (.ifCond .ne 10, 3) := by decide +kernel
theorem dX5_fewest_9 : decode cX5_fewest 9 = .ok (.aload_n 0, 1) := by decide +kernel
theorem dX5_fewest_10 : decode cX5_fewest 10 = .ok (.bipush (-2), 2) := by decide +kernel
theorem dX5_fewest_12 : decode cX5_fewest 12 = .ok (.invokevirtual 57, 3) := by decide +kernel
theorem dX5_fewest_15 : decode cX5_fewest 15 = .ok (.ireturn, 1) := by decide +kernel
theorem dX5_fewest_16 : decode cX5_fewest 16 = .ok (.aload_n 0, 1) := by decide +kernel
theorem dX5_fewest_17 : decode cX5_fewest 17 = .ok (.getfield 24, 3) := by decide +kernel
theorem dX5_fewest_20 : decode cX5_fewest 20 = .ok (.invokevirtual 218, 3) := by decide +kernel
theorem dX5_fewest_23 : decode cX5_fewest 23 = .ok (.istore_n 2, 1) := by decide +kernel
theorem dX5_fewest_24 : decode cX5_fewest 24 = .ok (.iload_n 2, 1) := by decide +kernel
theorem dX5_fewest_25 : decode cX5_fewest 25 = .ok (.bipush (-9), 2) := by decide +kernel
theorem dX5_fewest_27 : decode cX5_fewest 27 = .ok (.if_icmp .eq 8, 3) := by decide +kernel
theorem dX5_fewest_30 : decode cX5_fewest 30 = .ok (.iload_n 1, 1) := by decide +kernel
theorem dX5_fewest_31 : decode cX5_fewest 31 = .ok (.iconst 1, 1) := by decide +kernel
theorem dX5_fewest_32 : decode cX5_fewest 32 = .ok (.if_icmp .ne 7, 3) := by decide +kernel
theorem dX5_fewest_35 : decode cX5_fewest 35 = .ok (.iload_n 2, 1) := by decide +kernel
theorem dX5_fewest_36 : decode cX5_fewest 36 = .ok (.goto 7, 3) := by decide +kernel
theorem dX5_fewest_39 : decode cX5_fewest 39 = .ok (.iload_n 2, 1) := by decide +kernel
theorem dX5_fewest_40 : decode cX5_fewest 40 = .ok (.invokestatic 221, 3) := by decide +kernel
theorem dX5_fewest_43 : decode cX5_fewest 43 = .ok (.ireturn, 1) := by decide +kernel
theorem dX5_hours_0 : decode cX5_hours 0 = .ok (.iload_n 1, 1) := by decide +kernel
theorem dX5_hours_1 : decode cX5_hours 1 = .ok (.iconst 0, 1) := by decide +kernel
theorem dX5_hours_2 : decode cX5_hours 2 = .ok (.bipush 40, 2) := by decide +kernel
theorem dX5_hours_4 : decode cX5_hours 4 = .ok (.invokestatic 49, 3) := by decide +kernel
theorem dX5_hours_7 : decode cX5_hours 7 = .ok (.istore_n 3, 1) := by decide +kernel
theorem dX5_hours_8 : decode cX5_hours 8 = .ok (.iload_n 3, 1) := by decide +kernel
theorem dX5_hours_9 : decode cX5_hours 9 = .ok (.ifCond .ne 15, 3) := by decide +kernel
theorem dX5_hours_12 : decode cX5_hours 12 = .ok (.iload_n 2, 1) := by decide +kernel
theorem dX5_hours_13 : decode cX5_hours 13 = .ok (.iconst 0, 1) := by decide +kernel
theorem dX5_hours_14 : decode cX5_hours 14 = .ok (.iconst 1, 1) := by decide +kernel
theorem dX5_hours_15 : decode cX5_hours 15 = .ok (.invokestatic 73, 3) := by decide +kernel
theorem dX5_hours_18 : decode cX5_hours 18 = .ok (.ifCond .ne 6, 3) := by decide +kernel
theorem dX5_hours_21 : decode cX5_hours 21 = .ok (.bipush (-2), 2) := by decide +kernel
theorem dX5_hours_23 : decode cX5_hours 23 = .ok (.istore_n 3, 1) := by decide +kernel
theorem dX5_hours_24 : decode cX5_hours 24 = .ok (.iload_n 3, 1) := by decide +kernel
theorem dX5_hours_25 : decode cX5_hours 25 = .ok (.ifCond .eq 9, 3) := by decide +kernel
theorem dX5_hours_28 : decode cX5_hours 28 = .ok (.aload_n 0, 1) := by decide +kernel
theorem dX5_hours_29 : decode cX5_hours 29 = .ok (.iload_n 3, 1) := by decide +kernel
theorem dX5_hours_30 : decode cX5_hours 30 = .ok (.invokevirtual 57, 3) := by decide +kernel
theorem dX5_hours_33 : decode cX5_hours 33 = .ok (.ireturn, 1) := by decide +kernel
theorem dX5_hours_34 : decode cX5_hours 34 = .ok (.iload_n 1, 1) := by decide +kernel
theorem dX5_hours_35 : decode cX5_hours 35 = .ok (.aload_n 0, 1) := by decide +kernel
theorem dX5_hours_36 : decode cX5_hours 36 = .ok (.getfield 10, 3) := by decide +kernel
theorem dX5_hours_39 : decode cX5_hours 39 = .ok (.getfield 93, 3) := by decide +kernel
theorem dX5_hours_42 : decode cX5_hours 42 = .ok (.iconst 2, 1) := by decide +kernel
theorem dX5_hours_43 : decode cX5_hours 43 = .ok (.iaload, 1) := by decide +kernel
theorem dX5_hours_44 : decode cX5_hours 44 = .ok (.invokestatic 226, 3) := by decide +kernel
theorem dX5_hours_47 : decode cX5_hours 47 = .ok (.istore 4, 2) := by decide +kernel
theorem dX5_hours_49 : decode cX5_hours 49 = .ok (.iload_n 2, 1) := by decide +kernel
theorem dX5_hours_50 : decode cX5_hours 50 = .ok (.ifCond .ne 8, 3) := by decide +kernel
theorem dX5_hours_53 : decode cX5_hours 53 = .ok (.iload 4, 2) := by decide +kernel
theorem dX5_hours_55 : decode cX5_hours 55 = .ok (.goto 21, 3) := by decide +kernel
theorem dX5_hours_58 : decode cX5_hours 58 = .ok (.iload 4, 2) := by decide +kernel
theorem dX5_hours_60 : decode cX5_hours 60 = .ok (.iload_n 1, 1) := by decide +kernel
theorem dX5_hours_61 : decode cX5_hours 61 = .ok (.iload 4, 2) := by decide +kernel
theorem dX5_hours_63 : decode cX5_hours 63 = .ok (.isub, 1) := by decide +kernel
theorem dX5_hours_64 : decode cX5_hours 64 = .ok (.aload_n 0, 1) := by decide +kernel
theorem dX5_hours_65 : decode cX5_hours 65 = .ok (.getfield 10, 3) := by decide +kernel
theorem dX5_hours_68 : decode cX5_hours 68 = .ok (.getfield 93, 3) := by decide +kernel
theorem dX5_hours_71 : decode cX5_hours 71 = .ok (.iconst 2, 1) := by decide +kernel
theorem dX5_hours_72 : decode cX5_hours 72 = .ok (.iaload, 1) := by decide +kernel
theorem dX5_hours_73 : decode cX5_hours 73 = .ok (.invokestatic 229, 3) := by decide +kernel
theorem dX5_hours_76 : decode cX5_hours 76 = .ok (.ireturn, 1) := by decide +kernel
theorem dX5_won_0 : decode cX5_won 0 = .ok (.iload_n 1, 1) := by decide +kernel
theorem dX5_won_1 : decode cX5_won 1 = .ok (.iconst 0, 1) := by decide +kernel
theorem dX5_won_2 : decode cX5_won 2 = .ok (.bipush 40, 2) := by decide +kernel
theorem dX5_won_4 : decode cX5_won 4 = .ok (.invokestatic 49, 3) := by decide +kernel
theorem dX5_won_7 : decode cX5_won 7 = .ok (.istore_n 2, 1) := by decide +kernel
theorem dX5_won_8 : decode cX5_won 8 = .ok (.iload_n 2, 1) := by decide +kernel
theorem dX5_won_9 : decode cX5_won 9 = .ok (.ifCond .eq 9, 3) := by decide +kernel
theorem dX5_won_12 : decode cX5_won 12 = .ok (.aload_n 0, 1) := by decide +kernel
theorem dX5_won_13 : decode cX5_won 13 = .ok (.iload_n 2, 1) := by decide +kernel
theorem dX5_won_14 : decode cX5_won 14 = .ok (.invokevirtual 57, 3) := by decide +kernel
theorem dX5_won_17 : decode cX5_won 17 = .ok (.ireturn, 1) := by decide +kernel
theorem dX5_won_18 : decode cX5_won 18 = .ok (.iconst 0, 1) := by decide +kernel
theorem dX5_won_19 : decode cX5_won 19 = .ok (.istore_n 3, 1) := by decide +kernel
theorem dX5_won_20 : decode cX5_won 20 = .ok (.iload_n 3, 1) := by decide +kernel
theorem dX5_won_21 : decode cX5_won 21 = .ok (.bipush 100, 2) := by decide +kernel
theorem dX5_won_23 : decode cX5_won 23 = .ok (.if_icmp .gt 19, 3) := by decide +kernel
theorem dX5_won_26 : decode cX5_won 26 = .ok (.iload_n 1, 1) := by decide +kernel
theorem dX5_won_27 : decode cX5_won 27 = .ok (.iload_n 3, 1) := by decide +kernel
theorem dX5_won_28 : decode cX5_won 28 = .ok (.invokestatic 226, 3) := by decide +kernel
theorem dX5_won_31 : decode cX5_won 31 = .ok (.ifCond .le 5, 3) := by decide +kernel
theorem dX5_won_34 : decode cX5_won 34 = .ok (.iload_n 3, 1) := by decide +kernel
theorem dX5_won_35 : decode cX5_won 35 = .ok (.ireturn, 1) := by decide +kernel
theorem dX5_won_36 : decode cX5_won 36 = .ok (.iinc 3 10, 3) := by decide +kernel
theorem dX5_won_39 : decode cX5_won 39 = .ok (.goto (-19), 3) := by decide +kernel
theorem dX5_won_42 : decode cX5_won 42 = .ok (.bipush (-9), 2) := by decide +kernel
theorem dX5_won_44 : decode cX5_won 44 = .ok (.ireturn, 1) := by decide +kernel
theorem dX5_lot_0 : decode cX5_lot 0 = .ok (.iload_n 1, 1) := by decide +kernel
theorem dX5_lot_1 : decode cX5_lot 1 = .ok (.iload_n 2, 1) := by decide +kernel
theorem dX5_lot_2 : decode cX5_lot 2 = .ok (.invokestatic 179, 3) := by decide +kernel
theorem dX5_lot_5 : decode cX5_lot 5 = .ok (.istore_n 3, 1) := by decide +kernel
theorem dX5_lot_6 : decode cX5_lot 6 = .ok (.iload_n 3, 1) := by decide +kernel
theorem dX5_lot_7 : decode cX5_lot 7 = .ok (.ifCond .eq 9, 3) := by decide +kernel
theorem dX5_lot_10 : decode cX5_lot 10 = .ok (.aload_n 0, 1) := by decide +kernel
theorem dX5_lot_11 : decode cX5_lot 11 = .ok (.iload_n 3, 1) := by decide +kernel
theorem dX5_lot_12 : decode cX5_lot 12 = .ok (.invokevirtual 57, 3) := by decide +kernel
theorem dX5_lot_15 : decode cX5_lot 15 = .ok (.ireturn, 1) := by decide +kernel
theorem dX5_lot_16 : decode cX5_lot 16 = .ok (.aload_n 0, 1) := by decide +kernel
theorem dX5_lot_17 : decode cX5_lot 17 = .ok (.getfield 31, 3) := by decide +kernel
theorem dX5_lot_20 : decode cX5_lot 20 = .ok (.aload_n 0, 1) := by decide +kernel
theorem dX5_lot_21 : decode cX5_lot 21 = .ok (.getfield 10, 3) := by decide +kernel
theorem dX5_lot_24 : decode cX5_lot 24 = .ok (.getfield 96, 3) := by decide +kernel
theorem dX5_lot_27 : decode cX5_lot 27 = .ok (.iconst 0, 1) := by decide +kernel
theorem dX5_lot_28 : decode cX5_lot 28 = .ok (.iload_n 1, 1) := by decide +kernel
theorem dX5_lot_29 : decode cX5_lot 29 = .ok (.iload_n 2, 1) := by decide +kernel
theorem dX5_lot_30 : decode cX5_lot 30 = .ok (.invokevirtual 197, 3) := by decide +kernel
theorem dX5_lot_33 : decode cX5_lot 33 = .ok (.istore 4, 2) := by decide +kernel
theorem dX5_lot_35 : decode cX5_lot 35 = .ok (.aload_n 0, 1) := by decide +kernel
theorem dX5_lot_36 : decode cX5_lot 36 = .ok (.getfield 31, 3) := by decide +kernel
theorem dX5_lot_39 : decode cX5_lot 39 = .ok (.aload_n 0, 1) := by decide +kernel
theorem dX5_lot_40 : decode cX5_lot 40 = .ok (.getfield 10, 3) := by decide +kernel
theorem dX5_lot_43 : decode cX5_lot 43 = .ok (.getfield 96, 3) := by decide +kernel
theorem dX5_lot_46 : decode cX5_lot 46 = .ok (.iconst 1, 1) := by decide +kernel
theorem dX5_lot_47 : decode cX5_lot 47 = .ok (.iload_n 1, 1) := by decide +kernel
theorem dX5_lot_48 : decode cX5_lot 48 = .ok (.iload_n 2, 1) := by decide +kernel
theorem dX5_lot_49 : decode cX5_lot 49 = .ok (.invokevirtual 197, 3) := by decide +kernel
theorem dX5_lot_52 : decode cX5_lot 52 = .ok (.istore 5, 2) := by decide +kernel
theorem dX5_lot_54 : decode cX5_lot 54 = .ok (.iload 4, 2) := by decide +kernel
theorem dX5_lot_56 : decode cX5_lot 56 = .ok (.iload 5, 2) := by decide +kernel
theorem dX5_lot_58 : decode cX5_lot 58 = .ok (.if_icmp .ne 5, 3) := by decide +kernel
theorem dX5_lot_61 : decode cX5_lot 61 = .ok (.iconst 2, 1) := by decide +kernel
theorem dX5_lot_62 : decode cX5_lot 62 = .ok (.ireturn, 1) := by decide +kernel
theorem dX5_lot_63 : decode cX5_lot 63 = .ok (.iload 4, 2) := by decide +kernel
theorem dX5_lot_65 : decode cX5_lot 65 = .ok (.iload 5, 2) := by decide +kernel
theorem dX5_lot_67 : decode cX5_lot 67 = .ok (.if_icmp .ge 7, 3) := by decide +kernel
theorem dX5_lot_70 : decode cX5_lot 70 = .ok (.iconst 0, 1) := by decide +kernel
theorem dX5_lot_71 : decode cX5_lot 71 = .ok (.goto 4, 3) := by decide +kernel
theorem dX5_lot_74 : decode cX5_lot 74 = .ok (.iconst 1, 1) := by decide +kernel
theorem dX5_lot_75 : decode cX5_lot 75 = .ok (.ireturn, 1) := by decide +kernel
theorem dX5_row_0 : decode cX5_row 0 = .ok (.iload_n 1, 1) := by decide +kernel
theorem dX5_row_1 : decode cX5_row 1 = .ok (.iconst 0, 1) := by decide +kernel
theorem dX5_row_2 : decode cX5_row 2 = .ok (.bipush 99, 2) := by decide +kernel
theorem dX5_row_4 : decode cX5_row 4 = .ok (.invokestatic 49, 3) := by decide +kernel
theorem dX5_row_7 : decode cX5_row 7 = .ok (.istore_n 2, 1) := by decide +kernel
theorem dX5_row_8 : decode cX5_row 8 = .ok (.iload_n 2, 1) := by decide +kernel
theorem dX5_row_9 : decode cX5_row 9 = .ok (.ifCond .ne 15, 3) := by decide +kernel
theorem dX5_row_12 : decode cX5_row 12 = .ok (.aload_n 0, 1) := by decide +kernel
theorem dX5_row_13 : decode cX5_row 13 = .ok (.getfield 204, 3) := by decide +kernel
theorem dX5_row_16 : decode cX5_row 16 = .ok (.bipush 12, 2) := by decide +kernel
theorem dX5_row_18 : decode cX5_row 18 = .ok (.if_icmp .lt 6, 3) := by decide +kernel
theorem dX5_row_21 : decode cX5_row 21 = .ok (.bipush (-6), 2) := by decide +kernel
theorem dX5_row_23 : decode cX5_row 23 = .ok (.istore_n 2, 1) := by decide +kernel
theorem dX5_row_24 : decode cX5_row 24 = .ok (.iload_n 2, 1) := by decide +kernel
theorem dX5_row_25 : decode cX5_row 25 = .ok (.ifCond .eq 9, 3) := by decide +kernel
theorem dX5_row_28 : decode cX5_row 28 = .ok (.aload_n 0, 1) := by decide +kernel
theorem dX5_row_29 : decode cX5_row 29 = .ok (.iload_n 2, 1) := by decide +kernel
theorem dX5_row_30 : decode cX5_row 30 = .ok (.invokevirtual 57, 3) := by decide +kernel
theorem dX5_row_33 : decode cX5_row 33 = .ok (.ireturn, 1) := by decide +kernel
theorem dX5_row_34 : decode cX5_row 34 = .ok (.aload_n 0, 1) := by decide +kernel
theorem dX5_row_35 : decode cX5_row 35 = .ok (.getfield 42, 3) := by decide +kernel
theorem dX5_row_38 : decode cX5_row 38 = .ok (.aload_n 0, 1) := by decide +kernel
theorem dX5_row_39 : decode cX5_row 39 = .ok (.getfield 204, 3) := by decide +kernel
theorem dX5_row_42 : decode cX5_row 42 = .ok (.iload_n 1, 1) := by decide +kernel
theorem dX5_row_43 : decode cX5_row 43 = .ok (.iastore, 1) := by decide +kernel
theorem dX5_row_44 : decode cX5_row 44 = .ok (.aload_n 0, 1) := by decide +kernel
theorem dX5_row_45 : decode cX5_row 45 = .ok (.dup, 1) := by decide +kernel
theorem dX5_row_46 : decode cX5_row 46 = .ok (.getfield 204, 3) := by decide +kernel
theorem dX5_row_49 : decode cX5_row 49 = .ok (.iconst 1, 1) := by decide +kernel
theorem dX5_row_50 : decode cX5_row 50 = .ok (.iadd, 1) := by decide +kernel
theorem dX5_row_51 : decode cX5_row 51 = .ok (.putfield 204, 3) := by decide +kernel
theorem dX5_row_54 : decode cX5_row 54 = .ok (.aload_n 0, 1) := by decide +kernel
theorem dX5_row_55 : decode cX5_row 55 = .ok (.getfield 204, 3) := by decide +kernel
theorem dX5_row_58 : decode cX5_row 58 = .ok (.ireturn, 1) := by decide +kernel
theorem dX5_judge_0 : decode cX5_judge 0 = .ok (.aload_n 0, 1) := by decide +kernel
theorem dX5_judge_1 : decode cX5_judge 1 = .ok (.getfield 10, 3) := by decide +kernel
theorem dX5_judge_4 : decode cX5_judge 4 = .ok (.iload_n 1, 1) := by decide +kernel
theorem dX5_judge_5 : decode cX5_judge 5 = .ok (.invokevirtual 111, 3) := by decide +kernel
theorem dX5_judge_8 : decode cX5_judge 8 = .ok (.ifCond .ne 9, 3) := by decide +kernel
theorem dX5_judge_11 : decode cX5_judge 11 = .ok (.aload_n 0, 1) := by decide +kernel
theorem dX5_judge_12 : decode cX5_judge 12 = .ok (.iconst (-1), 1) := by decide +kernel
theorem dX5_judge_13 : decode cX5_judge 13 = .ok (.invokevirtual 57, 3) := by decide +kernel
theorem dX5_judge_16 : decode cX5_judge 16 = .ok (.ireturn, 1) := by decide +kernel
theorem dX5_judge_17 : decode cX5_judge 17 = .ok (.aload_n 0, 1) := by decide +kernel
theorem dX5_judge_18 : decode cX5_judge 18 = .ok (.aload_n 0, 1) := by decide +kernel
theorem dX5_judge_19 : decode cX5_judge 19 = .ok (.getfield 10, 3) := by decide +kernel
theorem dX5_judge_22 : decode cX5_judge 22 = .ok (.getfield 118, 3) := by decide +kernel
theorem dX5_judge_25 : decode cX5_judge 25 = .ok (.iload_n 1, 1) := by decide +kernel
theorem dX5_judge_26 : decode cX5_judge 26 = .ok (.aaload, 1) := by decide +kernel
theorem dX5_judge_27 : decode cX5_judge 27 = .ok (.invokevirtual 232, 3) := by decide +kernel
theorem dX5_judge_30 : decode cX5_judge 30 = .ok (.istore_n 2, 1) := by decide +kernel
theorem dX5_judge_31 : decode cX5_judge 31 = .ok (.aload_n 0, 1) := by decide +kernel
theorem dX5_judge_32 : decode cX5_judge 32 = .ok (.iconst 0, 1) := by decide +kernel
theorem dX5_judge_33 : decode cX5_judge 33 = .ok (.putfield 204, 3) := by decide +kernel
theorem dX5_judge_36 : decode cX5_judge 36 = .ok (.iload_n 2, 1) := by decide +kernel
theorem dX5_judge_37 : decode cX5_judge 37 = .ok (.ireturn, 1) := by decide +kernel
theorem dX5_clear_0 : decode cX5_clear 0 = .ok (.aload_n 0, 1) := by decide +kernel
theorem dX5_clear_1 : decode cX5_clear 1 = .ok (.getfield 204, 3) := by decide +kernel
theorem dX5_clear_4 : decode cX5_clear 4 = .ok (.istore_n 1, 1) := by decide +kernel
theorem dX5_clear_5 : decode cX5_clear 5 = .ok (.aload_n 0, 1) := by decide +kernel
theorem dX5_clear_6 : decode cX5_clear 6 = .ok (.iconst 0, 1) := by decide +kernel
theorem dX5_clear_7 : decode cX5_clear 7 = .ok (.putfield 204, 3) := by decide +kernel
theorem dX5_clear_10 : decode cX5_clear 10 = .ok (.iload_n 1, 1) := by decide +kernel
theorem dX5_clear_11 : decode cX5_clear 11 = .ok (.ireturn, 1) := by decide +kernel
theorem dX5_seeds_0 : decode cX5_seeds 0 = .ok (.iload_n 1, 1) := by decide +kernel
theorem dX5_seeds_1 : decode cX5_seeds 1 = .ok (.iconst 1, 1) := by decide +kernel
theorem dX5_seeds_2 : decode cX5_seeds 2 = .ok (.bipush 20, 2) := by decide +kernel
theorem dX5_seeds_4 : decode cX5_seeds 4 = .ok (.invokestatic 49, 3) := by decide +kernel
theorem dX5_seeds_7 : decode cX5_seeds 7 = .ok (.istore 4, 2) := by decide +kernel
theorem dX5_seeds_9 : decode cX5_seeds 9 = .ok (.iload 4, 2) := by decide +kernel
theorem dX5_seeds_11 : decode cX5_seeds 11 = .ok (.ifCond .ne 16, 3) := by decide +kernel
theorem dX5_seeds_14 : decode cX5_seeds 14 = .ok (.iload_n 3, 1) := by decide +kernel
theorem dX5_seeds_15 : decode cX5_seeds 15 = .ok (.iconst 0, 1) := by decide +kernel
theorem dX5_seeds_16 : decode cX5_seeds 16 = .ok (.iconst 1, 1) := by decide +kernel
theorem dX5_seeds_17 : decode cX5_seeds 17 = .ok (.invokestatic 73, 3) := by decide +kernel
theorem dX5_seeds_20 : decode cX5_seeds 20 = .ok (.ifCond .ne 7, 3) := by decide +kernel
theorem dX5_seeds_23 : decode cX5_seeds 23 = .ok (.bipush (-2), 2) := by decide +kernel
theorem dX5_seeds_25 : decode cX5_seeds 25 = .ok (.istore 4, 2) := by decide +kernel
theorem dX5_seeds_27 : decode cX5_seeds 27 = .ok (.iload 4, 2) := by decide +kernel
theorem dX5_seeds_29 : decode cX5_seeds 29 = .ok (.ifCond .eq 12, 3) := by decide +kernel
theorem dX5_seeds_32 : decode cX5_seeds 32 = .ok (.aload_n 0, 1) := by decide +kernel
theorem dX5_seeds_33 : decode cX5_seeds 33 = .ok (.iload 4, 2) := by decide +kernel
theorem dX5_seeds_35 : decode cX5_seeds 35 = .ok (.invokevirtual 57, 3) := by decide +kernel
theorem dX5_seeds_38 : decode cX5_seeds 38 = .ok (.goto 13, 3) := by decide +kernel
theorem dX5_seeds_41 : decode cX5_seeds 41 = .ok (.aload_n 0, 1) := by decide +kernel
theorem dX5_seeds_42 : decode cX5_seeds 42 = .ok (.getfield 31, 3) := by decide +kernel
theorem dX5_seeds_45 : decode cX5_seeds 45 = .ok (.iload_n 1, 1) := by decide +kernel
theorem dX5_seeds_46 : decode cX5_seeds 46 = .ok (.iload_n 2, 1) := by decide +kernel
theorem dX5_seeds_47 : decode cX5_seeds 47 = .ok (.iload_n 3, 1) := by decide +kernel
theorem dX5_seeds_48 : decode cX5_seeds 48 = .ok (.invokevirtual 235, 3) := by decide +kernel
theorem dX5_seeds_51 : decode cX5_seeds 51 = .ok (.ireturn, 1) := by decide +kernel
theorem dX5_image_0 : decode cX5_image 0 = .ok (.aload_n 0, 1) := by decide +kernel
theorem dX5_image_1 : decode cX5_image 1 = .ok (.getfield 16, 3) := by decide +kernel
theorem dX5_image_4 : decode cX5_image 4 = .ok (.aload_n 0, 1) := by decide +kernel
theorem dX5_image_5 : decode cX5_image 5 = .ok (.getfield 10, 3) := by decide +kernel
theorem dX5_image_8 : decode cX5_image 8 = .ok (.invokevirtual 238, 3) := by decide +kernel
theorem dX5_image_11 : decode cX5_image 11 = .ok (.aload_n 0, 1) := by decide +kernel
theorem dX5_image_12 : decode cX5_image 12 = .ok (.iconst 1, 1) := by decide +kernel
theorem dX5_image_13 : decode cX5_image 13 = .ok (.putfield 241, 3) := by decide +kernel
theorem dX5_image_16 : decode cX5_image 16 = .ok (.aload_n 0, 1) := by decide +kernel
theorem dX5_image_17 : decode cX5_image 17 = .ok (.getfield 16, 3) := by decide +kernel
theorem dX5_image_20 : decode cX5_image 20 = .ok (.getfield 105, 3) := by decide +kernel
theorem dX5_image_23 : decode cX5_image 23 = .ok (.ireturn, 1) := by decide +kernel
theorem dX5_restore_0 : decode cX5_restore 0 = .ok (.aload_n 0, 1) := by decide +kernel
theorem dX5_restore_1 : decode cX5_restore 1 = .ok (.getfield 241, 3) := by decide +kernel
theorem dX5_restore_4 : decode cX5_restore 4 = .ok (.ifCond .ne 10, 3) := by decide +kernel
theorem dX5_restore_7 : decode cX5_restore 7 = .ok (.aload_n 0, 1) := by decide +kernel
theorem dX5_restore_8 : decode cX5_restore 8 = .ok (.bipush (-3), 2) := by decide +kernel
theorem dX5_restore_10 : decode cX5_restore 10 = .ok (.invokevirtual 57, 3) := by decide +kernel
theorem dX5_restore_13 : decode cX5_restore 13 = .ok (.ireturn, 1) := by decide +kernel
theorem dX5_restore_14 : decode cX5_restore 14 = .ok (.aload_n 0, 1) := by decide +kernel
theorem dX5_restore_15 : decode cX5_restore 15 = .ok (.getfield 10, 3) := by decide +kernel
theorem dX5_restore_18 : decode cX5_restore 18 = .ok (.aload_n 0, 1) := by decide +kernel
theorem dX5_restore_19 : decode cX5_restore 19 = .ok (.getfield 16, 3) := by decide +kernel
theorem dX5_restore_22 : decode cX5_restore 22 = .ok (.invokevirtual 238, 3) := by decide +kernel
theorem dX5_restore_25 : decode cX5_restore 25 = .ok (.aload_n 0, 1) := by decide +kernel
theorem dX5_restore_26 : decode cX5_restore 26 = .ok (.getfield 10, 3) := by decide +kernel
theorem dX5_restore_29 : decode cX5_restore 29 = .ok (.getfield 105, 3) := by decide +kernel
theorem dX5_restore_32 : decode cX5_restore 32 = .ok (.ireturn, 1) := by decide +kernel
theorem dX5_count_0 : decode cX5_count 0 = .ok (.iload_n 1, 1) := by decide +kernel
theorem dX5_count_1 : decode cX5_count 1 = .ok (.bipush 11, 2) := by decide +kernel
theorem dX5_count_3 : decode cX5_count 3 = .ok (.bipush 16, 2) := by decide +kernel
theorem dX5_count_5 : decode cX5_count 5 = .ok (.invokestatic 73, 3) := by decide +kernel
theorem dX5_count_8 : decode cX5_count 8 = .ok (.ifCond .eq 13, 3) := by decide +kernel
theorem dX5_count_11 : decode cX5_count 11 = .ok (.aload_n 0, 1) := by decide +kernel
theorem dX5_count_12 : decode cX5_count 12 = .ok (.getfield 46, 3) := by decide +kernel
theorem dX5_count_15 : decode cX5_count 15 = .ok (.iload_n 1, 1) := by decide +kernel
theorem dX5_count_16 : decode cX5_count 16 = .ok (.bipush 10, 2) := by decide +kernel
theorem dX5_count_18 : decode cX5_count 18 = .ok (.isub, 1) := by decide +kernel
theorem dX5_count_19 : decode cX5_count 19 = .ok (.iaload, 1) := by decide +kernel
theorem dX5_count_20 : decode cX5_count 20 = .ok (.ireturn, 1) := by decide +kernel
theorem dX5_count_21 : decode cX5_count 21 = .ok (.iload_n 1, 1) := by decide +kernel
theorem dX5_count_22 : decode cX5_count 22 = .ok (.bipush 20, 2) := by decide +kernel
theorem dX5_count_24 : decode cX5_count 24 = .ok (.bipush 24, 2) := by decide +kernel
theorem dX5_count_26 : decode cX5_count 26 = .ok (.invokestatic 73, 3) := by decide +kernel
theorem dX5_count_29 : decode cX5_count 29 = .ok (.ifCond .eq 16, 3) := by decide +kernel
theorem dX5_count_32 : decode cX5_count 32 = .ok (.aload_n 0, 1) := by decide +kernel
theorem dX5_count_33 : decode cX5_count 33 = .ok (.getfield 10, 3) := by decide +kernel
theorem dX5_count_36 : decode cX5_count 36 = .ok (.getfield 93, 3) := by decide +kernel
theorem dX5_count_39 : decode cX5_count 39 = .ok (.iload_n 1, 1) := by decide +kernel
theorem dX5_count_40 : decode cX5_count 40 = .ok (.bipush 20, 2) := by decide +kernel
theorem dX5_count_42 : decode cX5_count 42 = .ok (.isub, 1) := by decide +kernel
theorem dX5_count_43 : decode cX5_count 43 = .ok (.iaload, 1) := by decide +kernel
theorem dX5_count_44 : decode cX5_count 44 = .ok (.ireturn, 1) := by decide +kernel
theorem dX5_count_45 : decode cX5_count 45 = .ok (.iload_n 1, 1) := by decide +kernel
theorem dX5_count_46 : decode cX5_count 46 = .ok (.tableswitch 102 0 7 #[46, 54, 63, 71, 79, 84, 89, 97], 46) := by decide +kernel
theorem dX5_count_92 : decode cX5_count 92 = .ok (.aload_n 0, 1) := by decide +kernel
theorem dX5_count_93 : decode cX5_count 93 = .ok (.getfield 10, 3) := by decide +kernel
theorem dX5_count_96 : decode cX5_count 96 = .ok (.getfield 105, 3) := by decide +kernel
theorem dX5_count_99 : decode cX5_count 99 = .ok (.ireturn, 1) := by decide +kernel
theorem dX5_count_100 : decode cX5_count 100 = .ok (.aload_n 0, 1) := by decide +kernel
theorem dX5_count_101 : decode cX5_count 101 = .ok (.getfield 10, 3) := by decide +kernel
theorem dX5_count_104 : decode cX5_count 104 = .ok (.iconst 0, 1) := by decide +kernel
theorem dX5_count_105 : decode cX5_count 105 = .ok (.invokevirtual 173, 3) := by decide +kernel
theorem dX5_count_108 : decode cX5_count 108 = .ok (.ireturn, 1) := by decide +kernel
theorem dX5_count_109 : decode cX5_count 109 = .ok (.aload_n 0, 1) := by decide +kernel
theorem dX5_count_110 : decode cX5_count 110 = .ok (.getfield 10, 3) := by decide +kernel
theorem dX5_count_113 : decode cX5_count 113 = .ok (.getfield 96, 3) := by decide +kernel
theorem dX5_count_116 : decode cX5_count 116 = .ok (.ireturn, 1) := by decide +kernel
theorem dX5_count_117 : decode cX5_count 117 = .ok (.aload_n 0, 1) := by decide +kernel
theorem dX5_count_118 : decode cX5_count 118 = .ok (.getfield 10, 3) := by decide +kernel
theorem dX5_count_121 : decode cX5_count 121 = .ok (.getfield 99, 3) := by decide +kernel
theorem dX5_count_124 : decode cX5_count 124 = .ok (.ireturn, 1) := by decide +kernel
theorem dX5_count_125 : decode cX5_count 125 = .ok (.aload_n 0, 1) := by decide +kernel
theorem dX5_count_126 : decode cX5_count 126 = .ok (.invokevirtual 245, 3) := by decide +kernel
theorem dX5_count_129 : decode cX5_count 129 = .ok (.ireturn, 1) := by decide +kernel
theorem dX5_count_130 : decode cX5_count 130 = .ok (.aload_n 0, 1) := by decide +kernel
theorem dX5_count_131 : decode cX5_count 131 = .ok (.invokevirtual 248, 3) := by decide +kernel
theorem dX5_count_134 : decode cX5_count 134 = .ok (.ireturn, 1) := by decide +kernel
theorem dX5_count_135 : decode cX5_count 135 = .ok (.aload_n 0, 1) := by decide +kernel
theorem dX5_count_136 : decode cX5_count 136 = .ok (.getfield 38, 3) := by decide +kernel
theorem dX5_count_139 : decode cX5_count 139 = .ok (.getfield 53, 3) := by decide +kernel
theorem dX5_count_142 : decode cX5_count 142 = .ok (.ireturn, 1) := by decide +kernel
theorem dX5_count_143 : decode cX5_count 143 = .ok (.aload_n 0, 1) := by decide +kernel
theorem dX5_count_144 : decode cX5_count 144 = .ok (.getfield 204, 3) := by decide +kernel
theorem dX5_count_147 : decode cX5_count 147 = .ok (.ireturn, 1) := by decide +kernel
theorem dX5_count_148 : decode cX5_count 148 = .ok (.bipush (-9), 2) := by decide +kernel
theorem dX5_count_150 : decode cX5_count 150 = .ok (.ireturn, 1) := by decide +kernel
theorem dX5_allHard_0 : decode cX5_allHard 0 = .ok (.iconst 0, 1) := by decide +kernel
theorem dX5_allHard_1 : decode cX5_allHard 1 = .ok (.istore_n 1, 1) := by decide +kernel
theorem dX5_allHard_2 : decode cX5_allHard 2 = .ok (.iconst 0, 1) := by decide +kernel
theorem dX5_allHard_3 : decode cX5_allHard 3 = .ok (.istore_n 2, 1) := by decide +kernel
theorem dX5_allHard_4 : decode cX5_allHard 4 = .ok (.iload_n 2, 1) := by decide +kernel
theorem dX5_allHard_5 : decode cX5_allHard 5 = .ok (.bipush 24, 2) := by decide +kernel
theorem dX5_allHard_7 : decode cX5_allHard 7 = .ok (.if_icmp .ge 21, 3) := by decide +kernel
theorem dX5_allHard_10 : decode cX5_allHard 10 = .ok (.iload_n 1, 1) := by decide +kernel
theorem dX5_allHard_11 : decode cX5_allHard 11 = .ok (.aload_n 0, 1) := by decide +kernel
theorem dX5_allHard_12 : decode cX5_allHard 12 = .ok (.getfield 10, 3) := by decide +kernel
theorem dX5_allHard_15 : decode cX5_allHard 15 = .ok (.getfield 77, 3) := by decide +kernel
theorem dX5_allHard_18 : decode cX5_allHard 18 = .ok (.iload_n 2, 1) := by decide +kernel
theorem dX5_allHard_19 : decode cX5_allHard 19 = .ok (.iaload, 1) := by decide +kernel
theorem dX5_allHard_20 : decode cX5_allHard 20 = .ok (.iadd, 1) := by decide +kernel
theorem dX5_allHard_21 : decode cX5_allHard 21 = .ok (.istore_n 1, 1) := by decide +kernel
theorem dX5_allHard_22 : decode cX5_allHard 22 = .ok (.iinc 2 1, 3) := by decide +kernel
theorem dX5_allHard_25 : decode cX5_allHard 25 = .ok (.goto (-21), 3) := by decide +kernel
theorem dX5_allHard_28 : decode cX5_allHard 28 = .ok (.iload_n 1, 1) := by decide +kernel
theorem dX5_allHard_29 : decode cX5_allHard 29 = .ok (.ireturn, 1) := by decide +kernel
theorem dX5_oldLines_0 : decode cX5_oldLines 0 = .ok (.iconst 0, 1) := by decide +kernel
theorem dX5_oldLines_1 : decode cX5_oldLines 1 = .ok (.istore_n 1, 1) := by decide +kernel
theorem dX5_oldLines_2 : decode cX5_oldLines 2 = .ok (.iconst 0, 1) := by decide +kernel
theorem dX5_oldLines_3 : decode cX5_oldLines 3 = .ok (.istore_n 2, 1) := by decide +kernel
theorem dX5_oldLines_4 : decode cX5_oldLines 4 = .ok (.iload_n 2, 1) := by decide +kernel
theorem dX5_oldLines_5 : decode cX5_oldLines 5 = .ok (.bipush 24, 2) := by decide +kernel
theorem dX5_oldLines_7 : decode cX5_oldLines 7 = .ok (.if_icmp .ge 29, 3) := by decide +kernel
theorem dX5_oldLines_10 : decode cX5_oldLines 10 = .ok (.iload_n 1, 1) := by decide +kernel
theorem dX5_oldLines_11 : decode cX5_oldLines 11 = .ok (.aload_n 0, 1) := by decide +kernel
theorem dX5_oldLines_12 : decode cX5_oldLines 12 = .ok (.getfield 10, 3) := by decide +kernel
theorem dX5_oldLines_15 : decode cX5_oldLines 15 = .ok (.getfield 84, 3) := by decide +kernel
theorem dX5_oldLines_18 : decode cX5_oldLines 18 = .ok (.iload_n 2, 1) := by decide +kernel
theorem dX5_oldLines_19 : decode cX5_oldLines 19 = .ok (.iaload, 1) := by decide +kernel
theorem dX5_oldLines_20 : decode cX5_oldLines 20 = .ok (.ifCond .le 7, 3) := by decide +kernel
theorem dX5_oldLines_23 : decode cX5_oldLines 23 = .ok (.iconst 1, 1) := by decide +kernel
theorem dX5_oldLines_24 : decode cX5_oldLines 24 = .ok (.goto 4, 3) := by decide +kernel
theorem dX5_oldLines_27 : decode cX5_oldLines 27 = .ok (.iconst 0, 1) := by decide +kernel
theorem dX5_oldLines_28 : decode cX5_oldLines 28 = .ok (.iadd, 1) := by decide +kernel
theorem dX5_oldLines_29 : decode cX5_oldLines 29 = .ok (.istore_n 1, 1) := by decide +kernel
theorem dX5_oldLines_30 : decode cX5_oldLines 30 = .ok (.iinc 2 1, 3) := by decide +kernel
theorem dX5_oldLines_33 : decode cX5_oldLines 33 = .ok (.goto (-29), 3) := by decide +kernel
theorem dX5_oldLines_36 : decode cX5_oldLines 36 = .ok (.iload_n 1, 1) := by decide +kernel
theorem dX5_oldLines_37 : decode cX5_oldLines 37 = .ok (.ireturn, 1) := by decide +kernel
theorem dX5_firstUnlike_0 : decode cX5_firstUnlike 0 = .ok (.iconst 0, 1) := by decide +kernel
theorem dX5_firstUnlike_1 : decode cX5_firstUnlike 1 = .ok (.istore_n 2, 1) := by decide +kernel
theorem dX5_firstUnlike_2 : decode cX5_firstUnlike 2 = .ok (.iload_n 2, 1) := by decide +kernel
theorem dX5_firstUnlike_3 : decode cX5_firstUnlike 3 = .ok (.aload_n 0, 1) := by decide +kernel
theorem dX5_firstUnlike_4 : decode cX5_firstUnlike 4 = .ok (.getfield 204, 3) := by decide +kernel
theorem dX5_firstUnlike_7 : decode cX5_firstUnlike 7 = .ok (.if_icmp .ge 32, 3) := by decide +kernel
theorem dX5_firstUnlike_10 : decode cX5_firstUnlike 10 = .ok (.iload_n 2, 1) := by decide +kernel
theorem dX5_firstUnlike_11 : decode cX5_firstUnlike 11 = .ok (.bipush 12, 2) := by decide +kernel
theorem dX5_firstUnlike_13 : decode cX5_firstUnlike 13 = .ok (.if_icmp .ge 26, 3) := by decide +kernel
theorem dX5_firstUnlike_16 : decode cX5_firstUnlike 16 = .ok (.aload_n 0, 1) := by decide +kernel
theorem dX5_firstUnlike_17 : decode cX5_firstUnlike 17 = .ok (.getfield 42, 3) := by decide +kernel
theorem dX5_firstUnlike_20 : decode cX5_firstUnlike 20 = .ok (.iload_n 2, 1) := by decide +kernel
theorem dX5_firstUnlike_21 : decode cX5_firstUnlike 21 = .ok (.iaload, 1) := by decide +kernel
theorem dX5_firstUnlike_22 : decode cX5_firstUnlike 22 = .ok (.aload_n 1, 1) := by decide +kernel
theorem dX5_firstUnlike_23 : decode cX5_firstUnlike 23 = .ok (.getfield 122, 3) := by decide +kernel
theorem dX5_firstUnlike_26 : decode cX5_firstUnlike 26 = .ok (.iload_n 2, 1) := by decide +kernel
theorem dX5_firstUnlike_27 : decode cX5_firstUnlike 27 = .ok (.iaload, 1) := by decide +kernel
theorem dX5_firstUnlike_28 : decode cX5_firstUnlike 28 = .ok (.if_icmp .eq 5, 3) := by decide +kernel
theorem dX5_firstUnlike_31 : decode cX5_firstUnlike 31 = .ok (.iload_n 2, 1) := by decide +kernel
theorem dX5_firstUnlike_32 : decode cX5_firstUnlike 32 = .ok (.ireturn, 1) := by decide +kernel
theorem dX5_firstUnlike_33 : decode cX5_firstUnlike 33 = .ok (.iinc 2 1, 3) := by decide +kernel
theorem dX5_firstUnlike_36 : decode cX5_firstUnlike 36 = .ok (.goto (-34), 3) := by decide +kernel
theorem dX5_firstUnlike_39 : decode cX5_firstUnlike 39 = .ok (.bipush (-9), 2) := by decide +kernel
theorem dX5_firstUnlike_41 : decode cX5_firstUnlike 41 = .ok (.ireturn, 1) := by decide +kernel
theorem dX5_refuse_0 : decode cX5_refuse 0 = .ok (.iload_n 1, 1) := by decide +kernel
theorem dX5_refuse_1 : decode cX5_refuse 1 = .ok (.ineg, 1) := by decide +kernel
theorem dX5_refuse_2 : decode cX5_refuse 2 = .ok (.iconst 1, 1) := by decide +kernel
theorem dX5_refuse_3 : decode cX5_refuse 3 = .ok (.bipush 6, 2) := by decide +kernel
theorem dX5_refuse_5 : decode cX5_refuse 5 = .ok (.invokestatic 73, 3) := by decide +kernel
theorem dX5_refuse_8 : decode cX5_refuse 8 = .ok (.ifCond .eq 14, 3) := by decide +kernel
theorem dX5_refuse_11 : decode cX5_refuse 11 = .ok (.aload_n 0, 1) := by decide +kernel
theorem dX5_refuse_12 : decode cX5_refuse 12 = .ok (.getfield 46, 3) := by decide +kernel
theorem dX5_refuse_15 : decode cX5_refuse 15 = .ok (.iload_n 1, 1) := by decide +kernel
theorem dX5_refuse_16 : decode cX5_refuse 16 = .ok (.ineg, 1) := by decide +kernel
theorem dX5_refuse_17 : decode cX5_refuse 17 = .ok (.dup2, 1) := by decide +kernel
theorem dX5_refuse_18 : decode cX5_refuse 18 = .ok (.iaload, 1) := by decide +kernel
theorem dX5_refuse_19 : decode cX5_refuse 19 = .ok (.iconst 1, 1) := by decide +kernel
theorem dX5_refuse_20 : decode cX5_refuse 20 = .ok (.iadd, 1) := by decide +kernel
theorem dX5_refuse_21 : decode cX5_refuse 21 = .ok (.iastore, 1) := by decide +kernel
theorem dX5_refuse_22 : decode cX5_refuse 22 = .ok (.iload_n 1, 1) := by decide +kernel
theorem dX5_refuse_23 : decode cX5_refuse 23 = .ok (.ireturn, 1) := by decide +kernel
theorem dX5_refuseLong_0 : decode cX5_refuseLong 0 = .ok (.ldc2_w 251, 3) := by decide +kernel
theorem dX5_refuseLong_3 : decode cX5_refuseLong 3 = .ok (.aload_n 0, 1) := by decide +kernel
theorem dX5_refuseLong_4 : decode cX5_refuseLong 4 = .ok (.iload_n 1, 1) := by decide +kernel
theorem dX5_refuseLong_5 : decode cX5_refuseLong 5 = .ok (.invokevirtual 57, 3) := by decide +kernel
theorem dX5_refuseLong_8 : decode cX5_refuseLong 8 = .ok (.i2l, 1) := by decide +kernel
theorem dX5_refuseLong_9 : decode cX5_refuseLong 9 = .ok (.lsub, 1) := by decide +kernel
theorem dX5_refuseLong_10 : decode cX5_refuseLong 10 = .ok (.lreturn, 1) := by decide +kernel
theorem dX5_footAndStrokeFault_0 : decode cX5_footAndStrokeFault 0 = .ok (.iload_n 0, 1) := by decide +kernel
theorem dX5_footAndStrokeFault_1 : decode cX5_footAndStrokeFault 1 = .ok (.invokestatic 170, 3) := by decide +kernel
theorem dX5_footAndStrokeFault_4 : decode cX5_footAndStrokeFault 4 = .ok (.ifCond .eq 11, 3) := by decide +kernel
theorem dX5_footAndStrokeFault_7 : decode cX5_footAndStrokeFault 7 = .ok (.iload_n 1, 1) := by decide +kernel
theorem dX5_footAndStrokeFault_8 : decode cX5_footAndStrokeFault 8 = .ok (.iload_n 2, 1) := by decide +kernel
theorem dX5_footAndStrokeFault_9 : decode cX5_footAndStrokeFault 9 = .ok (.invokestatic 179, 3) := by decide +kernel
theorem dX5_footAndStrokeFault_12 : decode cX5_footAndStrokeFault 12 = .ok (.goto 4, 3) := by decide +kernel
theorem dX5_footAndStrokeFault_15 : decode cX5_footAndStrokeFault 15 = .ok (.iconst (-1), 1) := by decide +kernel
theorem dX5_footAndStrokeFault_16 : decode cX5_footAndStrokeFault 16 = .ok (.ireturn, 1) := by decide +kernel
theorem dX5_strokeFault_0 : decode cX5_strokeFault 0 = .ok (.iload_n 0, 1) := by decide +kernel
theorem dX5_strokeFault_1 : decode cX5_strokeFault 1 = .ok (.iconst 1, 1) := by decide +kernel
theorem dX5_strokeFault_2 : decode cX5_strokeFault 2 = .ok (.if_icmp .lt 8, 3) := by decide +kernel
theorem dX5_strokeFault_5 : decode cX5_strokeFault 5 = .ok (.iload_n 1, 1) := by decide +kernel
theorem dX5_strokeFault_6 : decode cX5_strokeFault 6 = .ok (.iconst 1, 1) := by decide +kernel
theorem dX5_strokeFault_7 : decode cX5_strokeFault 7 = .ok (.if_icmp .ge 6, 3) := by decide +kernel
theorem dX5_strokeFault_10 : decode cX5_strokeFault 10 = .ok (.bipush (-4), 2) := by decide +kernel
theorem dX5_strokeFault_12 : decode cX5_strokeFault 12 = .ok (.ireturn, 1) := by decide +kernel
theorem dX5_strokeFault_13 : decode cX5_strokeFault 13 = .ok (.iload_n 0, 1) := by decide +kernel
