theorem dX4_init_0 : decode cX4_init 0 = .ok (.aload_n 0, 1) := by decide +kernel
theorem dX4_init_1 : decode cX4_init 1 = .ok (.invokespecial 3, 3) := by decide +kernel
theorem dX4_init_4 : decode cX4_init 4 = .ok (.aload_n 0, 1) := by decide +kernel
theorem dX4_init_5 : decode cX4_init 5 = .ok (.bipush 12, 2) := by decide +kernel
theorem dX4_init_7 : decode cX4_init 7 = .ok (.newarray .int, 2) := by decide +kernel
theorem dX4_init_9 : decode cX4_init 9 = .ok (.putfield 9, 3) := by decide +kernel
theorem dX4_init_12 : decode cX4_init 12 = .ok (.return_, 1) := by decide +kernel
theorem dX4_copyFrom_0 : decode cX4_copyFrom 0 = .ok (.aload_n 0, 1) := by decide +kernel
theorem dX4_copyFrom_1 : decode cX4_copyFrom 1 = .ok (.aload_n 1, 1) := by decide +kernel
theorem dX4_copyFrom_2 : decode cX4_copyFrom 2 = .ok (.getfield 15, 3) := by decide +kernel
theorem dX4_copyFrom_5 : decode cX4_copyFrom 5 = .ok (.aload_n 1, 1) := by decide +kernel
theorem dX4_copyFrom_6 : decode cX4_copyFrom 6 = .ok (.getfield 19, 3) := by decide +kernel
theorem dX4_copyFrom_9 : decode cX4_copyFrom 9 = .ok (.aload_n 1, 1) := by decide +kernel
theorem dX4_copyFrom_10 : decode cX4_copyFrom 10 = .ok (.getfield 22, 3) := by decide +kernel
theorem dX4_copyFrom_13 : decode cX4_copyFrom 13 = .ok (.invokevirtual 25, 3) := by decide +kernel
theorem dX4_copyFrom_16 : decode cX4_copyFrom 16 = .ok (.aload_n 1, 1) := by decide +kernel
theorem dX4_copyFrom_17 : decode cX4_copyFrom 17 = .ok (.getfield 9, 3) := by decide +kernel
theorem dX4_copyFrom_20 : decode cX4_copyFrom 20 = .ok (.iconst 0, 1) := by decide +kernel
theorem dX4_copyFrom_21 : decode cX4_copyFrom 21 = .ok (.aload_n 0, 1) := by decide +kernel
theorem dX4_copyFrom_22 : decode cX4_copyFrom 22 = .ok (.getfield 9, 3) := by decide +kernel
theorem dX4_copyFrom_25 : decode cX4_copyFrom 25 = .ok (.iconst 0, 1) := by decide +kernel
theorem dX4_copyFrom_26 : decode cX4_copyFrom 26 = .ok (.bipush 12, 2) := by decide +kernel
theorem dX4_copyFrom_28 : decode cX4_copyFrom 28 = .ok (.invokestatic 29, 3) := by decide +kernel
theorem dX4_copyFrom_31 : decode cX4_copyFrom 31 = .ok (.return_, 1) := by decide +kernel
theorem dX4_begin_0 : decode cX4_begin 0 = .ok (.aload_n 0, 1) := by decide +kernel
theorem dX4_begin_1 : decode cX4_begin 1 = .ok (.iload_n 1, 1) := by decide +kernel
theorem dX4_begin_2 : decode cX4_begin 2 = .ok (.putfield 15, 3) := by decide +kernel
theorem dX4_begin_5 : decode cX4_begin 5 = .ok (.aload_n 0, 1) := by decide +kernel
theorem dX4_begin_6 : decode cX4_begin 6 = .ok (.iload_n 2, 1) := by decide +kernel
theorem dX4_begin_7 : decode cX4_begin 7 = .ok (.putfield 19, 3) := by decide +kernel
theorem dX4_begin_10 : decode cX4_begin 10 = .ok (.aload_n 0, 1) := by decide +kernel
theorem dX4_begin_11 : decode cX4_begin 11 = .ok (.iload_n 3, 1) := by decide +kernel
theorem dX4_begin_12 : decode cX4_begin 12 = .ok (.putfield 22, 3) := by decide +kernel
theorem dX4_begin_15 : decode cX4_begin 15 = .ok (.return_, 1) := by decide +kernel
theorem dX4_roundness_0 : decode cX4_roundness 0 = .ok (.aload_n 0, 1) := by decide +kernel
theorem dX4_roundness_1 : decode cX4_roundness 1 = .ok (.getfield 9, 3) := by decide +kernel
theorem dX4_roundness_4 : decode cX4_roundness 4 = .ok (.iconst 0, 1) := by decide +kernel
theorem dX4_roundness_5 : decode cX4_roundness 5 = .ok (.iaload, 1) := by decide +kernel
theorem dX4_roundness_6 : decode cX4_roundness 6 = .ok (.istore_n 1, 1) := by decide +kernel
theorem dX4_roundness_7 : decode cX4_roundness 7 = .ok (.aload_n 0, 1) := by decide +kernel
theorem dX4_roundness_8 : decode cX4_roundness 8 = .ok (.getfield 9, 3) := by decide +kernel
theorem dX4_roundness_11 : decode cX4_roundness 11 = .ok (.iconst 0, 1) := by decide +kernel
theorem dX4_roundness_12 : decode cX4_roundness 12 = .ok (.iaload, 1) := by decide +kernel
theorem dX4_roundness_13 : decode cX4_roundness 13 = .ok (.istore_n 2, 1) := by decide +kernel
theorem dX4_roundness_14 : decode cX4_roundness 14 = .ok (.iconst 1, 1) := by decide +kernel
theorem dX4_roundness_15 : decode cX4_roundness 15 = .ok (.istore_n 3, 1) := by decide +kernel
theorem dX4_roundness_16 : decode cX4_roundness 16 = .ok (.iload_n 3, 1) := by decide +kernel
theorem dX4_roundness_17 : decode cX4_roundness 17 = .ok (.bipush 12, 2) := by decide +kernel
theorem dX4_roundness_19 : decode cX4_roundness 19 = .ok (.if_icmp .ge 31, 3) := by decide +kernel
theorem dX4_roundness_22 : decode cX4_roundness 22 = .ok (.iload_n 1, 1) := by decide +kernel
theorem dX4_roundness_23 : decode cX4_roundness 23 = .ok (.aload_n 0, 1) := by decide +kernel
theorem dX4_roundness_24 : decode cX4_roundness 24 = .ok (.getfield 9, 3) := by decide +kernel
theorem dX4_roundness_27 : decode cX4_roundness 27 = .ok (.iload_n 3, 1) := by decide +kernel
theorem dX4_roundness_28 : decode cX4_roundness 28 = .ok (.iaload, 1) := by decide +kernel
theorem dX4_roundness_29 : decode cX4_roundness 29 = .ok (.invokestatic 35, 3) := by decide +kernel
theorem dX4_roundness_32 : decode cX4_roundness 32 = .ok (.istore_n 1, 1) := by decide +kernel
theorem dX4_roundness_33 : decode cX4_roundness 33 = .ok (.iload_n 2, 1) := by decide +kernel
theorem dX4_roundness_34 : decode cX4_roundness 34 = .ok (.aload_n 0, 1) := by decide +kernel
theorem dX4_roundness_35 : decode cX4_roundness 35 = .ok (.getfield 9, 3) := by decide +kernel
theorem dX4_roundness_38 : decode cX4_roundness 38 = .ok (.iload_n 3, 1) := by decide +kernel
theorem dX4_roundness_39 : decode cX4_roundness 39 = .ok (.iaload, 1) := by decide +kernel
theorem dX4_roundness_40 : decode cX4_roundness 40 = .ok (.invokestatic 41, 3) := by decide +kernel
theorem dX4_roundness_43 : decode cX4_roundness 43 = .ok (.istore_n 2, 1) := by decide +kernel
theorem dX4_roundness_44 : decode cX4_roundness 44 = .ok (.iinc 3 1, 3) := by decide +kernel
theorem dX4_roundness_47 : decode cX4_roundness 47 = .ok (.goto (-31), 3) := by decide +kernel
theorem dX4_roundness_50 : decode cX4_roundness 50 = .ok (.iload_n 2, 1) := by decide +kernel
theorem dX4_roundness_51 : decode cX4_roundness 51 = .ok (.iload_n 1, 1) := by decide +kernel
theorem dX4_roundness_52 : decode cX4_roundness 52 = .ok (.isub, 1) := by decide +kernel
theorem dX4_roundness_53 : decode cX4_roundness 53 = .ok (.ireturn, 1) := by decide +kernel
theorem dX4_gap_0 : decode cX4_gap 0 = .ok (.aload_n 0, 1) := by decide +kernel
theorem dX4_gap_1 : decode cX4_gap 1 = .ok (.getfield 9, 3) := by decide +kernel
theorem dX4_gap_4 : decode cX4_gap 4 = .ok (.bipush 11, 2) := by decide +kernel
theorem dX4_gap_6 : decode cX4_gap 6 = .ok (.iaload, 1) := by decide +kernel
theorem dX4_gap_7 : decode cX4_gap 7 = .ok (.aload_n 0, 1) := by decide +kernel
theorem dX4_gap_8 : decode cX4_gap 8 = .ok (.getfield 9, 3) := by decide +kernel
theorem dX4_gap_11 : decode cX4_gap 11 = .ok (.iconst 0, 1) := by decide +kernel
theorem dX4_gap_12 : decode cX4_gap 12 = .ok (.iaload, 1) := by decide +kernel
theorem dX4_gap_13 : decode cX4_gap 13 = .ok (.isub, 1) := by decide +kernel
theorem dX4_gap_14 : decode cX4_gap 14 = .ok (.invokestatic 44, 3) := by decide +kernel
theorem dX4_gap_17 : decode cX4_gap 17 = .ok (.ireturn, 1) := by decide +kernel
theorem dX4_offBy_0 : decode cX4_offBy 0 = .ok (.iconst 0, 1) := by decide +kernel
theorem dX4_offBy_1 : decode cX4_offBy 1 = .ok (.istore_n 2, 1) := by decide +kernel
theorem dX4_offBy_2 : decode cX4_offBy 2 = .ok (.iconst 0, 1) := by decide +kernel
theorem dX4_offBy_3 : decode cX4_offBy 3 = .ok (.istore_n 3, 1) := by decide +kernel
theorem dX4_offBy_4 : decode cX4_offBy 4 = .ok (.iload_n 3, 1) := by decide +kernel
theorem dX4_offBy_5 : decode cX4_offBy 5 = .ok (.bipush 12, 2) := by decide +kernel
theorem dX4_offBy_7 : decode cX4_offBy 7 = .ok (.if_icmp .ge 23, 3) := by decide +kernel
theorem dX4_offBy_10 : decode cX4_offBy 10 = .ok (.iload_n 2, 1) := by decide +kernel
theorem dX4_offBy_11 : decode cX4_offBy 11 = .ok (.aload_n 0, 1) := by decide +kernel
theorem dX4_offBy_12 : decode cX4_offBy 12 = .ok (.getfield 9, 3) := by decide +kernel
theorem dX4_offBy_15 : decode cX4_offBy 15 = .ok (.iload_n 3, 1) := by decide +kernel
theorem dX4_offBy_16 : decode cX4_offBy 16 = .ok (.iaload, 1) := by decide +kernel
theorem dX4_offBy_17 : decode cX4_offBy 17 = .ok (.iload_n 1, 1) := by decide +kernel
theorem dX4_offBy_18 : decode cX4_offBy 18 = .ok (.isub, 1) := by decide +kernel
theorem dX4_offBy_19 : decode cX4_offBy 19 = .ok (.invokestatic 44, 3) := by decide +kernel
theorem dX4_offBy_22 : decode cX4_offBy 22 = .ok (.iadd, 1) := by decide +kernel
theorem dX4_offBy_23 : decode cX4_offBy 23 = .ok (.istore_n 2, 1) := by decide +kernel
theorem dX4_offBy_24 : decode cX4_offBy 24 = .ok (.iinc 3 1, 3) := by decide +kernel
theorem dX4_offBy_27 : decode cX4_offBy 27 = .ok (.goto (-23), 3) := by decide +kernel
theorem dX4_offBy_30 : decode cX4_offBy 30 = .ok (.iload_n 2, 1) := by decide +kernel
theorem dX4_offBy_31 : decode cX4_offBy 31 = .ok (.ireturn, 1) := by decide +kernel
theorem dX4_total_0 : decode cX4_total 0 = .ok (.iconst 0, 1) := by decide +kernel
theorem dX4_total_1 : decode cX4_total 1 = .ok (.istore_n 1, 1) := by decide +kernel
theorem dX4_total_2 : decode cX4_total 2 = .ok (.iconst 0, 1) := by decide +kernel
theorem dX4_total_3 : decode cX4_total 3 = .ok (.istore_n 2, 1) := by decide +kernel
theorem dX4_total_4 : decode cX4_total 4 = .ok (.iload_n 2, 1) := by decide +kernel
theorem dX4_total_5 : decode cX4_total 5 = .ok (.bipush 12, 2) := by decide +kernel
theorem dX4_total_7 : decode cX4_total 7 = .ok (.if_icmp .ge 18, 3) := by decide +kernel
theorem dX4_total_10 : decode cX4_total 10 = .ok (.iload_n 1, 1) := by decide +kernel
theorem dX4_total_11 : decode cX4_total 11 = .ok (.aload_n 0, 1) := by decide +kernel
theorem dX4_total_12 : decode cX4_total 12 = .ok (.getfield 9, 3) := by decide +kernel
theorem dX4_total_15 : decode cX4_total 15 = .ok (.iload_n 2, 1) := by decide +kernel
theorem dX4_total_16 : decode cX4_total 16 = .ok (.iaload, 1) := by decide +kernel
theorem dX4_total_17 : decode cX4_total 17 = .ok (.iadd, 1) := by decide +kernel
theorem dX4_total_18 : decode cX4_total 18 = .ok (.istore_n 1, 1) := by decide +kernel
theorem dX4_total_19 : decode cX4_total 19 = .ok (.iinc 2 1, 3) := by decide +kernel
theorem dX4_total_22 : decode cX4_total 22 = .ok (.goto (-18), 3) := by decide +kernel
theorem dX4_total_25 : decode cX4_total 25 = .ok (.iload_n 1, 1) := by decide +kernel
theorem dX4_total_26 : decode cX4_total 26 = .ok (.ireturn, 1) := by decide +kernel
theorem dX4_bendAt_0 : decode cX4_bendAt 0 = .ok (.iconst 2, 1) := by decide +kernel
theorem dX4_bendAt_1 : decode cX4_bendAt 1 = .ok (.aload_n 0, 1) := by decide +kernel
theorem dX4_bendAt_2 : decode cX4_bendAt 2 = .ok (.getfield 9, 3) := by decide +kernel
theorem dX4_bendAt_5 : decode cX4_bendAt 5 = .ok (.iload_n 1, 1) := by decide +kernel
theorem dX4_bendAt_6 : decode cX4_bendAt 6 = .ok (.iaload, 1) := by decide +kernel
theorem dX4_bendAt_7 : decode cX4_bendAt 7 = .ok (.imul, 1) := by decide +kernel
theorem dX4_bendAt_8 : decode cX4_bendAt 8 = .ok (.aload_n 0, 1) := by decide +kernel
theorem dX4_bendAt_9 : decode cX4_bendAt 9 = .ok (.getfield 9, 3) := by decide +kernel
theorem dX4_bendAt_12 : decode cX4_bendAt 12 = .ok (.iload_n 1, 1) := by decide +kernel
theorem dX4_bendAt_13 : decode cX4_bendAt 13 = .ok (.invokestatic 48, 3) := by decide +kernel
theorem dX4_bendAt_16 : decode cX4_bendAt 16 = .ok (.iaload, 1) := by decide +kernel
theorem dX4_bendAt_17 : decode cX4_bendAt 17 = .ok (.isub, 1) := by decide +kernel
theorem dX4_bendAt_18 : decode cX4_bendAt 18 = .ok (.aload_n 0, 1) := by decide +kernel
theorem dX4_bendAt_19 : decode cX4_bendAt 19 = .ok (.getfield 9, 3) := by decide +kernel
theorem dX4_bendAt_22 : decode cX4_bendAt 22 = .ok (.iload_n 1, 1) := by decide +kernel
theorem dX4_bendAt_23 : decode cX4_bendAt 23 = .ok (.invokestatic 51, 3) := by decide +kernel
theorem dX4_bendAt_26 : decode cX4_bendAt 26 = .ok (.iaload, 1) := by decide +kernel
theorem dX4_bendAt_27 : decode cX4_bendAt 27 = .ok (.isub, 1) := by decide +kernel
theorem dX4_bendAt_28 : decode cX4_bendAt 28 = .ok (.invokestatic 44, 3) := by decide +kernel
theorem dX4_bendAt_31 : decode cX4_bendAt 31 = .ok (.ireturn, 1) := by decide +kernel
theorem dX4_wobbleHour_0 : decode cX4_wobbleHour 0 = .ok (.iconst 0, 1) := by decide +kernel
theorem dX4_wobbleHour_1 : decode cX4_wobbleHour 1 = .ok (.istore_n 1, 1) := by decide +kernel
theorem dX4_wobbleHour_2 : decode cX4_wobbleHour 2 = .ok (.iconst 1, 1) := by decide +kernel
theorem dX4_wobbleHour_3 : decode cX4_wobbleHour 3 = .ok (.istore_n 2, 1) := by decide +kernel
theorem dX4_wobbleHour_4 : decode cX4_wobbleHour 4 = .ok (.iload_n 2, 1) := by decide +kernel
theorem dX4_wobbleHour_5 : decode cX4_wobbleHour 5 = .ok (.bipush 12, 2) := by decide +kernel
theorem dX4_wobbleHour_7 : decode cX4_wobbleHour 7 = .ok (.if_icmp .ge 24, 3) := by decide +kernel
theorem dX4_wobbleHour_10 : decode cX4_wobbleHour 10 = .ok (.aload_n 0, 1) := by decide +kernel
theorem dX4_wobbleHour_11 : decode cX4_wobbleHour 11 = .ok (.iload_n 2, 1) := by decide +kernel
theorem dX4_wobbleHour_12 : decode cX4_wobbleHour 12 = .ok (.invokevirtual 54, 3) := by decide +kernel
theorem dX4_wobbleHour_15 : decode cX4_wobbleHour 15 = .ok (.aload_n 0, 1) := by decide +kernel
theorem dX4_wobbleHour_16 : decode cX4_wobbleHour 16 = .ok (.iload_n 1, 1) := by decide +kernel
theorem dX4_wobbleHour_17 : decode cX4_wobbleHour 17 = .ok (.invokevirtual 54, 3) := by decide +kernel
theorem dX4_wobbleHour_20 : decode cX4_wobbleHour 20 = .ok (.if_icmp .le 5, 3) := by decide +kernel
theorem dX4_wobbleHour_23 : decode cX4_wobbleHour 23 = .ok (.iload_n 2, 1) := by decide +kernel
theorem dX4_wobbleHour_24 : decode cX4_wobbleHour 24 = .ok (.istore_n 1, 1) := by decide +kernel
theorem dX4_wobbleHour_25 : decode cX4_wobbleHour 25 = .ok (.iinc 2 1, 3) := by decide +kernel
theorem dX4_wobbleHour_28 : decode cX4_wobbleHour 28 = .ok (.goto (-24), 3) := by decide +kernel
theorem dX4_wobbleHour_31 : decode cX4_wobbleHour 31 = .ok (.iload_n 1, 1) := by decide +kernel
theorem dX4_wobbleHour_32 : decode cX4_wobbleHour 32 = .ok (.ireturn, 1) := by decide +kernel
theorem dX4_farFrom_0 : decode cX4_farFrom 0 = .ok (.iconst 0, 1) := by decide +kernel
theorem dX4_farFrom_1 : decode cX4_farFrom 1 = .ok (.istore_n 2, 1) := by decide +kernel
theorem dX4_farFrom_2 : decode cX4_farFrom 2 = .ok (.iconst 0, 1) := by decide +kernel
theorem dX4_farFrom_3 : decode cX4_farFrom 3 = .ok (.istore_n 3, 1) := by decide +kernel
theorem dX4_farFrom_4 : decode cX4_farFrom 4 = .ok (.iload_n 3, 1) := by decide +kernel
theorem dX4_farFrom_5 : decode cX4_farFrom 5 = .ok (.bipush 12, 2) := by decide +kernel
theorem dX4_farFrom_7 : decode cX4_farFrom 7 = .ok (.if_icmp .ge 28, 3) := by decide +kernel
theorem dX4_farFrom_10 : decode cX4_farFrom 10 = .ok (.iload_n 2, 1) := by decide +kernel
theorem dX4_farFrom_11 : decode cX4_farFrom 11 = .ok (.aload_n 0, 1) := by decide +kernel
theorem dX4_farFrom_12 : decode cX4_farFrom 12 = .ok (.getfield 9, 3) := by decide +kernel
theorem dX4_farFrom_15 : decode cX4_farFrom 15 = .ok (.iload_n 3, 1) := by decide +kernel
theorem dX4_farFrom_16 : decode cX4_farFrom 16 = .ok (.iaload, 1) := by decide +kernel
theorem dX4_farFrom_17 : decode cX4_farFrom 17 = .ok (.aload_n 1, 1) := by decide +kernel
theorem dX4_farFrom_18 : decode cX4_farFrom 18 = .ok (.getfield 9, 3) := by decide +kernel
theorem dX4_farFrom_21 : decode cX4_farFrom 21 = .ok (.iload_n 3, 1) := by decide +kernel
theorem dX4_farFrom_22 : decode cX4_farFrom 22 = .ok (.iaload, 1) := by decide +kernel
theorem dX4_farFrom_23 : decode cX4_farFrom 23 = .ok (.isub, 1) := by decide +kernel
theorem dX4_farFrom_24 : decode cX4_farFrom 24 = .ok (.invokestatic 44, 3) := by decide +kernel
theorem dX4_farFrom_27 : decode cX4_farFrom 27 = .ok (.iadd, 1) := by decide +kernel
theorem dX4_farFrom_28 : decode cX4_farFrom 28 = .ok (.istore_n 2, 1) := by decide +kernel
theorem dX4_farFrom_29 : decode cX4_farFrom 29 = .ok (.iinc 3 1, 3) := by decide +kernel
theorem dX4_farFrom_32 : decode cX4_farFrom 32 = .ok (.goto (-28), 3) := by decide +kernel
theorem dX4_farFrom_35 : decode cX4_farFrom 35 = .ok (.iload_n 2, 1) := by decide +kernel
theorem dX4_farFrom_36 : decode cX4_farFrom 36 = .ok (.ireturn, 1) := by decide +kernel
