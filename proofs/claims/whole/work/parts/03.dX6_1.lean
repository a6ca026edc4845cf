theorem dX6_rink_97 : decode cX6_rink 97 = .ok (.ifCond .ne 23, 3) := by decide +kernel
theorem dX6_rink_100 : decode cX6_rink 100 = .ok (.aload_n 0, 1) := by decide +kernel
theorem dX6_rink_101 : decode cX6_rink 101 = .ok (.aload_n 0, 1) := by decide +kernel
theorem dX6_rink_102 : decode cX6_rink 102 = .ok (.getfield 46, 3) := by decide +kernel
theorem dX6_rink_105 : decode cX6_rink 105 = .ok (.iconst 0, 1) := by decide +kernel
theorem dX6_rink_106 : decode cX6_rink 106 = .ok (.invokevirtual 179, 3) := by decide +kernel
theorem dX6_rink_109 : decode cX6_rink 109 = .ok (.sipush (-2000), 3) := by decide +kernel
theorem dX6_rink_112 : decode cX6_rink 112 = .ok (.aload_n 0, 1) := by decide +kernel
theorem dX6_rink_113 : decode cX6_rink 113 = .ok (.getfield 37, 3) := by decide +kernel
theorem dX6_rink_116 : decode cX6_rink 116 = .ok (.iload_n 1, 1) := by decide +kernel
theorem dX6_rink_117 : decode cX6_rink 117 = .ok (.iaload, 1) := by decide +kernel
theorem dX6_rink_118 : decode cX6_rink 118 = .ok (.isub, 1) := by decide +kernel
theorem dX6_rink_119 : decode cX6_rink 119 = .ok (.ireturn, 1) := by decide +kernel
theorem dX6_rink_120 : decode cX6_rink 120 = .ok (.iinc 1 1, 3) := by decide +kernel
theorem dX6_rink_123 : decode cX6_rink 123 = .ok (.goto (-39), 3) := by decide +kernel
theorem dX6_rink_126 : decode cX6_rink 126 = .ok (.aload_n 0, 1) := by decide +kernel
theorem dX6_rink_127 : decode cX6_rink 127 = .ok (.getfield 126, 3) := by decide +kernel
theorem dX6_rink_130 : decode cX6_rink 130 = .ok (.ireturn, 1) := by decide +kernel
theorem dX6_carry_0 : decode cX6_carry 0 = .ok (.aload_n 0, 1) := by decide +kernel
theorem dX6_carry_1 : decode cX6_carry 1 = .ok (.getfield 186, 3) := by decide +kernel
theorem dX6_carry_4 : decode cX6_carry 4 = .ok (.ifCond .eq 13, 3) := by decide +kernel
theorem dX6_carry_7 : decode cX6_carry 7 = .ok (.aload_n 0, 1) := by decide +kernel
theorem dX6_carry_8 : decode cX6_carry 8 = .ok (.getfield 189, 3) := by decide +kernel
theorem dX6_carry_11 : decode cX6_carry 11 = .ok (.aload_n 0, 1) := by decide +kernel
theorem dX6_carry_12 : decode cX6_carry 12 = .ok (.getfield 192, 3) := by decide +kernel
theorem dX6_carry_15 : decode cX6_carry 15 = .ok (.iload_n 1, 1) := by decide +kernel
theorem dX6_carry_16 : decode cX6_carry 16 = .ok (.iastore, 1) := by decide +kernel
theorem dX6_carry_17 : decode cX6_carry 17 = .ok (.aload_n 0, 1) := by decide +kernel
theorem dX6_carry_18 : decode cX6_carry 18 = .ok (.dup, 1) := by decide +kernel
theorem dX6_carry_19 : decode cX6_carry 19 = .ok (.getfield 192, 3) := by decide +kernel
theorem dX6_carry_22 : decode cX6_carry 22 = .ok (.iconst 1, 1) := by decide +kernel
theorem dX6_carry_23 : decode cX6_carry 23 = .ok (.iadd, 1) := by decide +kernel
theorem dX6_carry_24 : decode cX6_carry 24 = .ok (.putfield 192, 3) := by decide +kernel
theorem dX6_carry_27 : decode cX6_carry 27 = .ok (.aload_n 0, 1) := by decide +kernel
theorem dX6_carry_28 : decode cX6_carry 28 = .ok (.getfield 189, 3) := by decide +kernel
theorem dX6_carry_31 : decode cX6_carry 31 = .ok (.aload_n 0, 1) := by decide +kernel
theorem dX6_carry_32 : decode cX6_carry 32 = .ok (.getfield 192, 3) := by decide +kernel
theorem dX6_carry_35 : decode cX6_carry 35 = .ok (.iconst 1, 1) := by decide +kernel
theorem dX6_carry_36 : decode cX6_carry 36 = .ok (.isub, 1) := by decide +kernel
theorem dX6_carry_37 : decode cX6_carry 37 = .ok (.iaload, 1) := by decide +kernel
theorem dX6_carry_38 : decode cX6_carry 38 = .ok (.ireturn, 1) := by decide +kernel
theorem dX6_carryAll_0 : decode cX6_carryAll 0 = .ok (.aload_n 0, 1) := by decide +kernel
theorem dX6_carryAll_1 : decode cX6_carryAll 1 = .ok (.aload_n 1, 1) := by decide +kernel
theorem dX6_carryAll_2 : decode cX6_carryAll 2 = .ok (.putfield 189, 3) := by decide +kernel
theorem dX6_carryAll_5 : decode cX6_carryAll 5 = .ok (.aload_n 0, 1) := by decide +kernel
theorem dX6_carryAll_6 : decode cX6_carryAll 6 = .ok (.iload_n 2, 1) := by decide +kernel
theorem dX6_carryAll_7 : decode cX6_carryAll 7 = .ok (.putfield 186, 3) := by decide +kernel
theorem dX6_carryAll_10 : decode cX6_carryAll 10 = .ok (.aload_n 0, 1) := by decide +kernel
theorem dX6_carryAll_11 : decode cX6_carryAll 11 = .ok (.iconst 0, 1) := by decide +kernel
theorem dX6_carryAll_12 : decode cX6_carryAll 12 = .ok (.putfield 192, 3) := by decide +kernel
theorem dX6_carryAll_15 : decode cX6_carryAll 15 = .ok (.aload_n 0, 1) := by decide +kernel
theorem dX6_carryAll_16 : decode cX6_carryAll 16 = .ok (.aload_n 0, 1) := by decide +kernel
theorem dX6_carryAll_17 : decode cX6_carryAll 17 = .ok (.aload_n 0, 1) := by decide +kernel
theorem dX6_carryAll_18 : decode cX6_carryAll 18 = .ok (.getfield 157, 3) := by decide +kernel
theorem dX6_carryAll_21 : decode cX6_carryAll 21 = .ok (.invokevirtual 195, 3) := by decide +kernel
theorem dX6_carryAll_24 : decode cX6_carryAll 24 = .ok (.putfield 157, 3) := by decide +kernel
theorem dX6_carryAll_27 : decode cX6_carryAll 27 = .ok (.aload_n 0, 1) := by decide +kernel
theorem dX6_carryAll_28 : decode cX6_carryAll 28 = .ok (.aload_n 0, 1) := by decide +kernel
theorem dX6_carryAll_29 : decode cX6_carryAll 29 = .ok (.aload_n 0, 1) := by decide +kernel
theorem dX6_carryAll_30 : decode cX6_carryAll 30 = .ok (.getfield 75, 3) := by decide +kernel
theorem dX6_carryAll_33 : decode cX6_carryAll 33 = .ok (.invokevirtual 195, 3) := by decide +kernel
theorem dX6_carryAll_36 : decode cX6_carryAll 36 = .ok (.putfield 75, 3) := by decide +kernel
theorem dX6_carryAll_39 : decode cX6_carryAll 39 = .ok (.aload_n 0, 1) := by decide +kernel
theorem dX6_carryAll_40 : decode cX6_carryAll 40 = .ok (.aload_n 0, 1) := by decide +kernel
theorem dX6_carryAll_41 : decode cX6_carryAll 41 = .ok (.aload_n 0, 1) := by decide +kernel
theorem dX6_carryAll_42 : decode cX6_carryAll 42 = .ok (.getfield 65, 3) := by decide +kernel
theorem dX6_carryAll_45 : decode cX6_carryAll 45 = .ok (.invokevirtual 195, 3) := by decide +kernel
theorem dX6_carryAll_48 : decode cX6_carryAll 48 = .ok (.putfield 65, 3) := by decide +kernel
theorem dX6_carryAll_51 : decode cX6_carryAll 51 = .ok (.iconst 0, 1) := by decide +kernel
theorem dX6_carryAll_52 : decode cX6_carryAll 52 = .ok (.istore_n 3, 1) := by decide +kernel
theorem dX6_carryAll_53 : decode cX6_carryAll 53 = .ok (.iload_n 3, 1) := by decide +kernel
theorem dX6_carryAll_54 : decode cX6_carryAll 54 = .ok (.bipush 24, 2) := by decide +kernel
theorem dX6_carryAll_56 : decode cX6_carryAll 56 = .ok (.if_icmp .ge 41, 3) := by decide +kernel
theorem dX6_carryAll_59 : decode cX6_carryAll 59 = .ok (.aload_n 0, 1) := by decide +kernel
theorem dX6_carryAll_60 : decode cX6_carryAll 60 = .ok (.getfield 7, 3) := by decide +kernel
theorem dX6_carryAll_63 : decode cX6_carryAll 63 = .ok (.iload_n 3, 1) := by decide +kernel
theorem dX6_carryAll_64 : decode cX6_carryAll 64 = .ok (.aload_n 0, 1) := by decide +kernel
theorem dX6_carryAll_65 : decode cX6_carryAll 65 = .ok (.aload_n 0, 1) := by decide +kernel
theorem dX6_carryAll_66 : decode cX6_carryAll 66 = .ok (.getfield 7, 3) := by decide +kernel
theorem dX6_carryAll_69 : decode cX6_carryAll 69 = .ok (.iload_n 3, 1) := by decide +kernel
theorem dX6_carryAll_70 : decode cX6_carryAll 70 = .ok (.iaload, 1) := by decide +kernel
theorem dX6_carryAll_71 : decode cX6_carryAll 71 = .ok (.invokevirtual 195, 3) := by decide +kernel
theorem dX6_carryAll_74 : decode cX6_carryAll 74 = .ok (.iastore, 1) := by decide +kernel
theorem dX6_carryAll_75 : decode cX6_carryAll 75 = .ok (.aload_n 0, 1) := by decide +kernel
theorem dX6_carryAll_76 : decode cX6_carryAll 76 = .ok (.getfield 13, 3) := by decide +kernel
theorem dX6_carryAll_79 : decode cX6_carryAll 79 = .ok (.iload_n 3, 1) := by decide +kernel
theorem dX6_carryAll_80 : decode cX6_carryAll 80 = .ok (.aload_n 0, 1) := by decide +kernel
theorem dX6_carryAll_81 : decode cX6_carryAll 81 = .ok (.aload_n 0, 1) := by decide +kernel
theorem dX6_carryAll_82 : decode cX6_carryAll 82 = .ok (.getfield 13, 3) := by decide +kernel
theorem dX6_carryAll_85 : decode cX6_carryAll 85 = .ok (.iload_n 3, 1) := by decide +kernel
theorem dX6_carryAll_86 : decode cX6_carryAll 86 = .ok (.iaload, 1) := by decide +kernel
theorem dX6_carryAll_87 : decode cX6_carryAll 87 = .ok (.invokevirtual 195, 3) := by decide +kernel
theorem dX6_carryAll_90 : decode cX6_carryAll 90 = .ok (.iastore, 1) := by decide +kernel
theorem dX6_carryAll_91 : decode cX6_carryAll 91 = .ok (.iinc 3 1, 3) := by decide +kernel
theorem dX6_carryAll_94 : decode cX6_carryAll 94 = .ok (.goto (-41), 3) := by decide +kernel
theorem dX6_carryAll_97 : decode cX6_carryAll 97 = .ok (.iconst 0, 1) := by decide +kernel
theorem dX6_carryAll_98 : decode cX6_carryAll 98 = .ok (.istore_n 3, 1) := by decide +kernel
theorem dX6_carryAll_99 : decode cX6_carryAll 99 = .ok (.iload_n 3, 1) := by decide +kernel
theorem dX6_carryAll_100 : decode cX6_carryAll 100 = .ok (.iconst 5, 1) := by decide +kernel
theorem dX6_carryAll_101 : decode cX6_carryAll 101 = .ok (.if_icmp .ge 25, 3) := by decide +kernel
theorem dX6_carryAll_104 : decode cX6_carryAll 104 = .ok (.aload_n 0, 1) := by decide +kernel
theorem dX6_carryAll_105 : decode cX6_carryAll 105 = .ok (.getfield 16, 3) := by decide +kernel
theorem dX6_carryAll_108 : decode cX6_carryAll 108 = .ok (.iload_n 3, 1) := by decide +kernel
theorem dX6_carryAll_109 : decode cX6_carryAll 109 = .ok (.aload_n 0, 1) := by decide +kernel
theorem dX6_carryAll_110 : decode cX6_carryAll 110 = .ok (.aload_n 0, 1) := by decide +kernel
theorem dX6_carryAll_111 : decode cX6_carryAll 111 = .ok (.getfield 16, 3) := by decide +kernel
theorem dX6_carryAll_114 : decode cX6_carryAll 114 = .ok (.iload_n 3, 1) := by decide +kernel
theorem dX6_carryAll_115 : decode cX6_carryAll 115 = .ok (.iaload, 1) := by decide +kernel
theorem dX6_carryAll_116 : decode cX6_carryAll 116 = .ok (.invokevirtual 195, 3) := by decide +kernel
theorem dX6_carryAll_119 : decode cX6_carryAll 119 = .ok (.iastore, 1) := by decide +kernel
theorem dX6_carryAll_120 : decode cX6_carryAll 120 = .ok (.iinc 3 1, 3) := by decide +kernel
theorem dX6_carryAll_123 : decode cX6_carryAll 123 = .ok (.goto (-24), 3) := by decide +kernel
theorem dX6_carryAll_126 : decode cX6_carryAll 126 = .ok (.iconst 0, 1) := by decide +kernel
theorem dX6_carryAll_127 : decode cX6_carryAll 127 = .ok (.istore_n 3, 1) := by decide +kernel
theorem dX6_carryAll_128 : decode cX6_carryAll 128 = .ok (.iload_n 3, 1) := by decide +kernel
theorem dX6_carryAll_129 : decode cX6_carryAll 129 = .ok (.bipush 6, 2) := by decide +kernel
theorem dX6_carryAll_131 : decode cX6_carryAll 131 = .ok (.if_icmp .ge 57, 3) := by decide +kernel
theorem dX6_carryAll_134 : decode cX6_carryAll 134 = .ok (.aload_n 0, 1) := by decide +kernel
theorem dX6_carryAll_135 : decode cX6_carryAll 135 = .ok (.getfield 19, 3) := by decide +kernel
theorem dX6_carryAll_138 : decode cX6_carryAll 138 = .ok (.iload_n 3, 1) := by decide +kernel
theorem dX6_carryAll_139 : decode cX6_carryAll 139 = .ok (.aload_n 0, 1) := by decide +kernel
theorem dX6_carryAll_140 : decode cX6_carryAll 140 = .ok (.aload_n 0, 1) := by decide +kernel
theorem dX6_carryAll_141 : decode cX6_carryAll 141 = .ok (.getfield 19, 3) := by decide +kernel
theorem dX6_carryAll_144 : decode cX6_carryAll 144 = .ok (.iload_n 3, 1) := by decide +kernel
theorem dX6_carryAll_145 : decode cX6_carryAll 145 = .ok (.iaload, 1) := by decide +kernel
theorem dX6_carryAll_146 : decode cX6_carryAll 146 = .ok (.invokevirtual 195, 3) := by decide +kernel
theorem dX6_carryAll_149 : decode cX6_carryAll 149 = .ok (.iastore, 1) := by decide +kernel
theorem dX6_carryAll_150 : decode cX6_carryAll 150 = .ok (.aload_n 0, 1) := by decide +kernel
theorem dX6_carryAll_151 : decode cX6_carryAll 151 = .ok (.getfield 22, 3) := by decide +kernel
theorem dX6_carryAll_154 : decode cX6_carryAll 154 = .ok (.iload_n 3, 1) := by decide +kernel
theorem dX6_carryAll_155 : decode cX6_carryAll 155 = .ok (.aload_n 0, 1) := by decide +kernel
theorem dX6_carryAll_156 : decode cX6_carryAll 156 = .ok (.aload_n 0, 1) := by decide +kernel
theorem dX6_carryAll_157 : decode cX6_carryAll 157 = .ok (.getfield 22, 3) := by decide +kernel
theorem dX6_carryAll_160 : decode cX6_carryAll 160 = .ok (.iload_n 3, 1) := by decide +kernel
theorem dX6_carryAll_161 : decode cX6_carryAll 161 = .ok (.iaload, 1) := by decide +kernel
theorem dX6_carryAll_162 : decode cX6_carryAll 162 = .ok (.invokevirtual 195, 3) := by decide +kernel
theorem dX6_carryAll_165 : decode cX6_carryAll 165 = .ok (.iastore, 1) := by decide +kernel
theorem dX6_carryAll_166 : decode cX6_carryAll 166 = .ok (.aload_n 0, 1) := by decide +kernel
theorem dX6_carryAll_167 : decode cX6_carryAll 167 = .ok (.getfield 25, 3) := by decide +kernel
theorem dX6_carryAll_170 : decode cX6_carryAll 170 = .ok (.iload_n 3, 1) := by decide +kernel
theorem dX6_carryAll_171 : decode cX6_carryAll 171 = .ok (.aload_n 0, 1) := by decide +kernel
theorem dX6_carryAll_172 : decode cX6_carryAll 172 = .ok (.aload_n 0, 1) := by decide +kernel
theorem dX6_carryAll_173 : decode cX6_carryAll 173 = .ok (.getfield 25, 3) := by decide +kernel
theorem dX6_carryAll_176 : decode cX6_carryAll 176 = .ok (.iload_n 3, 1) := by decide +kernel
theorem dX6_carryAll_177 : decode cX6_carryAll 177 = .ok (.iaload, 1) := by decide +kernel
theorem dX6_carryAll_178 : decode cX6_carryAll 178 = .ok (.invokevirtual 195, 3) := by decide +kernel
theorem dX6_carryAll_181 : decode cX6_carryAll 181 = .ok (.iastore, 1) := by decide +kernel
theorem dX6_carryAll_182 : decode cX6_carryAll 182 = .ok (.iinc 3 1, 3) := by decide +kernel
theorem dX6_carryAll_185 : decode cX6_carryAll 185 = .ok (.goto (-57), 3) := by decide +kernel
theorem dX6_carryAll_188 : decode cX6_carryAll 188 = .ok (.iconst 0, 1) := by decide +kernel
theorem dX6_carryAll_189 : decode cX6_carryAll 189 = .ok (.istore_n 3, 1) := by decide +kernel
theorem dX6_carryAll_190 : decode cX6_carryAll 190 = .ok (.iload_n 3, 1) := by decide +kernel
theorem dX6_carryAll_191 : decode cX6_carryAll 191 = .ok (.bipush 72, 2) := by decide +kernel
theorem dX6_carryAll_193 : decode cX6_carryAll 193 = .ok (.if_icmp .ge 25, 3) := by decide +kernel
theorem dX6_carryAll_196 : decode cX6_carryAll 196 = .ok (.aload_n 0, 1) := by decide +kernel
theorem dX6_carryAll_197 : decode cX6_carryAll 197 = .ok (.getfield 28, 3) := by decide +kernel
theorem dX6_carryAll_200 : decode cX6_carryAll 200 = .ok (.iload_n 3, 1) := by decide +kernel
theorem dX6_carryAll_201 : decode cX6_carryAll 201 = .ok (.aload_n 0, 1) := by decide +kernel
theorem dX6_carryAll_202 : decode cX6_carryAll 202 = .ok (.aload_n 0, 1) := by decide +kernel
theorem dX6_carryAll_203 : decode cX6_carryAll 203 = .ok (.getfield 28, 3) := by decide +kernel
theorem dX6_carryAll_206 : decode cX6_carryAll 206 = .ok (.iload_n 3, 1) := by decide +kernel
theorem dX6_carryAll_207 : decode cX6_carryAll 207 = .ok (.iaload, 1) := by decide +kernel
theorem dX6_carryAll_208 : decode cX6_carryAll 208 = .ok (.invokevirtual 195, 3) := by decide +kernel
theorem dX6_carryAll_211 : decode cX6_carryAll 211 = .ok (.iastore, 1) := by decide +kernel
theorem dX6_carryAll_212 : decode cX6_carryAll 212 = .ok (.iinc 3 1, 3) := by decide +kernel
theorem dX6_carryAll_215 : decode cX6_carryAll 215 = .ok (.goto (-25), 3) := by decide +kernel
theorem dX6_carryAll_218 : decode cX6_carryAll 218 = .ok (.return_, 1) := by decide +kernel
theorem dX6_image_0 : decode cX6_image 0 = .ok (.aload_n 0, 1) := by decide +kernel
theorem dX6_image_1 : decode cX6_image 1 = .ok (.iconst 0, 1) := by decide +kernel
theorem dX6_image_2 : decode cX6_image 2 = .ok (.putfield 55, 3) := by decide +kernel
theorem dX6_image_5 : decode cX6_image 5 = .ok (.aload_n 0, 1) := by decide +kernel
theorem dX6_image_6 : decode cX6_image 6 = .ok (.iconst 1, 1) := by decide +kernel
theorem dX6_image_7 : decode cX6_image 7 = .ok (.putfield 198, 3) := by decide +kernel
theorem dX6_image_10 : decode cX6_image 10 = .ok (.aload_n 0, 1) := by decide +kernel
theorem dX6_image_11 : decode cX6_image 11 = .ok (.aload_n 0, 1) := by decide +kernel
theorem dX6_image_12 : decode cX6_image 12 = .ok (.getfield 49, 3) := by decide +kernel
theorem dX6_image_15 : decode cX6_image 15 = .ok (.iconst 1, 1) := by decide +kernel
theorem dX6_image_16 : decode cX6_image 16 = .ok (.invokevirtual 179, 3) := by decide +kernel
theorem dX6_image_19 : decode cX6_image 19 = .ok (.aload_n 0, 1) := by decide +kernel
theorem dX6_image_20 : decode cX6_image 20 = .ok (.getfield 65, 3) := by decide +kernel
theorem dX6_image_23 : decode cX6_image 23 = .ok (.ireturn, 1) := by decide +kernel
theorem dX6_restore_0 : decode cX6_restore 0 = .ok (.aload_n 0, 1) := by decide +kernel
theorem dX6_restore_1 : decode cX6_restore 1 = .ok (.iconst 0, 1) := by decide +kernel
theorem dX6_restore_2 : decode cX6_restore 2 = .ok (.putfield 55, 3) := by decide +kernel
theorem dX6_restore_5 : decode cX6_restore 5 = .ok (.aload_n 0, 1) := by decide +kernel
theorem dX6_restore_6 : decode cX6_restore 6 = .ok (.getfield 198, 3) := by decide +kernel
theorem dX6_restore_9 : decode cX6_restore 9 = .ok (.ifCond .ne 10, 3) := by decide +kernel
theorem dX6_restore_12 : decode cX6_restore 12 = .ok (.aload_n 0, 1) := by decide +kernel
theorem dX6_restore_13 : decode cX6_restore 13 = .ok (.bipush (-3), 2) := by decide +kernel
theorem dX6_restore_15 : decode cX6_restore 15 = .ok (.invokevirtual 102, 3) := by decide +kernel
theorem dX6_restore_18 : decode cX6_restore 18 = .ok (.ireturn, 1) := by decide +kernel
theorem dX6_restore_19 : decode cX6_restore 19 = .ok (.aload_n 0, 1) := by decide +kernel
theorem dX6_restore_20 : decode cX6_restore 20 = .ok (.aload_n 0, 1) := by decide +kernel
theorem dX6_restore_21 : decode cX6_restore 21 = .ok (.getfield 49, 3) := by decide +kernel
theorem dX6_restore_24 : decode cX6_restore 24 = .ok (.iconst 0, 1) := by decide +kernel
theorem dX6_restore_25 : decode cX6_restore 25 = .ok (.invokevirtual 179, 3) := by decide +kernel
theorem dX6_restore_28 : decode cX6_restore 28 = .ok (.aload_n 0, 1) := by decide +kernel
theorem dX6_restore_29 : decode cX6_restore 29 = .ok (.getfield 65, 3) := by decide +kernel
theorem dX6_restore_32 : decode cX6_restore 32 = .ok (.ireturn, 1) := by decide +kernel
theorem dX6_ice_0 : decode cX6_ice 0 = .ok (.aload_n 0, 1) := by decide +kernel
theorem dX6_ice_1 : decode cX6_ice 1 = .ok (.iconst 0, 1) := by decide +kernel
theorem dX6_ice_2 : decode cX6_ice 2 = .ok (.putfield 55, 3) := by decide +kernel
theorem dX6_ice_5 : decode cX6_ice 5 = .ok (.iload_n 1, 1) := by decide +kernel
theorem dX6_ice_6 : decode cX6_ice 6 = .ok (.invokestatic 147, 3) := by decide +kernel
theorem dX6_ice_9 : decode cX6_ice 9 = .ok (.ifCond .eq 10, 3) := by decide +kernel
theorem dX6_ice_12 : decode cX6_ice 12 = .ok (.iload_n 2, 1) := by decide +kernel
theorem dX6_ice_13 : decode cX6_ice 13 = .ok (.invokestatic 151, 3) := by decide +kernel
theorem dX6_ice_16 : decode cX6_ice 16 = .ok (.ifCond .ne 9, 3) := by decide +kernel
theorem dX6_ice_19 : decode cX6_ice 19 = .ok (.aload_n 0, 1) := by decide +kernel
theorem dX6_ice_20 : decode cX6_ice 20 = .ok (.iconst (-1), 1) := by decide +kernel
theorem dX6_ice_21 : decode cX6_ice 21 = .ok (.invokevirtual 102, 3) := by decide +kernel
theorem dX6_ice_24 : decode cX6_ice 24 = .ok (.ireturn, 1) := by decide +kernel
theorem dX6_ice_25 : decode cX6_ice 25 = .ok (.iload_n 3, 1) := by decide +kernel
theorem dX6_ice_26 : decode cX6_ice 26 = .ok (.i2l, 1) := by decide +kernel
theorem dX6_ice_27 : decode cX6_ice 27 = .ok (.lconst 0, 1) := by decide +kernel
theorem dX6_ice_28 : decode cX6_ice 28 = .ok (.lconst 1, 1) := by decide +kernel
theorem dX6_ice_29 : decode cX6_ice 29 = .ok (.invokestatic 59, 3) := by decide +kernel
theorem dX6_ice_32 : decode cX6_ice 32 = .ok (.ifCond .ne 10, 3) := by decide +kernel
theorem dX6_ice_35 : decode cX6_ice 35 = .ok (.aload_n 0, 1) := by decide +kernel
theorem dX6_ice_36 : decode cX6_ice 36 = .ok (.bipush (-2), 2) := by decide +kernel
theorem dX6_ice_38 : decode cX6_ice 38 = .ok (.invokevirtual 102, 3) := by decide +kernel
theorem dX6_ice_41 : decode cX6_ice 41 = .ok (.ireturn, 1) := by decide +kernel
theorem dX6_ice_42 : decode cX6_ice 42 = .ok (.iload_n 3, 1) := by decide +kernel
theorem dX6_ice_43 : decode cX6_ice 43 = .ok (.ifCond .ne 17, 3) := by decide +kernel
theorem dX6_ice_46 : decode cX6_ice 46 = .ok (.aload_n 0, 1) := by decide +kernel
theorem dX6_ice_47 : decode cX6_ice 47 = .ok (.getfield 7, 3) := by decide +kernel
theorem dX6_ice_50 : decode cX6_ice 50 = .ok (.bipush 12, 2) := by decide +kernel
theorem dX6_ice_52 : decode cX6_ice 52 = .ok (.iload_n 1, 1) := by decide +kernel
theorem dX6_ice_53 : decode cX6_ice 53 = .ok (.imul, 1) := by decide +kernel
theorem dX6_ice_54 : decode cX6_ice 54 = .ok (.iload_n 2, 1) := by decide +kernel
theorem dX6_ice_55 : decode cX6_ice 55 = .ok (.iadd, 1) := by decide +kernel
theorem dX6_ice_56 : decode cX6_ice 56 = .ok (.iaload, 1) := by decide +kernel
theorem dX6_ice_57 : decode cX6_ice 57 = .ok (.goto 14, 3) := by decide +kernel
theorem dX6_ice_60 : decode cX6_ice 60 = .ok (.aload_n 0, 1) := by decide +kernel
theorem dX6_ice_61 : decode cX6_ice 61 = .ok (.getfield 13, 3) := by decide +kernel
theorem dX6_ice_64 : decode cX6_ice 64 = .ok (.bipush 12, 2) := by decide +kernel
theorem dX6_ice_66 : decode cX6_ice 66 = .ok (.iload_n 1, 1) := by decide +kernel
theorem dX6_ice_67 : decode cX6_ice 67 = .ok (.imul, 1) := by decide +kernel
theorem dX6_ice_68 : decode cX6_ice 68 = .ok (.iload_n 2, 1) := by decide +kernel
theorem dX6_ice_69 : decode cX6_ice 69 = .ok (.iadd, 1) := by decide +kernel
theorem dX6_ice_70 : decode cX6_ice 70 = .ok (.iaload, 1) := by decide +kernel
theorem dX6_ice_71 : decode cX6_ice 71 = .ok (.ireturn, 1) := by decide +kernel
theorem dX6_lay_0 : decode cX6_lay 0 = .ok (.aload_n 0, 1) := by decide +kernel
theorem dX6_lay_1 : decode cX6_lay 1 = .ok (.iconst 0, 1) := by decide +kernel
theorem dX6_lay_2 : decode cX6_lay 2 = .ok (.putfield 55, 3) := by decide +kernel
theorem dX6_lay_5 : decode cX6_lay 5 = .ok (.iload_n 1, 1) := by decide +kernel
theorem dX6_lay_6 : decode cX6_lay 6 = .ok (.invokestatic 147, 3) := by decide +kernel
theorem dX6_lay_9 : decode cX6_lay 9 = .ok (.ifCond .eq 10, 3) := by decide +kernel
theorem dX6_lay_12 : decode cX6_lay 12 = .ok (.iload_n 2, 1) := by decide +kernel
theorem dX6_lay_13 : decode cX6_lay 13 = .ok (.invokestatic 151, 3) := by decide +kernel
theorem dX6_lay_16 : decode cX6_lay 16 = .ok (.ifCond .ne 7, 3) := by decide +kernel
theorem dX6_lay_19 : decode cX6_lay 19 = .ok (.iconst (-1), 1) := by decide +kernel
theorem dX6_lay_20 : decode cX6_lay 20 = .ok (.goto 34, 3) := by decide +kernel
theorem dX6_lay_23 : decode cX6_lay 23 = .ok (.iload_n 3, 1) := by decide +kernel
theorem dX6_lay_24 : decode cX6_lay 24 = .ok (.i2l, 1) := by decide +kernel
theorem dX6_lay_25 : decode cX6_lay 25 = .ok (.lconst 0, 1) := by decide +kernel
theorem dX6_lay_26 : decode cX6_lay 26 = .ok (.lconst 1, 1) := by decide +kernel
theorem dX6_lay_27 : decode cX6_lay 27 = .ok (.invokestatic 59, 3) := by decide +kernel
theorem dX6_lay_30 : decode cX6_lay 30 = .ok (.ifCond .ne 8, 3) := by decide +kernel
theorem dX6_lay_33 : decode cX6_lay 33 = .ok (.bipush (-2), 2) := by decide +kernel
theorem dX6_lay_35 : decode cX6_lay 35 = .ok (.goto 19, 3) := by decide +kernel
theorem dX6_lay_38 : decode cX6_lay 38 = .ok (.iload 4, 2) := by decide +kernel
theorem dX6_lay_40 : decode cX6_lay 40 = .ok (.iconst 0, 1) := by decide +kernel
theorem dX6_lay_41 : decode cX6_lay 41 = .ok (.iload_n 3, 1) := by decide +kernel
theorem dX6_lay_42 : decode cX6_lay 42 = .ok (.ifCond .ne 7, 3) := by decide +kernel
theorem dX6_lay_45 : decode cX6_lay 45 = .ok (.iconst 3, 1) := by decide +kernel
theorem dX6_lay_46 : decode cX6_lay 46 = .ok (.goto 5, 3) := by decide +kernel
theorem dX6_lay_49 : decode cX6_lay 49 = .ok (.bipush 99, 2) := by decide +kernel
theorem dX6_lay_51 : decode cX6_lay 51 = .ok (.invokestatic 201, 3) := by decide +kernel
theorem dX6_lay_54 : decode cX6_lay 54 = .ok (.istore 5, 2) := by decide +kernel
theorem dX6_lay_56 : decode cX6_lay 56 = .ok (.iload 5, 2) := by decide +kernel
theorem dX6_lay_58 : decode cX6_lay 58 = .ok (.ifCond .ge 10, 3) := by decide +kernel
theorem dX6_lay_61 : decode cX6_lay 61 = .ok (.aload_n 0, 1) := by decide +kernel
theorem dX6_lay_62 : decode cX6_lay 62 = .ok (.iload 5, 2) := by decide +kernel
theorem dX6_lay_64 : decode cX6_lay 64 = .ok (.invokevirtual 102, 3) := by decide +kernel
theorem dX6_lay_67 : decode cX6_lay 67 = .ok (.ireturn, 1) := by decide +kernel
theorem dX6_lay_68 : decode cX6_lay 68 = .ok (.bipush 12, 2) := by decide +kernel
theorem dX6_lay_70 : decode cX6_lay 70 = .ok (.iload_n 1, 1) := by decide +kernel
theorem dX6_lay_71 : decode cX6_lay 71 = .ok (.imul, 1) := by decide +kernel
theorem dX6_lay_72 : decode cX6_lay 72 = .ok (.iload_n 2, 1) := by decide +kernel
theorem dX6_lay_73 : decode cX6_lay 73 = .ok (.iadd, 1) := by decide +kernel
theorem dX6_lay_74 : decode cX6_lay 74 = .ok (.istore 6, 2) := by decide +kernel
theorem dX6_lay_76 : decode cX6_lay 76 = .ok (.iload_n 3, 1) := by decide +kernel
theorem dX6_lay_77 : decode cX6_lay 77 = .ok (.ifCond .ne 13, 3) := by decide +kernel
theorem dX6_lay_80 : decode cX6_lay 80 = .ok (.aload_n 0, 1) := by decide +kernel
theorem dX6_lay_81 : decode cX6_lay 81 = .ok (.getfield 7, 3) := by decide +kernel
theorem dX6_lay_84 : decode cX6_lay 84 = .ok (.iload 6, 2) := by decide +kernel
theorem dX6_lay_86 : decode cX6_lay 86 = .ok (.iaload, 1) := by decide +kernel
theorem dX6_lay_87 : decode cX6_lay 87 = .ok (.goto 10, 3) := by decide +kernel
theorem dX6_lay_90 : decode cX6_lay 90 = .ok (.aload_n 0, 1) := by decide +kernel
theorem dX6_lay_91 : decode cX6_lay 91 = .ok (.getfield 13, 3) := by decide +kernel
theorem dX6_lay_94 : decode cX6_lay 94 = .ok (.iload 6, 2) := by decide +kernel
theorem dX6_lay_96 : decode cX6_lay 96 = .ok (.iaload, 1) := by decide +kernel
theorem dX6_lay_97 : decode cX6_lay 97 = .ok (.istore 7, 2) := by decide +kernel
theorem dX6_lay_99 : decode cX6_lay 99 = .ok (.aload_n 0, 1) := by decide +kernel
theorem dX6_lay_100 : decode cX6_lay 100 = .ok (.getfield 7, 3) := by decide +kernel
theorem dX6_lay_103 : decode cX6_lay 103 = .ok (.iload 6, 2) := by decide +kernel
theorem dX6_lay_105 : decode cX6_lay 105 = .ok (.iload_n 3, 1) := by decide +kernel
theorem dX6_lay_106 : decode cX6_lay 106 = .ok (.ifCond .ne 8, 3) := by decide +kernel
theorem dX6_lay_109 : decode cX6_lay 109 = .ok (.iload 4, 2) := by decide +kernel
theorem dX6_lay_111 : decode cX6_lay 111 = .ok (.goto 10, 3) := by decide +kernel
theorem dX6_lay_114 : decode cX6_lay 114 = .ok (.aload_n 0, 1) := by decide +kernel
theorem dX6_lay_115 : decode cX6_lay 115 = .ok (.getfield 7, 3) := by decide +kernel
theorem dX6_lay_118 : decode cX6_lay 118 = .ok (.iload 6, 2) := by decide +kernel
theorem dX6_lay_120 : decode cX6_lay 120 = .ok (.iaload, 1) := by decide +kernel
theorem dX6_lay_121 : decode cX6_lay 121 = .ok (.iastore, 1) := by decide +kernel
theorem dX6_lay_122 : decode cX6_lay 122 = .ok (.aload_n 0, 1) := by decide +kernel
theorem dX6_lay_123 : decode cX6_lay 123 = .ok (.getfield 13, 3) := by decide +kernel
theorem dX6_lay_126 : decode cX6_lay 126 = .ok (.iload 6, 2) := by decide +kernel
theorem dX6_lay_128 : decode cX6_lay 128 = .ok (.iload_n 3, 1) := by decide +kernel
theorem dX6_lay_129 : decode cX6_lay 129 = .ok (.iconst 1, 1) := by decide +kernel
theorem dX6_lay_130 : decode cX6_lay 130 = .ok (.if_icmp .ne 8, 3) := by decide +kernel
theorem dX6_lay_133 : decode cX6_lay 133 = .ok (.iload 4, 2) := by decide +kernel
theorem dX6_lay_135 : decode cX6_lay 135 = .ok (.goto 10, 3) := by decide +kernel
theorem dX6_lay_138 : decode cX6_lay 138 = .ok (.aload_n 0, 1) := by decide +kernel
theorem dX6_lay_139 : decode cX6_lay 139 = .ok (.getfield 13, 3) := by decide +kernel
theorem dX6_lay_142 : decode cX6_lay 142 = .ok (.iload 6, 2) := by decide +kernel
theorem dX6_lay_144 : decode cX6_lay 144 = .ok (.iaload, 1) := by decide +kernel
theorem dX6_lay_145 : decode cX6_lay 145 = .ok (.iastore, 1) := by decide +kernel
theorem dX6_lay_146 : decode cX6_lay 146 = .ok (.iload 7, 2) := by decide +kernel
theorem dX6_lay_148 : decode cX6_lay 148 = .ok (.ireturn, 1) := by decide +kernel
theorem dX6_set_0 : decode cX6_set 0 = .ok (.aload_n 0, 1) := by decide +kernel
theorem dX6_set_1 : decode cX6_set 1 = .ok (.iconst 0, 1) := by decide +kernel
theorem dX6_set_2 : decode cX6_set 2 = .ok (.putfield 55, 3) := by decide +kernel
theorem dX6_set_5 : decode cX6_set 5 = .ok (.iload_n 1, 1) := by decide +kernel
theorem dX6_set_6 : decode cX6_set 6 = .ok (.i2l, 1) := by decide +kernel
theorem dX6_set_7 : decode cX6_set 7 = .ok (.lconst 0, 1) := by decide +kernel
theorem dX6_set_8 : decode cX6_set 8 = .ok (.ldc2_w 139, 3) := by decide +kernel
theorem dX6_set_11 : decode cX6_set 11 = .ok (.invokestatic 59, 3) := by decide +kernel
theorem dX6_set_14 : decode cX6_set 14 = .ok (.ifCond .eq 18, 3) := by decide +kernel
theorem dX6_set_17 : decode cX6_set 17 = .ok (.iload_n 2, 1) := by decide +kernel
theorem dX6_set_18 : decode cX6_set 18 = .ok (.iload_n 1, 1) := by decide +kernel
theorem dX6_set_19 : decode cX6_set 19 = .ok (.invokestatic 141, 3) := by decide +kernel
theorem dX6_set_22 : decode cX6_set 22 = .ok (.iload_n 1, 1) := by decide +kernel
theorem dX6_set_23 : decode cX6_set 23 = .ok (.invokestatic 144, 3) := by decide +kernel
theorem dX6_set_26 : decode cX6_set 26 = .ok (.invokestatic 201, 3) := by decide +kernel
theorem dX6_set_29 : decode cX6_set 29 = .ok (.goto 4, 3) := by decide +kernel
theorem dX6_set_32 : decode cX6_set 32 = .ok (.iconst (-1), 1) := by decide +kernel
theorem dX6_set_33 : decode cX6_set 33 = .ok (.istore_n 3, 1) := by decide +kernel
theorem dX6_set_34 : decode cX6_set 34 = .ok (.iload_n 3, 1) := by decide +kernel
theorem dX6_set_35 : decode cX6_set 35 = .ok (.ifCond .ge 9, 3) := by decide +kernel
theorem dX6_set_38 : decode cX6_set 38 = .ok (.aload_n 0, 1) := by decide +kernel
theorem dX6_set_39 : decode cX6_set 39 = .ok (.iload_n 3, 1) := by decide +kernel
theorem dX6_set_40 : decode cX6_set 40 = .ok (.invokevirtual 102, 3) := by decide +kernel
theorem dX6_set_43 : decode cX6_set 43 = .ok (.ireturn, 1) := by decide +kernel
theorem dX6_set_44 : decode cX6_set 44 = .ok (.aload_n 0, 1) := by decide +kernel
theorem dX6_set_45 : decode cX6_set 45 = .ok (.getfield 16, 3) := by decide +kernel
theorem dX6_set_48 : decode cX6_set 48 = .ok (.iload_n 1, 1) := by decide +kernel
theorem dX6_set_49 : decode cX6_set 49 = .ok (.iaload, 1) := by decide +kernel
theorem dX6_set_50 : decode cX6_set 50 = .ok (.istore 4, 2) := by decide +kernel
theorem dX6_set_52 : decode cX6_set 52 = .ok (.aload_n 0, 1) := by decide +kernel
theorem dX6_set_53 : decode cX6_set 53 = .ok (.getfield 16, 3) := by decide +kernel
theorem dX6_set_56 : decode cX6_set 56 = .ok (.iload_n 1, 1) := by decide +kernel
theorem dX6_set_57 : decode cX6_set 57 = .ok (.iload_n 2, 1) := by decide +kernel
theorem dX6_set_58 : decode cX6_set 58 = .ok (.iastore, 1) := by decide +kernel
theorem dX6_set_59 : decode cX6_set 59 = .ok (.iload 4, 2) := by decide +kernel
theorem dX6_set_61 : decode cX6_set 61 = .ok (.ireturn, 1) := by decide +kernel
theorem dX6_skater_0 : decode cX6_skater 0 = .ok (.aload_n 0, 1) := by decide +kernel
theorem dX6_skater_1 : decode cX6_skater 1 = .ok (.iconst 0, 1) := by decide +kernel
theorem dX6_skater_2 : decode cX6_skater 2 = .ok (.putfield 55, 3) := by decide +kernel
theorem dX6_skater_5 : decode cX6_skater 5 = .ok (.iload_n 1, 1) := by decide +kernel
theorem dX6_skater_6 : decode cX6_skater 6 = .ok (.i2l, 1) := by decide +kernel
theorem dX6_skater_7 : decode cX6_skater 7 = .ok (.lconst 0, 1) := by decide +kernel
theorem dX6_skater_8 : decode cX6_skater 8 = .ok (.ldc2_w 204, 3) := by decide +kernel
theorem dX6_skater_11 : decode cX6_skater 11 = .ok (.invokestatic 59, 3) := by decide +kernel
theorem dX6_skater_14 : decode cX6_skater 14 = .ok (.ifCond .eq 13, 3) := by decide +kernel
theorem dX6_skater_17 : decode cX6_skater 17 = .ok (.iload_n 2, 1) := by decide +kernel
theorem dX6_skater_18 : decode cX6_skater 18 = .ok (.iconst 0, 1) := by decide +kernel
theorem dX6_skater_19 : decode cX6_skater 19 = .ok (.bipush 9, 2) := by decide +kernel
theorem dX6_skater_21 : decode cX6_skater 21 = .ok (.invokestatic 201, 3) := by decide +kernel
theorem dX6_skater_24 : decode cX6_skater 24 = .ok (.goto 5, 3) := by decide +kernel
theorem dX6_skater_27 : decode cX6_skater 27 = .ok (.bipush (-2), 2) := by decide +kernel
theorem dX6_skater_29 : decode cX6_skater 29 = .ok (.istore_n 3, 1) := by decide +kernel
theorem dX6_skater_30 : decode cX6_skater 30 = .ok (.iload_n 3, 1) := by decide +kernel
theorem dX6_skater_31 : decode cX6_skater 31 = .ok (.ifCond .ge 9, 3) := by decide +kernel
theorem dX6_skater_34 : decode cX6_skater 34 = .ok (.aload_n 0, 1) := by decide +kernel
theorem dX6_skater_35 : decode cX6_skater 35 = .ok (.iload_n 3, 1) := by decide +kernel
theorem dX6_skater_36 : decode cX6_skater 36 = .ok (.invokevirtual 102, 3) := by decide +kernel
theorem dX6_skater_39 : decode cX6_skater 39 = .ok (.ireturn, 1) := by decide +kernel
theorem dX6_skater_40 : decode cX6_skater 40 = .ok (.bipush 10, 2) := by decide +kernel
theorem dX6_skater_42 : decode cX6_skater 42 = .ok (.aload_n 0, 1) := by decide +kernel
theorem dX6_skater_43 : decode cX6_skater 43 = .ok (.getfield 157, 3) := by decide +kernel
theorem dX6_skater_46 : decode cX6_skater 46 = .ok (.imul, 1) := by decide +kernel
theorem dX6_skater_47 : decode cX6_skater 47 = .ok (.aload_n 0, 1) := by decide +kernel
theorem dX6_skater_48 : decode cX6_skater 48 = .ok (.getfield 75, 3) := by decide +kernel
theorem dX6_skater_51 : decode cX6_skater 51 = .ok (.iadd, 1) := by decide +kernel
theorem dX6_skater_52 : decode cX6_skater 52 = .ok (.istore 4, 2) := by decide +kernel
theorem dX6_skater_54 : decode cX6_skater 54 = .ok (.aload_n 0, 1) := by decide +kernel
theorem dX6_skater_55 : decode cX6_skater 55 = .ok (.iload_n 1, 1) := by decide +kernel
theorem dX6_skater_56 : decode cX6_skater 56 = .ok (.putfield 157, 3) := by decide +kernel
theorem dX6_skater_59 : decode cX6_skater 59 = .ok (.aload_n 0, 1) := by decide +kernel
theorem dX6_skater_60 : decode cX6_skater 60 = .ok (.iload_n 2, 1) := by decide +kernel
theorem dX6_skater_61 : decode cX6_skater 61 = .ok (.putfield 75, 3) := by decide +kernel
theorem dX6_skater_64 : decode cX6_skater 64 = .ok (.iload 4, 2) := by decide +kernel
theorem dX6_skater_66 : decode cX6_skater 66 = .ok (.ireturn, 1) := by decide +kernel
theorem dX6_draw_0 : decode cX6_draw 0 = .ok (.aload_n 0, 1) := by decide +kernel
theorem dX6_draw_1 : decode cX6_draw 1 = .ok (.iconst 0, 1) := by decide +kernel
theorem dX6_draw_2 : decode cX6_draw 2 = .ok (.putfield 55, 3) := by decide +kernel
theorem dX6_draw_5 : decode cX6_draw 5 = .ok (.iload_n 1, 1) := by decide +kernel
theorem dX6_draw_6 : decode cX6_draw 6 = .ok (.invokestatic 147, 3) := by decide +kernel
theorem dX6_draw_9 : decode cX6_draw 9 = .ok (.ifCond .eq 11, 3) := by decide +kernel
theorem dX6_draw_12 : decode cX6_draw 12 = .ok (.iload_n 2, 1) := by decide +kernel
theorem dX6_draw_13 : decode cX6_draw 13 = .ok (.iload_n 3, 1) := by decide +kernel
theorem dX6_draw_14 : decode cX6_draw 14 = .ok (.invokestatic 154, 3) := by decide +kernel
theorem dX6_draw_17 : decode cX6_draw 17 = .ok (.goto 4, 3) := by decide +kernel
theorem dX6_draw_20 : decode cX6_draw 20 = .ok (.iconst (-1), 1) := by decide +kernel
theorem dX6_draw_21 : decode cX6_draw 21 = .ok (.istore 4, 2) := by decide +kernel
theorem dX6_draw_23 : decode cX6_draw 23 = .ok (.iload 4, 2) := by decide +kernel
theorem dX6_draw_25 : decode cX6_draw 25 = .ok (.ifCond .ne 17, 3) := by decide +kernel
theorem dX6_draw_28 : decode cX6_draw 28 = .ok (.aload_n 0, 1) := by decide +kernel
theorem dX6_draw_29 : decode cX6_draw 29 = .ok (.getfield 65, 3) := by decide +kernel
theorem dX6_draw_32 : decode cX6_draw 32 = .ok (.bipush 6, 2) := by decide +kernel
theorem dX6_draw_34 : decode cX6_draw 34 = .ok (.if_icmp .ne 8, 3) := by decide +kernel
theorem dX6_draw_37 : decode cX6_draw 37 = .ok (.bipush (-6), 2) := by decide +kernel
theorem dX6_draw_39 : decode cX6_draw 39 = .ok (.goto 5, 3) := by decide +kernel
theorem dX6_draw_42 : decode cX6_draw 42 = .ok (.iload 4, 2) := by decide +kernel
theorem dX6_draw_44 : decode cX6_draw 44 = .ok (.istore 4, 2) := by decide +kernel
theorem dX6_draw_46 : decode cX6_draw 46 = .ok (.iload 4, 2) := by decide +kernel
theorem dX6_draw_48 : decode cX6_draw 48 = .ok (.ifCond .ge 12, 3) := by decide +kernel
theorem dX6_draw_51 : decode cX6_draw 51 = .ok (.aload_n 0, 1) := by decide +kernel
theorem dX6_draw_52 : decode cX6_draw 52 = .ok (.iload 4, 2) := by decide +kernel
theorem dX6_draw_54 : decode cX6_draw 54 = .ok (.invokevirtual 102, 3) := by decide +kernel
theorem dX6_draw_57 : decode cX6_draw 57 = .ok (.goto 14, 3) := by decide +kernel
theorem dX6_draw_60 : decode cX6_draw 60 = .ok (.aload_n 0, 1) := by decide +kernel
theorem dX6_draw_61 : decode cX6_draw 61 = .ok (.aload_n 0, 1) := by decide +kernel
theorem dX6_draw_62 : decode cX6_draw 62 = .ok (.getfield 157, 3) := by decide +kernel
theorem dX6_draw_65 : decode cX6_draw 65 = .ok (.iload_n 1, 1) := by decide +kernel
theorem dX6_draw_66 : decode cX6_draw 66 = .ok (.iload_n 2, 1) := by decide +kernel
theorem dX6_draw_67 : decode cX6_draw 67 = .ok (.iload_n 3, 1) := by decide +kernel
theorem dX6_draw_68 : decode cX6_draw 68 = .ok (.invokevirtual 160, 3) := by decide +kernel
theorem dX6_draw_71 : decode cX6_draw 71 = .ok (.ireturn, 1) := by decide +kernel
theorem dX6_sweep_0 : decode cX6_sweep 0 = .ok (.aload_n 0, 1) := by decide +kernel
theorem dX6_sweep_1 : decode cX6_sweep 1 = .ok (.iconst 0, 1) := by decide +kernel
theorem dX6_sweep_2 : decode cX6_sweep 2 = .ok (.putfield 55, 3) := by decide +kernel
theorem dX6_sweep_5 : decode cX6_sweep 5 = .ok (.aload_n 0, 1) := by decide +kernel
theorem dX6_sweep_6 : decode cX6_sweep 6 = .ok (.getfield 65, 3) := by decide +kernel
theorem dX6_sweep_9 : decode cX6_sweep 9 = .ok (.istore_n 1, 1) := by decide +kernel
theorem dX6_sweep_10 : decode cX6_sweep 10 = .ok (.aload_n 0, 1) := by decide +kernel
theorem dX6_sweep_11 : decode cX6_sweep 11 = .ok (.iconst 0, 1) := by decide +kernel
theorem dX6_sweep_12 : decode cX6_sweep 12 = .ok (.putfield 65, 3) := by decide +kernel
theorem dX6_sweep_15 : decode cX6_sweep 15 = .ok (.iload_n 1, 1) := by decide +kernel
theorem dX6_sweep_16 : decode cX6_sweep 16 = .ok (.ireturn, 1) := by decide +kernel
theorem dX6_trace_0 : decode cX6_trace 0 = .ok (.aload_n 0, 1) := by decide +kernel
theorem dX6_trace_1 : decode cX6_trace 1 = .ok (.iconst 0, 1) := by decide +kernel
theorem dX6_trace_2 : decode cX6_trace 2 = .ok (.putfield 55, 3) := by decide +kernel
theorem dX6_trace_5 : decode cX6_trace 5 = .ok (.aload_n 0, 1) := by decide +kernel
theorem dX6_trace_6 : decode cX6_trace 6 = .ok (.iload_n 1, 1) := by decide +kernel
theorem dX6_trace_7 : decode cX6_trace 7 = .ok (.invokevirtual 206, 3) := by decide +kernel
theorem dX6_trace_10 : decode cX6_trace 10 = .ok (.ifCond .eq 24, 3) := by decide +kernel
theorem dX6_trace_13 : decode cX6_trace 13 = .ok (.iload_n 2, 1) := by decide +kernel
theorem dX6_trace_14 : decode cX6_trace 14 = .ok (.invokestatic 151, 3) := by decide +kernel
theorem dX6_trace_17 : decode cX6_trace 17 = .ok (.ifCond .eq 17, 3) := by decide +kernel
theorem dX6_trace_20 : decode cX6_trace 20 = .ok (.aload_n 0, 1) := by decide +kernel
theorem dX6_trace_21 : decode cX6_trace 21 = .ok (.getfield 28, 3) := by decide +kernel
theorem dX6_trace_24 : decode cX6_trace 24 = .ok (.bipush 12, 2) := by decide +kernel
theorem dX6_trace_26 : decode cX6_trace 26 = .ok (.iload_n 1, 1) := by decide +kernel
theorem dX6_trace_27 : decode cX6_trace 27 = .ok (.imul, 1) := by decide +kernel
theorem dX6_trace_28 : decode cX6_trace 28 = .ok (.iload_n 2, 1) := by decide +kernel
theorem dX6_trace_29 : decode cX6_trace 29 = .ok (.iadd, 1) := by decide +kernel
theorem dX6_trace_30 : decode cX6_trace 30 = .ok (.iaload, 1) := by decide +kernel
theorem dX6_trace_31 : decode cX6_trace 31 = .ok (.goto 8, 3) := by decide +kernel
theorem dX6_trace_34 : decode cX6_trace 34 = .ok (.aload_n 0, 1) := by decide +kernel
theorem dX6_trace_35 : decode cX6_trace 35 = .ok (.iconst (-1), 1) := by decide +kernel
theorem dX6_trace_36 : decode cX6_trace 36 = .ok (.invokevirtual 102, 3) := by decide +kernel
theorem dX6_trace_39 : decode cX6_trace 39 = .ok (.ireturn, 1) := by decide +kernel
theorem dX6_of_0 : decode cX6_of 0 = .ok (.aload_n 0, 1) := by decide +kernel
theorem dX6_of_1 : decode cX6_of 1 = .ok (.iconst 0, 1) := by decide +kernel
theorem dX6_of_2 : decode cX6_of 2 = .ok (.putfield 55, 3) := by decide +kernel
theorem dX6_of_5 : decode cX6_of 5 = .ok (.aload_n 0, 1) := by decide +kernel
theorem dX6_of_6 : decode cX6_of 6 = .ok (.iload_n 1, 1) := by decide +kernel
theorem dX6_of_7 : decode cX6_of 7 = .ok (.invokevirtual 206, 3) := by decide +kernel
theorem dX6_of_10 : decode cX6_of 10 = .ok (.ifCond .eq 15, 3) := by decide +kernel
theorem dX6_of_13 : decode cX6_of 13 = .ok (.iload_n 2, 1) := by decide +kernel
theorem dX6_of_14 : decode cX6_of 14 = .ok (.i2l, 1) := by decide +kernel
theorem dX6_of_15 : decode cX6_of 15 = .ok (.lconst 0, 1) := by decide +kernel
theorem dX6_of_16 : decode cX6_of 16 = .ok (.ldc2_w 209, 3) := by decide +kernel
theorem dX6_of_19 : decode cX6_of 19 = .ok (.invokestatic 59, 3) := by decide +kernel
theorem dX6_of_22 : decode cX6_of 22 = .ok (.ifCond .ne 22, 3) := by decide +kernel
theorem dX6_of_25 : decode cX6_of 25 = .ok (.aload_n 0, 1) := by decide +kernel
theorem dX6_of_26 : decode cX6_of 26 = .ok (.aload_n 0, 1) := by decide +kernel
theorem dX6_of_27 : decode cX6_of 27 = .ok (.iload_n 1, 1) := by decide +kernel
theorem dX6_of_28 : decode cX6_of 28 = .ok (.invokevirtual 206, 3) := by decide +kernel
theorem dX6_of_31 : decode cX6_of 31 = .ok (.ifCond .eq 8, 3) := by decide +kernel
theorem dX6_of_34 : decode cX6_of 34 = .ok (.bipush (-2), 2) := by decide +kernel
theorem dX6_of_36 : decode cX6_of 36 = .ok (.goto 4, 3) := by decide +kernel
theorem dX6_of_39 : decode cX6_of 39 = .ok (.iconst (-1), 1) := by decide +kernel
theorem dX6_of_40 : decode cX6_of 40 = .ok (.invokevirtual 102, 3) := by decide +kernel
theorem dX6_of_43 : decode cX6_of 43 = .ok (.ireturn, 1) := by decide +kernel
theorem dX6_of_44 : decode cX6_of 44 = .ok (.iload_n 2, 1) := by decide +kernel
theorem dX6_of_45 : decode cX6_of 45 = .ok (.tableswitch 103 0 7 #[47, 54, 61, 68, 74, 80, 86, 92], 47) := by decide +kernel
theorem dX6_of_92 : decode cX6_of 92 = .ok (.aload_n 0, 1) := by decide +kernel
theorem dX6_of_93 : decode cX6_of 93 = .ok (.getfield 19, 3) := by decide +kernel
theorem dX6_of_96 : decode cX6_of 96 = .ok (.iload_n 1, 1) := by decide +kernel
theorem dX6_of_97 : decode cX6_of 97 = .ok (.iaload, 1) := by decide +kernel
theorem dX6_of_98 : decode cX6_of 98 = .ok (.ireturn, 1) := by decide +kernel
theorem dX6_of_99 : decode cX6_of 99 = .ok (.aload_n 0, 1) := by decide +kernel
theorem dX6_of_100 : decode cX6_of 100 = .ok (.getfield 22, 3) := by decide +kernel
theorem dX6_of_103 : decode cX6_of 103 = .ok (.iload_n 1, 1) := by decide +kernel
theorem dX6_of_104 : decode cX6_of 104 = .ok (.iaload, 1) := by decide +kernel
theorem dX6_of_105 : decode cX6_of 105 = .ok (.ireturn, 1) := by decide +kernel
theorem dX6_of_106 : decode cX6_of 106 = .ok (.aload_n 0, 1) := by decide +kernel
theorem dX6_of_107 : decode cX6_of 107 = .ok (.getfield 25, 3) := by decide +kernel
theorem dX6_of_110 : decode cX6_of 110 = .ok (.iload_n 1, 1) := by decide +kernel
theorem dX6_of_111 : decode cX6_of 111 = .ok (.iaload, 1) := by decide +kernel
theorem dX6_of_112 : decode cX6_of 112 = .ok (.ireturn, 1) := by decide +kernel
theorem dX6_of_113 : decode cX6_of 113 = .ok (.aload_n 0, 1) := by decide +kernel
theorem dX6_of_114 : decode cX6_of 114 = .ok (.iload_n 1, 1) := by decide +kernel
theorem dX6_of_115 : decode cX6_of 115 = .ok (.invokevirtual 211, 3) := by decide +kernel
theorem dX6_of_118 : decode cX6_of 118 = .ok (.ireturn, 1) := by decide +kernel
theorem dX6_of_119 : decode cX6_of 119 = .ok (.aload_n 0, 1) := by decide +kernel
theorem dX6_of_120 : decode cX6_of 120 = .ok (.iload_n 1, 1) := by decide +kernel
theorem dX6_of_121 : decode cX6_of 121 = .ok (.invokevirtual 214, 3) := by decide +kernel
theorem dX6_of_124 : decode cX6_of 124 = .ok (.ireturn, 1) := by decide +kernel
theorem dX6_of_125 : decode cX6_of 125 = .ok (.aload_n 0, 1) := by decide +kernel
theorem dX6_of_126 : decode cX6_of 126 = .ok (.iload_n 1, 1) := by decide +kernel
theorem dX6_of_127 : decode cX6_of 127 = .ok (.invokevirtual 217, 3) := by decide +kernel
theorem dX6_of_130 : decode cX6_of 130 = .ok (.ireturn, 1) := by decide +kernel
theorem dX6_of_131 : decode cX6_of 131 = .ok (.aload_n 0, 1) := by decide +kernel
theorem dX6_of_132 : decode cX6_of 132 = .ok (.iload_n 1, 1) := by decide +kernel
theorem dX6_of_133 : decode cX6_of 133 = .ok (.invokevirtual 220, 3) := by decide +kernel
theorem dX6_of_136 : decode cX6_of 136 = .ok (.ireturn, 1) := by decide +kernel
theorem dX6_of_137 : decode cX6_of 137 = .ok (.aload_n 0, 1) := by decide +kernel
theorem dX6_of_138 : decode cX6_of 138 = .ok (.iload_n 1, 1) := by decide +kernel
theorem dX6_of_139 : decode cX6_of 139 = .ok (.aload_n 0, 1) := by decide +kernel
theorem dX6_of_140 : decode cX6_of 140 = .ok (.iload_n 1, 1) := by decide +kernel
theorem dX6_of_141 : decode cX6_of 141 = .ok (.invokevirtual 220, 3) := by decide +kernel
theorem dX6_of_144 : decode cX6_of 144 = .ok (.invokevirtual 99, 3) := by decide +kernel
theorem dX6_of_147 : decode cX6_of 147 = .ok (.ireturn, 1) := by decide +kernel
theorem dX6_of_148 : decode cX6_of 148 = .ok (.aload_n 0, 1) := by decide +kernel
theorem dX6_of_149 : decode cX6_of 149 = .ok (.iload_n 1, 1) := by decide +kernel
theorem dX6_of_150 : decode cX6_of 150 = .ok (.invokevirtual 223, 3) := by decide +kernel
theorem dX6_of_153 : decode cX6_of 153 = .ok (.ireturn, 1) := by decide +kernel
theorem dX6_divisor_0 : decode cX6_divisor 0 = .ok (.iload_n 0, 1) := by decide +kernel
theorem dX6_divisor_1 : decode cX6_divisor 1 = .ok (.istore_n 2, 1) := by decide +kernel
theorem dX6_divisor_2 : decode cX6_divisor 2 = .ok (.iload_n 1, 1) := by decide +kernel
theorem dX6_divisor_3 : decode cX6_divisor 3 = .ok (.istore_n 3, 1) := by decide +kernel
theorem dX6_divisor_4 : decode cX6_divisor 4 = .ok (.iload_n 3, 1) := by decide +kernel
theorem dX6_divisor_5 : decode cX6_divisor 5 = .ok (.ifCond .eq 16, 3) := by decide +kernel
theorem dX6_divisor_8 : decode cX6_divisor 8 = .ok (.iload_n 2, 1) := by decide +kernel
theorem dX6_divisor_9 : decode cX6_divisor 9 = .ok (.iload_n 3, 1) := by decide +kernel
theorem dX6_divisor_10 : decode cX6_divisor 10 = .ok (.irem, 1) := by decide +kernel
theorem dX6_divisor_11 : decode cX6_divisor 11 = .ok (.istore 4, 2) := by decide +kernel
theorem dX6_divisor_13 : decode cX6_divisor 13 = .ok (.iload_n 3, 1) := by decide +kernel
theorem dX6_divisor_14 : decode cX6_divisor 14 = .ok (.istore_n 2, 1) := by decide +kernel
theorem dX6_divisor_15 : decode cX6_divisor 15 = .ok (.iload 4, 2) := by decide +kernel
theorem dX6_divisor_17 : decode cX6_divisor 17 = .ok (.istore_n 3, 1) := by decide +kernel
theorem dX6_divisor_18 : decode cX6_divisor 18 = .ok (.goto (-14), 3) := by decide +kernel
theorem dX6_divisor_21 : decode cX6_divisor 21 = .ok (.iload_n 2, 1) := by decide +kernel
theorem dX6_divisor_22 : decode cX6_divisor 22 = .ok (.ireturn, 1) := by decide +kernel
theorem dX6_partOf_0 : decode cX6_partOf 0 = .ok (.iload_n 0, 1) := by decide +kernel
theorem dX6_partOf_1 : decode cX6_partOf 1 = .ok (.ifCond .ne 6, 3) := by decide +kernel
theorem dX6_partOf_4 : decode cX6_partOf 4 = .ok (.iload_n 2, 1) := by decide +kernel
theorem dX6_partOf_5 : decode cX6_partOf 5 = .ok (.i2l, 1) := by decide +kernel
theorem dX6_partOf_6 : decode cX6_partOf 6 = .ok (.lreturn, 1) := by decide +kernel
theorem dX6_partOf_7 : decode cX6_partOf 7 = .ok (.iload_n 0, 1) := by decide +kernel
theorem dX6_partOf_8 : decode cX6_partOf 8 = .ok (.iload_n 1, 1) := by decide +kernel
theorem dX6_partOf_9 : decode cX6_partOf 9 = .ok (.invokestatic 226, 3) := by decide +kernel
theorem dX6_partOf_12 : decode cX6_partOf 12 = .ok (.istore_n 3, 1) := by decide +kernel
theorem dX6_partOf_13 : decode cX6_partOf 13 = .ok (.iload_n 2, 1) := by decide +kernel
theorem dX6_partOf_14 : decode cX6_partOf 14 = .ok (.ifCond .ne 10, 3) := by decide +kernel
theorem dX6_partOf_17 : decode cX6_partOf 17 = .ok (.iload_n 0, 1) := by decide +kernel
theorem dX6_partOf_18 : decode cX6_partOf 18 = .ok (.iload_n 3, 1) := by decide +kernel
theorem dX6_partOf_19 : decode cX6_partOf 19 = .ok (.idiv, 1) := by decide +kernel
theorem dX6_partOf_20 : decode cX6_partOf 20 = .ok (.i2l, 1) := by decide +kernel
theorem dX6_partOf_21 : decode cX6_partOf 21 = .ok (.goto 7, 3) := by decide +kernel
theorem dX6_partOf_24 : decode cX6_partOf 24 = .ok (.iload_n 1, 1) := by decide +kernel
theorem dX6_partOf_25 : decode cX6_partOf 25 = .ok (.iload_n 3, 1) := by decide +kernel
theorem dX6_partOf_26 : decode cX6_partOf 26 = .ok (.idiv, 1) := by decide +kernel
theorem dX6_partOf_27 : decode cX6_partOf 27 = .ok (.i2l, 1) := by decide +kernel
theorem dX6_partOf_28 : decode cX6_partOf 28 = .ok (.lreturn, 1) := by decide +kernel
theorem dX6_mean_0 : decode cX6_mean 0 = .ok (.aload_n 0, 1) := by decide +kernel
theorem dX6_mean_1 : decode cX6_mean 1 = .ok (.iconst 0, 1) := by decide +kernel
theorem dX6_mean_2 : decode cX6_mean 2 = .ok (.putfield 55, 3) := by decide +kernel
theorem dX6_mean_5 : decode cX6_mean 5 = .ok (.aload_n 0, 1) := by decide +kernel
theorem dX6_mean_6 : decode cX6_mean 6 = .ok (.iload_n 1, 1) := by decide +kernel
theorem dX6_mean_7 : decode cX6_mean 7 = .ok (.invokevirtual 206, 3) := by decide +kernel
theorem dX6_mean_10 : decode cX6_mean 10 = .ok (.ifCond .eq 13, 3) := by decide +kernel
theorem dX6_mean_13 : decode cX6_mean 13 = .ok (.iload_n 2, 1) := by decide +kernel
theorem dX6_mean_14 : decode cX6_mean 14 = .ok (.i2l, 1) := by decide +kernel
theorem dX6_mean_15 : decode cX6_mean 15 = .ok (.lconst 0, 1) := by decide +kernel
theorem dX6_mean_16 : decode cX6_mean 16 = .ok (.lconst 1, 1) := by decide +kernel
theorem dX6_mean_17 : decode cX6_mean 17 = .ok (.invokestatic 59, 3) := by decide +kernel
theorem dX6_mean_20 : decode cX6_mean 20 = .ok (.ifCond .ne 27, 3) := by decide +kernel
theorem dX6_mean_23 : decode cX6_mean 23 = .ok (.ldc2_w 229, 3) := by decide +kernel
theorem dX6_mean_26 : decode cX6_mean 26 = .ok (.aload_n 0, 1) := by decide +kernel
theorem dX6_mean_27 : decode cX6_mean 27 = .ok (.aload_n 0, 1) := by decide +kernel
theorem dX6_mean_28 : decode cX6_mean 28 = .ok (.iload_n 1, 1) := by decide +kernel
theorem dX6_mean_29 : decode cX6_mean 29 = .ok (.invokevirtual 206, 3) := by decide +kernel
theorem dX6_mean_32 : decode cX6_mean 32 = .ok (.ifCond .eq 8, 3) := by decide +kernel
theorem dX6_mean_35 : decode cX6_mean 35 = .ok (.bipush (-2), 2) := by decide +kernel
theorem dX6_mean_37 : decode cX6_mean 37 = .ok (.goto 4, 3) := by decide +kernel
theorem dX6_mean_40 : decode cX6_mean 40 = .ok (.iconst (-1), 1) := by decide +kernel
theorem dX6_mean_41 : decode cX6_mean 41 = .ok (.invokevirtual 102, 3) := by decide +kernel
theorem dX6_mean_44 : decode cX6_mean 44 = .ok (.i2l, 1) := by decide +kernel
theorem dX6_mean_45 : decode cX6_mean 45 = .ok (.lsub, 1) := by decide +kernel
theorem dX6_mean_46 : decode cX6_mean 46 = .ok (.lreturn, 1) := by decide +kernel
theorem dX6_mean_47 : decode cX6_mean 47 = .ok (.iconst 0, 1) := by decide +kernel
theorem dX6_mean_48 : decode cX6_mean 48 = .ok (.istore_n 3, 1) := by decide +kernel
theorem dX6_mean_49 : decode cX6_mean 49 = .ok (.iconst 0, 1) := by decide +kernel
theorem dX6_mean_50 : decode cX6_mean 50 = .ok (.istore 4, 2) := by decide +kernel
theorem dX6_mean_52 : decode cX6_mean 52 = .ok (.iload 4, 2) := by decide +kernel
theorem dX6_mean_54 : decode cX6_mean 54 = .ok (.bipush 12, 2) := by decide +kernel
theorem dX6_mean_56 : decode cX6_mean 56 = .ok (.if_icmp .ge 24, 3) := by decide +kernel
theorem dX6_mean_59 : decode cX6_mean 59 = .ok (.iload_n 3, 1) := by decide +kernel
theorem dX6_mean_60 : decode cX6_mean 60 = .ok (.aload_n 0, 1) := by decide +kernel
theorem dX6_mean_61 : decode cX6_mean 61 = .ok (.getfield 28, 3) := by decide +kernel
theorem dX6_mean_64 : decode cX6_mean 64 = .ok (.bipush 12, 2) := by decide +kernel
theorem dX6_mean_66 : decode cX6_mean 66 = .ok (.iload_n 1, 1) := by decide +kernel
theorem dX6_mean_67 : decode cX6_mean 67 = .ok (.imul, 1) := by decide +kernel
theorem dX6_mean_68 : decode cX6_mean 68 = .ok (.iload 4, 2) := by decide +kernel
theorem dX6_mean_70 : decode cX6_mean 70 = .ok (.iadd, 1) := by decide +kernel
theorem dX6_mean_71 : decode cX6_mean 71 = .ok (.iaload, 1) := by decide +kernel
theorem dX6_mean_72 : decode cX6_mean 72 = .ok (.iadd, 1) := by decide +kernel
theorem dX6_mean_73 : decode cX6_mean 73 = .ok (.istore_n 3, 1) := by decide +kernel
theorem dX6_mean_74 : decode cX6_mean 74 = .ok (.iinc 4 1, 3) := by decide +kernel
theorem dX6_mean_77 : decode cX6_mean 77 = .ok (.goto (-25), 3) := by decide +kernel
theorem dX6_mean_80 : decode cX6_mean 80 = .ok (.iload_n 3, 1) := by decide +kernel
theorem dX6_mean_81 : decode cX6_mean 81 = .ok (.bipush 12, 2) := by decide +kernel
theorem dX6_mean_83 : decode cX6_mean 83 = .ok (.iload_n 2, 1) := by decide +kernel
theorem dX6_mean_84 : decode cX6_mean 84 = .ok (.invokestatic 231, 3) := by decide +kernel
theorem dX6_mean_87 : decode cX6_mean 87 = .ok (.lreturn, 1) := by decide +kernel
theorem dX6_close_0 : decode cX6_close 0 = .ok (.aload_n 0, 1) := by decide +kernel
theorem dX6_close_1 : decode cX6_close 1 = .ok (.iconst 0, 1) := by decide +kernel
theorem dX6_close_2 : decode cX6_close 2 = .ok (.putfield 55, 3) := by decide +kernel
theorem dX6_close_5 : decode cX6_close 5 = .ok (.aload_n 0, 1) := by decide +kernel
theorem dX6_close_6 : decode cX6_close 6 = .ok (.iload_n 1, 1) := by decide +kernel
theorem dX6_close_7 : decode cX6_close 7 = .ok (.invokevirtual 206, 3) := by decide +kernel
theorem dX6_close_10 : decode cX6_close 10 = .ok (.ifCond .eq 20, 3) := by decide +kernel
theorem dX6_close_13 : decode cX6_close 13 = .ok (.aload_n 0, 1) := by decide +kernel
theorem dX6_close_14 : decode cX6_close 14 = .ok (.iload_n 2, 1) := by decide +kernel
theorem dX6_close_15 : decode cX6_close 15 = .ok (.invokevirtual 206, 3) := by decide +kernel
theorem dX6_close_18 : decode cX6_close 18 = .ok (.ifCond .eq 12, 3) := by decide +kernel
theorem dX6_close_21 : decode cX6_close 21 = .ok (.aload_n 0, 1) := by decide +kernel
theorem dX6_close_22 : decode cX6_close 22 = .ok (.iload_n 1, 1) := by decide +kernel
theorem dX6_close_23 : decode cX6_close 23 = .ok (.iload_n 2, 1) := by decide +kernel
theorem dX6_close_24 : decode cX6_close 24 = .ok (.invokevirtual 235, 3) := by decide +kernel
theorem dX6_close_27 : decode cX6_close 27 = .ok (.goto 8, 3) := by decide +kernel
theorem dX6_close_30 : decode cX6_close 30 = .ok (.aload_n 0, 1) := by decide +kernel
theorem dX6_close_31 : decode cX6_close 31 = .ok (.iconst (-1), 1) := by decide +kernel
theorem dX6_close_32 : decode cX6_close 32 = .ok (.invokevirtual 102, 3) := by decide +kernel
theorem dX6_close_35 : decode cX6_close 35 = .ok (.ireturn, 1) := by decide +kernel
theorem dX6_spread_0 : decode cX6_spread 0 = .ok (.aload_n 0, 1) := by decide +kernel
theorem dX6_spread_1 : decode cX6_spread 1 = .ok (.iconst 0, 1) := by decide +kernel
theorem dX6_spread_2 : decode cX6_spread 2 = .ok (.putfield 55, 3) := by decide +kernel
theorem dX6_spread_5 : decode cX6_spread 5 = .ok (.iload_n 1, 1) := by decide +kernel
theorem dX6_spread_6 : decode cX6_spread 6 = .ok (.invokestatic 147, 3) := by decide +kernel
theorem dX6_spread_9 : decode cX6_spread 9 = .ok (.ifCond .ne 9, 3) := by decide +kernel
theorem dX6_spread_12 : decode cX6_spread 12 = .ok (.aload_n 0, 1) := by decide +kernel
theorem dX6_spread_13 : decode cX6_spread 13 = .ok (.iconst (-1), 1) := by decide +kernel
theorem dX6_spread_14 : decode cX6_spread 14 = .ok (.invokevirtual 102, 3) := by decide +kernel
theorem dX6_spread_17 : decode cX6_spread 17 = .ok (.ireturn, 1) := by decide +kernel
theorem dX6_spread_18 : decode cX6_spread 18 = .ok (.aload_n 0, 1) := by decide +kernel
theorem dX6_spread_19 : decode cX6_spread 19 = .ok (.iload_n 1, 1) := by decide +kernel
theorem dX6_spread_20 : decode cX6_spread 20 = .ok (.aload_n 0, 1) := by decide +kernel
theorem dX6_spread_21 : decode cX6_spread 21 = .ok (.getfield 65, 3) := by decide +kernel
theorem dX6_spread_24 : decode cX6_spread 24 = .ok (.invokevirtual 68, 3) := by decide +kernel
theorem dX6_spread_27 : decode cX6_spread 27 = .ok (.ifCond .ge 6, 3) := by decide +kernel
theorem dX6_spread_30 : decode cX6_spread 30 = .ok (.bipush (-9), 2) := by decide +kernel
theorem dX6_spread_32 : decode cX6_spread 32 = .ok (.ireturn, 1) := by decide +kernel
theorem dX6_spread_33 : decode cX6_spread 33 = .ok (.iconst 0, 1) := by decide +kernel
theorem dX6_spread_34 : decode cX6_spread 34 = .ok (.istore_n 2, 1) := by decide +kernel
theorem dX6_spread_35 : decode cX6_spread 35 = .ok (.iconst 0, 1) := by decide +kernel
theorem dX6_spread_36 : decode cX6_spread 36 = .ok (.istore_n 3, 1) := by decide +kernel
theorem dX6_spread_37 : decode cX6_spread 37 = .ok (.iload_n 3, 1) := by decide +kernel
theorem dX6_spread_38 : decode cX6_spread 38 = .ok (.bipush 12, 2) := by decide +kernel
theorem dX6_spread_40 : decode cX6_spread 40 = .ok (.if_icmp .ge 111, 3) := by decide +kernel
theorem dX6_spread_43 : decode cX6_spread 43 = .ok (.iconst 0, 1) := by decide +kernel
theorem dX6_spread_44 : decode cX6_spread 44 = .ok (.istore 4, 2) := by decide +kernel
theorem dX6_spread_46 : decode cX6_spread 46 = .ok (.sipush 999, 3) := by decide +kernel
theorem dX6_spread_49 : decode cX6_spread 49 = .ok (.istore 5, 2) := by decide +kernel
theorem dX6_spread_51 : decode cX6_spread 51 = .ok (.iconst 0, 1) := by decide +kernel
theorem dX6_spread_52 : decode cX6_spread 52 = .ok (.istore 6, 2) := by decide +kernel
theorem dX6_spread_54 : decode cX6_spread 54 = .ok (.iload 6, 2) := by decide +kernel
theorem dX6_spread_56 : decode cX6_spread 56 = .ok (.aload_n 0, 1) := by decide +kernel
theorem dX6_spread_57 : decode cX6_spread 57 = .ok (.getfield 65, 3) := by decide +kernel
theorem dX6_spread_60 : decode cX6_spread 60 = .ok (.if_icmp .ge 77, 3) := by decide +kernel
theorem dX6_spread_63 : decode cX6_spread 63 = .ok (.aload_n 0, 1) := by decide +kernel
theorem dX6_spread_64 : decode cX6_spread 64 = .ok (.getfield 28, 3) := by decide +kernel
theorem dX6_spread_67 : decode cX6_spread 67 = .ok (.bipush 12, 2) := by decide +kernel
theorem dX6_spread_69 : decode cX6_spread 69 = .ok (.iload 6, 2) := by decide +kernel
theorem dX6_spread_71 : decode cX6_spread 71 = .ok (.imul, 1) := by decide +kernel
theorem dX6_spread_72 : decode cX6_spread 72 = .ok (.iload_n 3, 1) := by decide +kernel
theorem dX6_spread_73 : decode cX6_spread 73 = .ok (.iadd, 1) := by decide +kernel
theorem dX6_spread_74 : decode cX6_spread 74 = .ok (.iaload, 1) := by decide +kernel
theorem dX6_spread_75 : decode cX6_spread 75 = .ok (.istore 7, 2) := by decide +kernel
theorem dX6_spread_77 : decode cX6_spread 77 = .ok (.aload_n 0, 1) := by decide +kernel
theorem dX6_spread_78 : decode cX6_spread 78 = .ok (.getfield 19, 3) := by decide +kernel
theorem dX6_spread_81 : decode cX6_spread 81 = .ok (.iload 6, 2) := by decide +kernel
theorem dX6_spread_83 : decode cX6_spread 83 = .ok (.iaload, 1) := by decide +kernel
theorem dX6_spread_84 : decode cX6_spread 84 = .ok (.iload_n 1, 1) := by decide +kernel
theorem dX6_spread_85 : decode cX6_spread 85 = .ok (.if_icmp .ne 15, 3) := by decide +kernel
theorem dX6_spread_88 : decode cX6_spread 88 = .ok (.iload 7, 2) := by decide +kernel
theorem dX6_spread_90 : decode cX6_spread 90 = .ok (.iload 4, 2) := by decide +kernel
theorem dX6_spread_92 : decode cX6_spread 92 = .ok (.if_icmp .le 8, 3) := by decide +kernel
theorem dX6_spread_95 : decode cX6_spread 95 = .ok (.iload 7, 2) := by decide +kernel
theorem dX6_spread_97 : decode cX6_spread 97 = .ok (.goto 5, 3) := by decide +kernel
theorem dX6_spread_100 : decode cX6_spread 100 = .ok (.iload 4, 2) := by decide +kernel
theorem dX6_spread_102 : decode cX6_spread 102 = .ok (.istore 4, 2) := by decide +kernel
theorem dX6_spread_104 : decode cX6_spread 104 = .ok (.aload_n 0, 1) := by decide +kernel
theorem dX6_spread_105 : decode cX6_spread 105 = .ok (.getfield 19, 3) := by decide +kernel
theorem dX6_spread_108 : decode cX6_spread 108 = .ok (.iload 6, 2) := by decide +kernel
theorem dX6_spread_110 : decode cX6_spread 110 = .ok (.iaload, 1) := by decide +kernel
theorem dX6_spread_111 : decode cX6_spread 111 = .ok (.iload_n 1, 1) := by decide +kernel
theorem dX6_spread_112 : decode cX6_spread 112 = .ok (.if_icmp .ne 15, 3) := by decide +kernel
theorem dX6_spread_115 : decode cX6_spread 115 = .ok (.iload 7, 2) := by decide +kernel
theorem dX6_spread_117 : decode cX6_spread 117 = .ok (.iload 5, 2) := by decide +kernel
theorem dX6_spread_119 : decode cX6_spread 119 = .ok (.if_icmp .ge 8, 3) := by decide +kernel
theorem dX6_spread_122 : decode cX6_spread 122 = .ok (.iload 7, 2) := by decide +kernel
theorem dX6_spread_124 : decode cX6_spread 124 = .ok (.goto 5, 3) := by decide +kernel
theorem dX6_spread_127 : decode cX6_spread 127 = .ok (.iload 5, 2) := by decide +kernel
theorem dX6_spread_129 : decode cX6_spread 129 = .ok (.istore 5, 2) := by decide +kernel
theorem dX6_spread_131 : decode cX6_spread 131 = .ok (.iinc 6 1, 3) := by decide +kernel
theorem dX6_spread_134 : decode cX6_spread 134 = .ok (.goto (-80), 3) := by decide +kernel
theorem dX6_spread_137 : decode cX6_spread 137 = .ok (.iload_n 2, 1) := by decide +kernel
theorem dX6_spread_138 : decode cX6_spread 138 = .ok (.iload 4, 2) := by decide +kernel
theorem dX6_spread_140 : decode cX6_spread 140 = .ok (.iload 5, 2) := by decide +kernel
theorem dX6_spread_142 : decode cX6_spread 142 = .ok (.isub, 1) := by decide +kernel
theorem dX6_spread_143 : decode cX6_spread 143 = .ok (.iadd, 1) := by decide +kernel
theorem dX6_spread_144 : decode cX6_spread 144 = .ok (.istore_n 2, 1) := by decide +kernel
theorem dX6_spread_145 : decode cX6_spread 145 = .ok (.iinc 3 1, 3) := by decide +kernel
theorem dX6_spread_148 : decode cX6_spread 148 = .ok (.goto (-111), 3) := by decide +kernel
theorem dX6_spread_151 : decode cX6_spread 151 = .ok (.iload_n 2, 1) := by decide +kernel
theorem dX6_spread_152 : decode cX6_spread 152 = .ok (.ireturn, 1) := by decide +kernel
theorem dX6_offBy_0 : decode cX6_offBy 0 = .ok (.aload_n 0, 1) := by decide +kernel
theorem dX6_offBy_1 : decode cX6_offBy 1 = .ok (.iload_n 1, 1) := by decide +kernel
theorem dX6_offBy_2 : decode cX6_offBy 2 = .ok (.iload_n 2, 1) := by decide +kernel
theorem dX6_offBy_3 : decode cX6_offBy 3 = .ok (.iload_n 3, 1) := by decide +kernel
theorem dX6_offBy_4 : decode cX6_offBy 4 = .ok (.iload 4, 2) := by decide +kernel
theorem dX6_offBy_6 : decode cX6_offBy 6 = .ok (.invokevirtual 160, 3) := by decide +kernel
theorem dX6_offBy_9 : decode cX6_offBy 9 = .ok (.istore 5, 2) := by decide +kernel
theorem dX6_offBy_11 : decode cX6_offBy 11 = .ok (.aload_n 0, 1) := by decide +kernel
theorem dX6_offBy_12 : decode cX6_offBy 12 = .ok (.dup, 1) := by decide +kernel
theorem dX6_offBy_13 : decode cX6_offBy 13 = .ok (.getfield 65, 3) := by decide +kernel
theorem dX6_offBy_16 : decode cX6_offBy 16 = .ok (.iconst 1, 1) := by decide +kernel
theorem dX6_offBy_17 : decode cX6_offBy 17 = .ok (.isub, 1) := by decide +kernel
theorem dX6_offBy_18 : decode cX6_offBy 18 = .ok (.putfield 65, 3) := by decide +kernel
theorem dX6_offBy_21 : decode cX6_offBy 21 = .ok (.aload_n 0, 1) := by decide +kernel
theorem dX6_offBy_22 : decode cX6_offBy 22 = .ok (.iload 5, 2) := by decide +kernel
theorem dX6_offBy_24 : decode cX6_offBy 24 = .ok (.invokevirtual 217, 3) := by decide +kernel
theorem dX6_offBy_27 : decode cX6_offBy 27 = .ok (.ireturn, 1) := by decide +kernel
theorem dX6_next_0 : decode cX6_next 0 = .ok (.aload_n 0, 1) := by decide +kernel
theorem dX6_next_1 : decode cX6_next 1 = .ok (.iconst 0, 1) := by decide +kernel
theorem dX6_next_2 : decode cX6_next 2 = .ok (.putfield 55, 3) := by decide +kernel
theorem dX6_next_5 : decode cX6_next 5 = .ok (.iload_n 1, 1) := by decide +kernel
theorem dX6_next_6 : decode cX6_next 6 = .ok (.invokestatic 147, 3) := by decide +kernel
theorem dX6_next_9 : decode cX6_next 9 = .ok (.ifCond .eq 26, 3) := by decide +kernel
theorem dX6_next_12 : decode cX6_next 12 = .ok (.iload 4, 2) := by decide +kernel
theorem dX6_next_14 : decode cX6_next 14 = .ok (.i2l, 1) := by decide +kernel
theorem dX6_next_15 : decode cX6_next 15 = .ok (.ldc2_w 238, 3) := by decide +kernel
theorem dX6_next_18 : decode cX6_next 18 = .ok (.ldc2_w 63, 3) := by decide +kernel
theorem dX6_next_21 : decode cX6_next 21 = .ok (.invokestatic 59, 3) := by decide +kernel
theorem dX6_next_24 : decode cX6_next 24 = .ok (.ifCond .eq 11, 3) := by decide +kernel
theorem dX6_next_27 : decode cX6_next 27 = .ok (.iload_n 2, 1) := by decide +kernel
theorem dX6_next_28 : decode cX6_next 28 = .ok (.iload_n 3, 1) := by decide +kernel
theorem dX6_next_29 : decode cX6_next 29 = .ok (.invokestatic 154, 3) := by decide +kernel
theorem dX6_next_32 : decode cX6_next 32 = .ok (.goto 4, 3) := by decide +kernel
theorem dX6_next_35 : decode cX6_next 35 = .ok (.iconst (-1), 1) := by decide +kernel
theorem dX6_next_36 : decode cX6_next 36 = .ok (.istore 5, 2) := by decide +kernel
theorem dX6_next_38 : decode cX6_next 38 = .ok (.iload 5, 2) := by decide +kernel
theorem dX6_next_40 : decode cX6_next 40 = .ok (.ifCond .ge 10, 3) := by decide +kernel
theorem dX6_next_43 : decode cX6_next 43 = .ok (.aload_n 0, 1) := by decide +kernel
theorem dX6_next_44 : decode cX6_next 44 = .ok (.iload 5, 2) := by decide +kernel
theorem dX6_next_46 : decode cX6_next 46 = .ok (.invokevirtual 102, 3) := by decide +kernel
theorem dX6_next_49 : decode cX6_next 49 = .ok (.ireturn, 1) := by decide +kernel
theorem dX6_next_50 : decode cX6_next 50 = .ok (.iload 4, 2) := by decide +kernel
theorem dX6_next_52 : decode cX6_next 52 = .ok (.ifCond .ge 17, 3) := by decide +kernel
theorem dX6_next_55 : decode cX6_next 55 = .ok (.aload_n 0, 1) := by decide +kernel
theorem dX6_next_56 : decode cX6_next 56 = .ok (.aload_n 0, 1) := by decide +kernel
theorem dX6_next_57 : decode cX6_next 57 = .ok (.getfield 157, 3) := by decide +kernel
theorem dX6_next_60 : decode cX6_next 60 = .ok (.iload_n 1, 1) := by decide +kernel
theorem dX6_next_61 : decode cX6_next 61 = .ok (.iload_n 2, 1) := by decide +kernel
theorem dX6_next_62 : decode cX6_next 62 = .ok (.iload_n 3, 1) := by decide +kernel
theorem dX6_next_63 : decode cX6_next 63 = .ok (.invokevirtual 240, 3) := by decide +kernel
theorem dX6_next_66 : decode cX6_next 66 = .ok (.goto 16, 3) := by decide +kernel
theorem dX6_next_69 : decode cX6_next 69 = .ok (.aload_n 0, 1) := by decide +kernel
theorem dX6_next_70 : decode cX6_next 70 = .ok (.aload_n 0, 1) := by decide +kernel
theorem dX6_next_71 : decode cX6_next 71 = .ok (.getfield 157, 3) := by decide +kernel
theorem dX6_next_74 : decode cX6_next 74 = .ok (.iload_n 1, 1) := by decide +kernel
theorem dX6_next_75 : decode cX6_next 75 = .ok (.iload_n 2, 1) := by decide +kernel
theorem dX6_next_76 : decode cX6_next 76 = .ok (.iload_n 3, 1) := by decide +kernel
theorem dX6_next_77 : decode cX6_next 77 = .ok (.iload 4, 2) := by decide +kernel
theorem dX6_next_79 : decode cX6_next 79 = .ok (.invokevirtual 92, 3) := by decide +kernel
theorem dX6_next_82 : decode cX6_next 82 = .ok (.ireturn, 1) := by decide +kernel
theorem dX6_growsBy_0 : decode cX6_growsBy 0 = .ok (.aload_n 0, 1) := by decide +kernel
theorem dX6_growsBy_1 : decode cX6_growsBy 1 = .ok (.getfield 65, 3) := by decide +kernel
theorem dX6_growsBy_4 : decode cX6_growsBy 4 = .ok (.istore 6, 2) := by decide +kernel
theorem dX6_growsBy_6 : decode cX6_growsBy 6 = .ok (.aload_n 0, 1) := by decide +kernel
theorem dX6_growsBy_7 : decode cX6_growsBy 7 = .ok (.aload_n 0, 1) := by decide +kernel
theorem dX6_growsBy_8 : decode cX6_growsBy 8 = .ok (.iload_n 1, 1) := by decide +kernel
theorem dX6_growsBy_9 : decode cX6_growsBy 9 = .ok (.iload_n 2, 1) := by decide +kernel
theorem dX6_growsBy_10 : decode cX6_growsBy 10 = .ok (.iload_n 3, 1) := by decide +kernel
theorem dX6_growsBy_11 : decode cX6_growsBy 11 = .ok (.iload 4, 2) := by decide +kernel
theorem dX6_growsBy_13 : decode cX6_growsBy 13 = .ok (.invokevirtual 160, 3) := by decide +kernel
theorem dX6_growsBy_16 : decode cX6_growsBy 16 = .ok (.invokevirtual 217, 3) := by decide +kernel
theorem dX6_growsBy_19 : decode cX6_growsBy 19 = .ok (.istore 7, 2) := by decide +kernel
theorem dX6_growsBy_21 : decode cX6_growsBy 21 = .ok (.iload 7, 2) := by decide +kernel
theorem dX6_growsBy_23 : decode cX6_growsBy 23 = .ok (.istore 8, 2) := by decide +kernel
theorem dX6_growsBy_25 : decode cX6_growsBy 25 = .ok (.iconst 1, 1) := by decide +kernel
theorem dX6_growsBy_26 : decode cX6_growsBy 26 = .ok (.istore 9, 2) := by decide +kernel
theorem dX6_growsBy_28 : decode cX6_growsBy 28 = .ok (.iload 9, 2) := by decide +kernel
theorem dX6_growsBy_30 : decode cX6_growsBy 30 = .ok (.iload 5, 2) := by decide +kernel
theorem dX6_growsBy_32 : decode cX6_growsBy 32 = .ok (.if_icmp .ge 24, 3) := by decide +kernel
theorem dX6_growsBy_35 : decode cX6_growsBy 35 = .ok (.aload_n 0, 1) := by decide +kernel
theorem dX6_growsBy_36 : decode cX6_growsBy 36 = .ok (.aload_n 0, 1) := by decide +kernel
theorem dX6_growsBy_37 : decode cX6_growsBy 37 = .ok (.iload_n 1, 1) := by decide +kernel
theorem dX6_growsBy_38 : decode cX6_growsBy 38 = .ok (.iload_n 2, 1) := by decide +kernel
theorem dX6_growsBy_39 : decode cX6_growsBy 39 = .ok (.iload_n 3, 1) := by decide +kernel
theorem dX6_growsBy_40 : decode cX6_growsBy 40 = .ok (.iload 4, 2) := by decide +kernel
theorem dX6_growsBy_42 : decode cX6_growsBy 42 = .ok (.invokevirtual 160, 3) := by decide +kernel
theorem dX6_growsBy_45 : decode cX6_growsBy 45 = .ok (.invokevirtual 217, 3) := by decide +kernel
theorem dX6_growsBy_48 : decode cX6_growsBy 48 = .ok (.istore 8, 2) := by decide +kernel
theorem dX6_growsBy_50 : decode cX6_growsBy 50 = .ok (.iinc 9 1, 3) := by decide +kernel
theorem dX6_growsBy_53 : decode cX6_growsBy 53 = .ok (.goto (-25), 3) := by decide +kernel
theorem dX6_growsBy_56 : decode cX6_growsBy 56 = .ok (.aload_n 0, 1) := by decide +kernel
theorem dX6_growsBy_57 : decode cX6_growsBy 57 = .ok (.iload 6, 2) := by decide +kernel
theorem dX6_growsBy_59 : decode cX6_growsBy 59 = .ok (.putfield 65, 3) := by decide +kernel
theorem dX6_growsBy_62 : decode cX6_growsBy 62 = .ok (.iload 8, 2) := by decide +kernel
theorem dX6_growsBy_64 : decode cX6_growsBy 64 = .ok (.iload 7, 2) := by decide +kernel
theorem dX6_growsBy_66 : decode cX6_growsBy 66 = .ok (.if_icmp .le 7, 3) := by decide +kernel
theorem dX6_growsBy_69 : decode cX6_growsBy 69 = .ok (.iconst 1, 1) := by decide +kernel
theorem dX6_growsBy_70 : decode cX6_growsBy 70 = .ok (.goto 15, 3) := by decide +kernel
theorem dX6_growsBy_73 : decode cX6_growsBy 73 = .ok (.iload 8, 2) := by decide +kernel
theorem dX6_growsBy_75 : decode cX6_growsBy 75 = .ok (.iload 7, 2) := by decide +kernel
theorem dX6_growsBy_77 : decode cX6_growsBy 77 = .ok (.if_icmp .ge 7, 3) := by decide +kernel
theorem dX6_growsBy_80 : decode cX6_growsBy 80 = .ok (.iconst (-1), 1) := by decide +kernel
theorem dX6_growsBy_81 : decode cX6_growsBy 81 = .ok (.goto 4, 3) := by decide +kernel
theorem dX6_growsBy_84 : decode cX6_growsBy 84 = .ok (.iconst 0, 1) := by decide +kernel
theorem dX6_growsBy_85 : decode cX6_growsBy 85 = .ok (.ireturn, 1) := by decide +kernel
theorem dX6_wrongGrowth_0 : decode cX6_wrongGrowth 0 = .ok (.iload_n 0, 1) := by decide +kernel
theorem dX6_wrongGrowth_1 : decode cX6_wrongGrowth 1 = .ok (.iconst 1, 1) := by decide +kernel
theorem dX6_wrongGrowth_2 : decode cX6_wrongGrowth 2 = .ok (.if_icmp .lt 13, 3) := by decide +kernel
theorem dX6_wrongGrowth_5 : decode cX6_wrongGrowth 5 = .ok (.iload_n 1, 1) := by decide +kernel
theorem dX6_wrongGrowth_6 : decode cX6_wrongGrowth 6 = .ok (.iconst 1, 1) := by decide +kernel
theorem dX6_wrongGrowth_7 : decode cX6_wrongGrowth 7 = .ok (.if_icmp .lt 8, 3) := by decide +kernel
theorem dX6_wrongGrowth_10 : decode cX6_wrongGrowth 10 = .ok (.iload_n 2, 1) := by decide +kernel
theorem dX6_wrongGrowth_11 : decode cX6_wrongGrowth 11 = .ok (.iconst 2, 1) := by decide +kernel
theorem dX6_wrongGrowth_12 : decode cX6_wrongGrowth 12 = .ok (.if_icmp .ge 8, 3) := by decide +kernel
theorem dX6_wrongGrowth_15 : decode cX6_wrongGrowth 15 = .ok (.bipush (-4), 2) := by decide +kernel
theorem dX6_wrongGrowth_17 : decode cX6_wrongGrowth 17 = .ok (.goto 27, 3) := by decide +kernel
theorem dX6_wrongGrowth_20 : decode cX6_wrongGrowth 20 = .ok (.iload_n 0, 1) := by decide +kernel
theorem dX6_wrongGrowth_21 : decode cX6_wrongGrowth 21 = .ok (.bipush 9, 2) := by decide +kernel
theorem dX6_wrongGrowth_23 : decode cX6_wrongGrowth 23 = .ok (.if_icmp .gt 15, 3) := by decide +kernel
theorem dX6_wrongGrowth_26 : decode cX6_wrongGrowth 26 = .ok (.iload_n 1, 1) := by decide +kernel
theorem dX6_wrongGrowth_27 : decode cX6_wrongGrowth 27 = .ok (.bipush 9, 2) := by decide +kernel
theorem dX6_wrongGrowth_29 : decode cX6_wrongGrowth 29 = .ok (.if_icmp .gt 9, 3) := by decide +kernel
theorem dX6_wrongGrowth_32 : decode cX6_wrongGrowth 32 = .ok (.iload_n 2, 1) := by decide +kernel
theorem dX6_wrongGrowth_33 : decode cX6_wrongGrowth 33 = .ok (.bipush 9, 2) := by decide +kernel
theorem dX6_wrongGrowth_35 : decode cX6_wrongGrowth 35 = .ok (.if_icmp .le 8, 3) := by decide +kernel
theorem dX6_wrongGrowth_38 : decode cX6_wrongGrowth 38 = .ok (.bipush (-6), 2) := by decide +kernel
theorem dX6_wrongGrowth_40 : decode cX6_wrongGrowth 40 = .ok (.goto 4, 3) := by decide +kernel
theorem dX6_wrongGrowth_43 : decode cX6_wrongGrowth 43 = .ok (.iconst 0, 1) := by decide +kernel
theorem dX6_wrongGrowth_44 : decode cX6_wrongGrowth 44 = .ok (.ireturn, 1) := by decide +kernel
theorem dX6_grows_0 : decode cX6_grows 0 = .ok (.aload_n 0, 1) := by decide +kernel
theorem dX6_grows_1 : decode cX6_grows 1 = .ok (.iconst 0, 1) := by decide +kernel
theorem dX6_grows_2 : decode cX6_grows 2 = .ok (.putfield 55, 3) := by decide +kernel
theorem dX6_grows_5 : decode cX6_grows 5 = .ok (.iload_n 1, 1) := by decide +kernel
theorem dX6_grows_6 : decode cX6_grows 6 = .ok (.invokestatic 147, 3) := by decide +kernel
theorem dX6_grows_9 : decode cX6_grows 9 = .ok (.ifCond .ne 7, 3) := by decide +kernel
theorem dX6_grows_12 : decode cX6_grows 12 = .ok (.iconst (-1), 1) := by decide +kernel
theorem dX6_grows_13 : decode cX6_grows 13 = .ok (.goto 28, 3) := by decide +kernel
theorem dX6_grows_16 : decode cX6_grows 16 = .ok (.iload 4, 2) := by decide +kernel
theorem dX6_grows_18 : decode cX6_grows 18 = .ok (.i2l, 1) := by decide +kernel
theorem dX6_grows_19 : decode cX6_grows 19 = .ok (.lconst 0, 1) := by decide +kernel
theorem dX6_grows_20 : decode cX6_grows 20 = .ok (.ldc2_w 204, 3) := by decide +kernel
theorem dX6_grows_23 : decode cX6_grows 23 = .ok (.invokestatic 59, 3) := by decide +kernel
theorem dX6_grows_26 : decode cX6_grows 26 = .ok (.ifCond .ne 8, 3) := by decide +kernel
theorem dX6_grows_29 : decode cX6_grows 29 = .ok (.bipush (-2), 2) := by decide +kernel
theorem dX6_grows_31 : decode cX6_grows 31 = .ok (.goto 10, 3) := by decide +kernel
theorem dX6_grows_34 : decode cX6_grows 34 = .ok (.iload_n 2, 1) := by decide +kernel
theorem dX6_grows_35 : decode cX6_grows 35 = .ok (.iload_n 3, 1) := by decide +kernel
theorem dX6_grows_36 : decode cX6_grows 36 = .ok (.iload 5, 2) := by decide +kernel
theorem dX6_grows_38 : decode cX6_grows 38 = .ok (.invokestatic 243, 3) := by decide +kernel
theorem dX6_grows_41 : decode cX6_grows 41 = .ok (.istore 6, 2) := by decide +kernel
theorem dX6_grows_43 : decode cX6_grows 43 = .ok (.iload 6, 2) := by decide +kernel
theorem dX6_grows_45 : decode cX6_grows 45 = .ok (.ifCond .ge 15, 3) := by decide +kernel
theorem dX6_grows_48 : decode cX6_grows 48 = .ok (.ldc 246, 2) := by decide +kernel
theorem dX6_grows_50 : decode cX6_grows 50 = .ok (.aload_n 0, 1) := by decide +kernel
theorem dX6_grows_51 : decode cX6_grows 51 = .ok (.iload 6, 2) := by decide +kernel
theorem dX6_grows_53 : decode cX6_grows 53 = .ok (.invokevirtual 102, 3) := by decide +kernel
theorem dX6_grows_56 : decode cX6_grows 56 = .ok (.isub, 1) := by decide +kernel
theorem dX6_grows_57 : decode cX6_grows 57 = .ok (.goto 14, 3) := by decide +kernel
theorem dX6_grows_60 : decode cX6_grows 60 = .ok (.aload_n 0, 1) := by decide +kernel
theorem dX6_grows_61 : decode cX6_grows 61 = .ok (.iload 4, 2) := by decide +kernel
theorem dX6_grows_63 : decode cX6_grows 63 = .ok (.iload_n 1, 1) := by decide +kernel
theorem dX6_grows_64 : decode cX6_grows 64 = .ok (.iload_n 2, 1) := by decide +kernel
theorem dX6_grows_65 : decode cX6_grows 65 = .ok (.iload_n 3, 1) := by decide +kernel
theorem dX6_grows_66 : decode cX6_grows 66 = .ok (.iload 5, 2) := by decide +kernel
theorem dX6_grows_68 : decode cX6_grows 68 = .ok (.invokevirtual 247, 3) := by decide +kernel
theorem dX6_grows_71 : decode cX6_grows 71 = .ok (.ireturn, 1) := by decide +kernel
theorem dX6_calm_0 : decode cX6_calm 0 = .ok (.aload_n 0, 1) := by decide +kernel
theorem dX6_calm_1 : decode cX6_calm 1 = .ok (.iconst 0, 1) := by decide +kernel
theorem dX6_calm_2 : decode cX6_calm 2 = .ok (.putfield 55, 3) := by decide +kernel
theorem dX6_calm_5 : decode cX6_calm 5 = .ok (.iload_n 1, 1) := by decide +kernel
theorem dX6_calm_6 : decode cX6_calm 6 = .ok (.invokestatic 147, 3) := by decide +kernel
theorem dX6_calm_9 : decode cX6_calm 9 = .ok (.ifCond .ne 7, 3) := by decide +kernel
theorem dX6_calm_12 : decode cX6_calm 12 = .ok (.iconst (-1), 1) := by decide +kernel
theorem dX6_calm_13 : decode cX6_calm 13 = .ok (.goto 10, 3) := by decide +kernel
theorem dX6_calm_16 : decode cX6_calm 16 = .ok (.iload_n 2, 1) := by decide +kernel
theorem dX6_calm_17 : decode cX6_calm 17 = .ok (.iload_n 3, 1) := by decide +kernel
theorem dX6_calm_18 : decode cX6_calm 18 = .ok (.iload 4, 2) := by decide +kernel
theorem dX6_calm_20 : decode cX6_calm 20 = .ok (.invokestatic 243, 3) := by decide +kernel
theorem dX6_calm_23 : decode cX6_calm 23 = .ok (.istore 5, 2) := by decide +kernel
theorem dX6_calm_25 : decode cX6_calm 25 = .ok (.iload 5, 2) := by decide +kernel
theorem dX6_calm_27 : decode cX6_calm 27 = .ok (.ifCond .ge 10, 3) := by decide +kernel
theorem dX6_calm_30 : decode cX6_calm 30 = .ok (.aload_n 0, 1) := by decide +kernel
theorem dX6_calm_31 : decode cX6_calm 31 = .ok (.iload 5, 2) := by decide +kernel
theorem dX6_calm_33 : decode cX6_calm 33 = .ok (.invokevirtual 102, 3) := by decide +kernel
theorem dX6_calm_36 : decode cX6_calm 36 = .ok (.ireturn, 1) := by decide +kernel
theorem dX6_calm_37 : decode cX6_calm 37 = .ok (.iconst 0, 1) := by decide +kernel
theorem dX6_calm_38 : decode cX6_calm 38 = .ok (.istore 6, 2) := by decide +kernel
theorem dX6_calm_40 : decode cX6_calm 40 = .ok (.iconst 0, 1) := by decide +kernel
theorem dX6_calm_41 : decode cX6_calm 41 = .ok (.istore 7, 2) := by decide +kernel
theorem dX6_calm_43 : decode cX6_calm 43 = .ok (.iload 7, 2) := by decide +kernel
theorem dX6_calm_45 : decode cX6_calm 45 = .ok (.bipush 7, 2) := by decide +kernel
theorem dX6_calm_47 : decode cX6_calm 47 = .ok (.if_icmp .ge 36, 3) := by decide +kernel
theorem dX6_calm_50 : decode cX6_calm 50 = .ok (.iload 6, 2) := by decide +kernel
theorem dX6_calm_52 : decode cX6_calm 52 = .ok (.aload_n 0, 1) := by decide +kernel
theorem dX6_calm_53 : decode cX6_calm 53 = .ok (.iload 7, 2) := by decide +kernel
theorem dX6_calm_55 : decode cX6_calm 55 = .ok (.iload_n 1, 1) := by decide +kernel
theorem dX6_calm_56 : decode cX6_calm 56 = .ok (.iload_n 2, 1) := by decide +kernel
theorem dX6_calm_57 : decode cX6_calm 57 = .ok (.iload_n 3, 1) := by decide +kernel
theorem dX6_calm_58 : decode cX6_calm 58 = .ok (.iload 4, 2) := by decide +kernel
theorem dX6_calm_60 : decode cX6_calm 60 = .ok (.invokevirtual 247, 3) := by decide +kernel
theorem dX6_calm_63 : decode cX6_calm 63 = .ok (.ifCond .le 7, 3) := by decide +kernel
theorem dX6_calm_66 : decode cX6_calm 66 = .ok (.iconst 0, 1) := by decide +kernel
theorem dX6_calm_67 : decode cX6_calm 67 = .ok (.goto 7, 3) := by decide +kernel
theorem dX6_calm_70 : decode cX6_calm 70 = .ok (.iconst 1, 1) := by decide +kernel
theorem dX6_calm_71 : decode cX6_calm 71 = .ok (.iload 7, 2) := by decide +kernel
theorem dX6_calm_73 : decode cX6_calm 73 = .ok (.ishl, 1) := by decide +kernel
theorem dX6_calm_74 : decode cX6_calm 74 = .ok (.ior, 1) := by decide +kernel
theorem dX6_calm_75 : decode cX6_calm 75 = .ok (.istore 6, 2) := by decide +kernel
theorem dX6_calm_77 : decode cX6_calm 77 = .ok (.iinc 7 1, 3) := by decide +kernel
theorem dX6_calm_80 : decode cX6_calm 80 = .ok (.goto (-37), 3) := by decide +kernel
theorem dX6_calm_83 : decode cX6_calm 83 = .ok (.iload 6, 2) := by decide +kernel
theorem dX6_calm_85 : decode cX6_calm 85 = .ok (.ireturn, 1) := by decide +kernel
theorem dX6_closes_0 : decode cX6_closes 0 = .ok (.aload_n 0, 1) := by decide +kernel
theorem dX6_closes_1 : decode cX6_closes 1 = .ok (.iconst 0, 1) := by decide +kernel
theorem dX6_closes_2 : decode cX6_closes 2 = .ok (.putfield 55, 3) := by decide +kernel
theorem dX6_closes_5 : decode cX6_closes 5 = .ok (.iload_n 1, 1) := by decide +kernel
theorem dX6_closes_6 : decode cX6_closes 6 = .ok (.invokestatic 147, 3) := by decide +kernel
theorem dX6_closes_9 : decode cX6_closes 9 = .ok (.ifCond .ne 9, 3) := by decide +kernel
theorem dX6_closes_12 : decode cX6_closes 12 = .ok (.aload_n 0, 1) := by decide +kernel
theorem dX6_closes_13 : decode cX6_closes 13 = .ok (.iconst (-1), 1) := by decide +kernel
theorem dX6_closes_14 : decode cX6_closes 14 = .ok (.invokevirtual 102, 3) := by decide +kernel
theorem dX6_closes_17 : decode cX6_closes 17 = .ok (.ireturn, 1) := by decide +kernel
theorem dX6_closes_18 : decode cX6_closes 18 = .ok (.iconst 0, 1) := by decide +kernel
theorem dX6_closes_19 : decode cX6_closes 19 = .ok (.istore_n 2, 1) := by decide +kernel
theorem dX6_closes_20 : decode cX6_closes 20 = .ok (.iconst 0, 1) := by decide +kernel
theorem dX6_closes_21 : decode cX6_closes 21 = .ok (.istore_n 3, 1) := by decide +kernel
theorem dX6_closes_22 : decode cX6_closes 22 = .ok (.iconst 0, 1) := by decide +kernel
theorem dX6_closes_23 : decode cX6_closes 23 = .ok (.istore 4, 2) := by decide +kernel
theorem dX6_closes_25 : decode cX6_closes 25 = .ok (.iconst 1, 1) := by decide +kernel
theorem dX6_closes_26 : decode cX6_closes 26 = .ok (.istore 5, 2) := by decide +kernel
theorem dX6_closes_28 : decode cX6_closes 28 = .ok (.iload 5, 2) := by decide +kernel
theorem dX6_closes_30 : decode cX6_closes 30 = .ok (.bipush 10, 2) := by decide +kernel
theorem dX6_closes_32 : decode cX6_closes 32 = .ok (.if_icmp .ge 140, 3) := by decide +kernel
theorem dX6_closes_35 : decode cX6_closes 35 = .ok (.iconst 1, 1) := by decide +kernel
theorem dX6_closes_36 : decode cX6_closes 36 = .ok (.istore 6, 2) := by decide +kernel
theorem dX6_closes_38 : decode cX6_closes 38 = .ok (.iload 6, 2) := by decide +kernel
theorem dX6_closes_40 : decode cX6_closes 40 = .ok (.bipush 10, 2) := by decide +kernel
theorem dX6_closes_42 : decode cX6_closes 42 = .ok (.if_icmp .ge 124, 3) := by decide +kernel
theorem dX6_closes_45 : decode cX6_closes 45 = .ok (.aload_n 0, 1) := by decide +kernel
theorem dX6_closes_46 : decode cX6_closes 46 = .ok (.aload_n 0, 1) := by decide +kernel
theorem dX6_closes_47 : decode cX6_closes 47 = .ok (.getfield 157, 3) := by decide +kernel
theorem dX6_closes_50 : decode cX6_closes 50 = .ok (.iload_n 1, 1) := by decide +kernel
theorem dX6_closes_51 : decode cX6_closes 51 = .ok (.iload 5, 2) := by decide +kernel
theorem dX6_closes_53 : decode cX6_closes 53 = .ok (.iload 6, 2) := by decide +kernel
theorem dX6_closes_55 : decode cX6_closes 55 = .ok (.invokevirtual 160, 3) := by decide +kernel
theorem dX6_closes_58 : decode cX6_closes 58 = .ok (.istore 7, 2) := by decide +kernel
theorem dX6_closes_60 : decode cX6_closes 60 = .ok (.aload_n 0, 1) := by decide +kernel
theorem dX6_closes_61 : decode cX6_closes 61 = .ok (.dup, 1) := by decide +kernel
theorem dX6_closes_62 : decode cX6_closes 62 = .ok (.getfield 65, 3) := by decide +kernel
theorem dX6_closes_65 : decode cX6_closes 65 = .ok (.iconst 1, 1) := by decide +kernel
theorem dX6_closes_66 : decode cX6_closes 66 = .ok (.isub, 1) := by decide +kernel
theorem dX6_closes_67 : decode cX6_closes 67 = .ok (.putfield 65, 3) := by decide +kernel
theorem dX6_closes_70 : decode cX6_closes 70 = .ok (.aload_n 0, 1) := by decide +kernel
theorem dX6_closes_71 : decode cX6_closes 71 = .ok (.iload 7, 2) := by decide +kernel
theorem dX6_closes_73 : decode cX6_closes 73 = .ok (.invokevirtual 214, 3) := by decide +kernel
theorem dX6_closes_76 : decode cX6_closes 76 = .ok (.istore 8, 2) := by decide +kernel
theorem dX6_closes_78 : decode cX6_closes 78 = .ok (.aload_n 0, 1) := by decide +kernel
theorem dX6_closes_79 : decode cX6_closes 79 = .ok (.iload 7, 2) := by decide +kernel
theorem dX6_closes_81 : decode cX6_closes 81 = .ok (.invokevirtual 217, 3) := by decide +kernel
theorem dX6_closes_84 : decode cX6_closes 84 = .ok (.istore 9, 2) := by decide +kernel
theorem dX6_closes_86 : decode cX6_closes 86 = .ok (.iload_n 2, 1) := by decide +kernel
theorem dX6_closes_87 : decode cX6_closes 87 = .ok (.ifCond .eq 22, 3) := by decide +kernel
theorem dX6_closes_90 : decode cX6_closes 90 = .ok (.iload 8, 2) := by decide +kernel
theorem dX6_closes_92 : decode cX6_closes 92 = .ok (.iload_n 3, 1) := by decide +kernel
theorem dX6_closes_93 : decode cX6_closes 93 = .ok (.if_icmp .lt 16, 3) := by decide +kernel
theorem dX6_closes_96 : decode cX6_closes 96 = .ok (.iload 8, 2) := by decide +kernel
theorem dX6_closes_98 : decode cX6_closes 98 = .ok (.iload_n 3, 1) := by decide +kernel
theorem dX6_closes_99 : decode cX6_closes 99 = .ok (.if_icmp .ne 14, 3) := by decide +kernel
theorem dX6_closes_102 : decode cX6_closes 102 = .ok (.iload 9, 2) := by decide +kernel
theorem dX6_closes_104 : decode cX6_closes 104 = .ok (.iload 4, 2) := by decide +kernel
theorem dX6_closes_106 : decode cX6_closes 106 = .ok (.if_icmp .ge 7, 3) := by decide +kernel
theorem dX6_closes_109 : decode cX6_closes 109 = .ok (.iconst 1, 1) := by decide +kernel
theorem dX6_closes_110 : decode cX6_closes 110 = .ok (.goto 4, 3) := by decide +kernel
theorem dX6_closes_113 : decode cX6_closes 113 = .ok (.iconst 0, 1) := by decide +kernel
theorem dX6_closes_114 : decode cX6_closes 114 = .ok (.istore 10, 2) := by decide +kernel
theorem dX6_closes_116 : decode cX6_closes 116 = .ok (.iload 10, 2) := by decide +kernel
theorem dX6_closes_118 : decode cX6_closes 118 = .ok (.ifCond .eq 14, 3) := by decide +kernel
theorem dX6_closes_121 : decode cX6_closes 121 = .ok (.bipush 10, 2) := by decide +kernel
theorem dX6_closes_123 : decode cX6_closes 123 = .ok (.iload 5, 2) := by decide +kernel
theorem dX6_closes_125 : decode cX6_closes 125 = .ok (.imul, 1) := by decide +kernel
theorem dX6_closes_126 : decode cX6_closes 126 = .ok (.iload 6, 2) := by decide +kernel
theorem dX6_closes_128 : decode cX6_closes 128 = .ok (.iadd, 1) := by decide +kernel
theorem dX6_closes_129 : decode cX6_closes 129 = .ok (.goto 4, 3) := by decide +kernel
theorem dX6_closes_132 : decode cX6_closes 132 = .ok (.iload_n 2, 1) := by decide +kernel
theorem dX6_closes_133 : decode cX6_closes 133 = .ok (.istore_n 2, 1) := by decide +kernel
theorem dX6_closes_134 : decode cX6_closes 134 = .ok (.iload 10, 2) := by decide +kernel
theorem dX6_closes_136 : decode cX6_closes 136 = .ok (.ifCond .eq 8, 3) := by decide +kernel
theorem dX6_closes_139 : decode cX6_closes 139 = .ok (.iload 8, 2) := by decide +kernel
theorem dX6_closes_141 : decode cX6_closes 141 = .ok (.goto 4, 3) := by decide +kernel
theorem dX6_closes_144 : decode cX6_closes 144 = .ok (.iload_n 3, 1) := by decide +kernel
theorem dX6_closes_145 : decode cX6_closes 145 = .ok (.istore_n 3, 1) := by decide +kernel
theorem dX6_closes_146 : decode cX6_closes 146 = .ok (.iload 10, 2) := by decide +kernel
theorem dX6_closes_148 : decode cX6_closes 148 = .ok (.ifCond .eq 8, 3) := by decide +kernel
theorem dX6_closes_151 : decode cX6_closes 151 = .ok (.iload 9, 2) := by decide +kernel
theorem dX6_closes_153 : decode cX6_closes 153 = .ok (.goto 5, 3) := by decide +kernel
theorem dX6_closes_156 : decode cX6_closes 156 = .ok (.iload 4, 2) := by decide +kernel
theorem dX6_closes_158 : decode cX6_closes 158 = .ok (.istore 4, 2) := by decide +kernel
theorem dX6_closes_160 : decode cX6_closes 160 = .ok (.iinc 6 1, 3) := by decide +kernel
theorem dX6_closes_163 : decode cX6_closes 163 = .ok (.goto (-125), 3) := by decide +kernel
theorem dX6_closes_166 : decode cX6_closes 166 = .ok (.iinc 5 1, 3) := by decide +kernel
theorem dX6_closes_169 : decode cX6_closes 169 = .ok (.goto (-141), 3) := by decide +kernel
theorem dX6_closes_172 : decode cX6_closes 172 = .ok (.iload_n 2, 1) := by decide +kernel
theorem dX6_closes_173 : decode cX6_closes 173 = .ok (.ireturn, 1) := by decide +kernel
theorem dX6_correct_0 : decode cX6_correct 0 = .ok (.aload_n 0, 1) := by decide +kernel
theorem dX6_correct_1 : decode cX6_correct 1 = .ok (.iconst 0, 1) := by decide +kernel
theorem dX6_correct_2 : decode cX6_correct 2 = .ok (.putfield 55, 3) := by decide +kernel
theorem dX6_correct_5 : decode cX6_correct 5 = .ok (.iload_n 1, 1) := by decide +kernel
theorem dX6_correct_6 : decode cX6_correct 6 = .ok (.invokestatic 147, 3) := by decide +kernel
theorem dX6_correct_9 : decode cX6_correct 9 = .ok (.ifCond .eq 11, 3) := by decide +kernel
theorem dX6_correct_12 : decode cX6_correct 12 = .ok (.iload_n 2, 1) := by decide +kernel
theorem dX6_correct_13 : decode cX6_correct 13 = .ok (.iload_n 3, 1) := by decide +kernel
theorem dX6_correct_14 : decode cX6_correct 14 = .ok (.invokestatic 154, 3) := by decide +kernel
theorem dX6_correct_17 : decode cX6_correct 17 = .ok (.goto 4, 3) := by decide +kernel
theorem dX6_correct_20 : decode cX6_correct 20 = .ok (.iconst (-1), 1) := by decide +kernel
theorem dX6_correct_21 : decode cX6_correct 21 = .ok (.istore 4, 2) := by decide +kernel
theorem dX6_correct_23 : decode cX6_correct 23 = .ok (.iload 4, 2) := by decide +kernel
theorem dX6_correct_25 : decode cX6_correct 25 = .ok (.ifCond .ge 10, 3) := by decide +kernel
theorem dX6_correct_28 : decode cX6_correct 28 = .ok (.aload_n 0, 1) := by decide +kernel
theorem dX6_correct_29 : decode cX6_correct 29 = .ok (.iload 4, 2) := by decide +kernel
theorem dX6_correct_31 : decode cX6_correct 31 = .ok (.invokevirtual 102, 3) := by decide +kernel
theorem dX6_correct_34 : decode cX6_correct 34 = .ok (.ireturn, 1) := by decide +kernel
theorem dX6_correct_35 : decode cX6_correct 35 = .ok (.aload_n 0, 1) := by decide +kernel
theorem dX6_correct_36 : decode cX6_correct 36 = .ok (.iconst 2, 1) := by decide +kernel
theorem dX6_correct_37 : decode cX6_correct 37 = .ok (.iload_n 1, 1) := by decide +kernel
theorem dX6_correct_38 : decode cX6_correct 38 = .ok (.iload_n 2, 1) := by decide +kernel
theorem dX6_correct_39 : decode cX6_correct 39 = .ok (.iload_n 3, 1) := by decide +kernel
theorem dX6_correct_40 : decode cX6_correct 40 = .ok (.invokevirtual 240, 3) := by decide +kernel
theorem dX6_correct_43 : decode cX6_correct 43 = .ok (.aload_n 0, 1) := by decide +kernel
theorem dX6_correct_44 : decode cX6_correct 44 = .ok (.iconst 0, 1) := by decide +kernel
theorem dX6_correct_45 : decode cX6_correct 45 = .ok (.iload_n 1, 1) := by decide +kernel
theorem dX6_correct_46 : decode cX6_correct 46 = .ok (.iload_n 2, 1) := by decide +kernel
theorem dX6_correct_47 : decode cX6_correct 47 = .ok (.iload_n 3, 1) := by decide +kernel
theorem dX6_correct_48 : decode cX6_correct 48 = .ok (.invokevirtual 240, 3) := by decide +kernel
theorem dX6_correct_51 : decode cX6_correct 51 = .ok (.if_icmp .ge 7, 3) := by decide +kernel
theorem dX6_correct_54 : decode cX6_correct 54 = .ok (.iconst 1, 1) := by decide +kernel
theorem dX6_correct_55 : decode cX6_correct 55 = .ok (.goto 4, 3) := by decide +kernel
theorem dX6_correct_58 : decode cX6_correct 58 = .ok (.iconst 0, 1) := by decide +kernel
theorem dX6_correct_59 : decode cX6_correct 59 = .ok (.ireturn, 1) := by decide +kernel
theorem dX6_wobbling_0 : decode cX6_wobbling 0 = .ok (.iconst 0, 1) := by decide +kernel
theorem dX6_wobbling_1 : decode cX6_wobbling 1 = .ok (.istore_n 3, 1) := by decide +kernel
theorem dX6_wobbling_2 : decode cX6_wobbling 2 = .ok (.iconst 0, 1) := by decide +kernel
theorem dX6_wobbling_3 : decode cX6_wobbling 3 = .ok (.istore 4, 2) := by decide +kernel
theorem dX6_wobbling_5 : decode cX6_wobbling 5 = .ok (.iload 4, 2) := by decide +kernel
theorem dX6_wobbling_7 : decode cX6_wobbling 7 = .ok (.aload_n 0, 1) := by decide +kernel
theorem dX6_wobbling_8 : decode cX6_wobbling 8 = .ok (.getfield 65, 3) := by decide +kernel
theorem dX6_wobbling_11 : decode cX6_wobbling 11 = .ok (.if_icmp .ge 39, 3) := by decide +kernel
theorem dX6_wobbling_14 : decode cX6_wobbling 14 = .ok (.iload_n 3, 1) := by decide +kernel
theorem dX6_wobbling_15 : decode cX6_wobbling 15 = .ok (.aload_n 0, 1) := by decide +kernel
theorem dX6_wobbling_16 : decode cX6_wobbling 16 = .ok (.getfield 19, 3) := by decide +kernel
theorem dX6_wobbling_19 : decode cX6_wobbling 19 = .ok (.iload 4, 2) := by decide +kernel
theorem dX6_wobbling_21 : decode cX6_wobbling 21 = .ok (.iaload, 1) := by decide +kernel
theorem dX6_wobbling_22 : decode cX6_wobbling 22 = .ok (.iload_n 1, 1) := by decide +kernel
theorem dX6_wobbling_23 : decode cX6_wobbling 23 = .ok (.if_icmp .ne 18, 3) := by decide +kernel
theorem dX6_wobbling_26 : decode cX6_wobbling 26 = .ok (.aload_n 0, 1) := by decide +kernel
theorem dX6_wobbling_27 : decode cX6_wobbling 27 = .ok (.iload 4, 2) := by decide +kernel
theorem dX6_wobbling_29 : decode cX6_wobbling 29 = .ok (.iload_n 2, 1) := by decide +kernel
theorem dX6_wobbling_30 : decode cX6_wobbling 30 = .ok (.invokevirtual 99, 3) := by decide +kernel
theorem dX6_wobbling_33 : decode cX6_wobbling 33 = .ok (.iconst 4, 1) := by decide +kernel
theorem dX6_wobbling_34 : decode cX6_wobbling 34 = .ok (.if_icmp .lt 7, 3) := by decide +kernel
theorem dX6_wobbling_37 : decode cX6_wobbling 37 = .ok (.iconst 1, 1) := by decide +kernel
theorem dX6_wobbling_38 : decode cX6_wobbling 38 = .ok (.goto 4, 3) := by decide +kernel
theorem dX6_wobbling_41 : decode cX6_wobbling 41 = .ok (.iconst 0, 1) := by decide +kernel
theorem dX6_wobbling_42 : decode cX6_wobbling 42 = .ok (.iadd, 1) := by decide +kernel
theorem dX6_wobbling_43 : decode cX6_wobbling 43 = .ok (.istore_n 3, 1) := by decide +kernel
theorem dX6_wobbling_44 : decode cX6_wobbling 44 = .ok (.iinc 4 1, 3) := by decide +kernel
theorem dX6_wobbling_47 : decode cX6_wobbling 47 = .ok (.goto (-42), 3) := by decide +kernel
theorem dX6_wobbling_50 : decode cX6_wobbling 50 = .ok (.iload_n 3, 1) := by decide +kernel
theorem dX6_wobbling_51 : decode cX6_wobbling 51 = .ok (.ireturn, 1) := by decide +kernel
theorem dX6_from_0 : decode cX6_from 0 = .ok (.aload_n 0, 1) := by decide +kernel
theorem dX6_from_1 : decode cX6_from 1 = .ok (.iconst 0, 1) := by decide +kernel
theorem dX6_from_2 : decode cX6_from 2 = .ok (.putfield 55, 3) := by decide +kernel
theorem dX6_from_5 : decode cX6_from 5 = .ok (.iload_n 1, 1) := by decide +kernel
theorem dX6_from_6 : decode cX6_from 6 = .ok (.invokestatic 151, 3) := by decide +kernel
theorem dX6_from_9 : decode cX6_from 9 = .ok (.ifCond .ne 14, 3) := by decide +kernel
theorem dX6_from_12 : decode cX6_from 12 = .ok (.ldc2_w 229, 3) := by decide +kernel
theorem dX6_from_15 : decode cX6_from 15 = .ok (.aload_n 0, 1) := by decide +kernel
theorem dX6_from_16 : decode cX6_from 16 = .ok (.iconst (-1), 1) := by decide +kernel
theorem dX6_from_17 : decode cX6_from 17 = .ok (.invokevirtual 102, 3) := by decide +kernel
theorem dX6_from_20 : decode cX6_from 20 = .ok (.i2l, 1) := by decide +kernel
theorem dX6_from_21 : decode cX6_from 21 = .ok (.lsub, 1) := by decide +kernel
theorem dX6_from_22 : decode cX6_from 22 = .ok (.lreturn, 1) := by decide +kernel
theorem dX6_from_23 : decode cX6_from 23 = .ok (.iload_n 2, 1) := by decide +kernel
theorem dX6_from_24 : decode cX6_from 24 = .ok (.i2l, 1) := by decide +kernel
theorem dX6_from_25 : decode cX6_from 25 = .ok (.lconst 0, 1) := by decide +kernel
theorem dX6_from_26 : decode cX6_from 26 = .ok (.ldc2_w 250, 3) := by decide +kernel
theorem dX6_from_29 : decode cX6_from 29 = .ok (.invokestatic 59, 3) := by decide +kernel
theorem dX6_from_32 : decode cX6_from 32 = .ok (.ifCond .eq 13, 3) := by decide +kernel
theorem dX6_from_35 : decode cX6_from 35 = .ok (.iload_n 3, 1) := by decide +kernel
theorem dX6_from_36 : decode cX6_from 36 = .ok (.i2l, 1) := by decide +kernel
theorem dX6_from_37 : decode cX6_from 37 = .ok (.lconst 0, 1) := by decide +kernel
theorem dX6_from_38 : decode cX6_from 38 = .ok (.lconst 1, 1) := by decide +kernel
theorem dX6_from_39 : decode cX6_from 39 = .ok (.invokestatic 59, 3) := by decide +kernel
theorem dX6_from_42 : decode cX6_from 42 = .ok (.ifCond .ne 15, 3) := by decide +kernel
theorem dX6_from_45 : decode cX6_from 45 = .ok (.ldc2_w 229, 3) := by decide +kernel
theorem dX6_from_48 : decode cX6_from 48 = .ok (.aload_n 0, 1) := by decide +kernel
theorem dX6_from_49 : decode cX6_from 49 = .ok (.bipush (-2), 2) := by decide +kernel
theorem dX6_from_51 : decode cX6_from 51 = .ok (.invokevirtual 102, 3) := by decide +kernel
theorem dX6_from_54 : decode cX6_from 54 = .ok (.i2l, 1) := by decide +kernel
theorem dX6_from_55 : decode cX6_from 55 = .ok (.lsub, 1) := by decide +kernel
theorem dX6_from_56 : decode cX6_from 56 = .ok (.lreturn, 1) := by decide +kernel
theorem dX6_from_57 : decode cX6_from 57 = .ok (.aload_n 0, 1) := by decide +kernel
theorem dX6_from_58 : decode cX6_from 58 = .ok (.iconst 0, 1) := by decide +kernel
theorem dX6_from_59 : decode cX6_from 59 = .ok (.iload_n 1, 1) := by decide +kernel
theorem dX6_from_60 : decode cX6_from 60 = .ok (.invokevirtual 252, 3) := by decide +kernel
theorem dX6_from_63 : decode cX6_from 63 = .ok (.istore 4, 2) := by decide +kernel
theorem dX6_from_65 : decode cX6_from 65 = .ok (.aload_n 0, 1) := by decide +kernel
theorem dX6_from_66 : decode cX6_from 66 = .ok (.iconst 1, 1) := by decide +kernel
theorem dX6_from_67 : decode cX6_from 67 = .ok (.iload_n 1, 1) := by decide +kernel
theorem dX6_from_68 : decode cX6_from 68 = .ok (.invokevirtual 252, 3) := by decide +kernel
theorem dX6_from_71 : decode cX6_from 71 = .ok (.istore 5, 2) := by decide +kernel
theorem dX6_from_73 : decode cX6_from 73 = .ok (.iload 4, 2) := by decide +kernel
theorem dX6_from_75 : decode cX6_from 75 = .ok (.ifCond .le 16, 3) := by decide +kernel
theorem dX6_from_78 : decode cX6_from 78 = .ok (.iload 5, 2) := by decide +kernel
theorem dX6_from_80 : decode cX6_from 80 = .ok (.ifCond .le 11, 3) := by decide +kernel
theorem dX6_from_83 : decode cX6_from 83 = .ok (.iload 4, 2) := by decide +kernel
theorem dX6_from_85 : decode cX6_from 85 = .ok (.iload 5, 2) := by decide +kernel
theorem dX6_from_87 : decode cX6_from 87 = .ok (.iadd, 1) := by decide +kernel
theorem dX6_from_88 : decode cX6_from 88 = .ok (.goto 4, 3) := by decide +kernel
theorem dX6_from_91 : decode cX6_from 91 = .ok (.iconst 0, 1) := by decide +kernel
theorem dX6_from_92 : decode cX6_from 92 = .ok (.istore 6, 2) := by decide +kernel
theorem dX6_from_94 : decode cX6_from 94 = .ok (.iconst 3, 1) := by decide +kernel
theorem dX6_from_95 : decode cX6_from 95 = .ok (.aload_n 0, 1) := by decide +kernel
theorem dX6_from_96 : decode cX6_from 96 = .ok (.getfield 7, 3) := by decide +kernel
theorem dX6_from_99 : decode cX6_from 99 = .ok (.iload_n 1, 1) := by decide +kernel
theorem dX6_from_100 : decode cX6_from 100 = .ok (.iaload, 1) := by decide +kernel
theorem dX6_from_101 : decode cX6_from 101 = .ok (.aload_n 0, 1) := by decide +kernel
theorem dX6_from_102 : decode cX6_from 102 = .ok (.getfield 7, 3) := by decide +kernel
theorem dX6_from_105 : decode cX6_from 105 = .ok (.bipush 12, 2) := by decide +kernel
theorem dX6_from_107 : decode cX6_from 107 = .ok (.iload_n 1, 1) := by decide +kernel
theorem dX6_from_108 : decode cX6_from 108 = .ok (.iadd, 1) := by decide +kernel
theorem dX6_from_109 : decode cX6_from 109 = .ok (.iaload, 1) := by decide +kernel
theorem dX6_from_110 : decode cX6_from 110 = .ok (.iadd, 1) := by decide +kernel
theorem dX6_from_111 : decode cX6_from 111 = .ok (.imul, 1) := by decide +kernel
theorem dX6_from_112 : decode cX6_from 112 = .ok (.istore 7, 2) := by decide +kernel
theorem dX6_from_114 : decode cX6_from 114 = .ok (.aload_n 0, 1) := by decide +kernel
theorem dX6_from_115 : decode cX6_from 115 = .ok (.getfield 13, 3) := by decide +kernel
theorem dX6_from_118 : decode cX6_from 118 = .ok (.iload_n 1, 1) := by decide +kernel
theorem dX6_from_119 : decode cX6_from 119 = .ok (.iaload, 1) := by decide +kernel
theorem dX6_from_120 : decode cX6_from 120 = .ok (.ifCond .le 7, 3) := by decide +kernel
theorem dX6_from_123 : decode cX6_from 123 = .ok (.iconst 2, 1) := by decide +kernel
theorem dX6_from_124 : decode cX6_from 124 = .ok (.goto 4, 3) := by decide +kernel
theorem dX6_from_127 : decode cX6_from 127 = .ok (.iconst 0, 1) := by decide +kernel
theorem dX6_from_128 : decode cX6_from 128 = .ok (.aload_n 0, 1) := by decide +kernel
theorem dX6_from_129 : decode cX6_from 129 = .ok (.getfield 13, 3) := by decide +kernel
theorem dX6_from_132 : decode cX6_from 132 = .ok (.bipush 12, 2) := by decide +kernel
theorem dX6_from_134 : decode cX6_from 134 = .ok (.iload_n 1, 1) := by decide +kernel
theorem dX6_from_135 : decode cX6_from 135 = .ok (.iadd, 1) := by decide +kernel
theorem dX6_from_136 : decode cX6_from 136 = .ok (.iaload, 1) := by decide +kernel
theorem dX6_from_137 : decode cX6_from 137 = .ok (.ifCond .le 7, 3) := by decide +kernel
theorem dX6_from_140 : decode cX6_from 140 = .ok (.iconst 2, 1) := by decide +kernel
theorem dX6_from_141 : decode cX6_from 141 = .ok (.goto 4, 3) := by decide +kernel
theorem dX6_from_144 : decode cX6_from 144 = .ok (.iconst 0, 1) := by decide +kernel
theorem dX6_from_145 : decode cX6_from 145 = .ok (.iadd, 1) := by decide +kernel
theorem dX6_from_146 : decode cX6_from 146 = .ok (.istore 8, 2) := by decide +kernel
theorem dX6_from_148 : decode cX6_from 148 = .ok (.iload_n 2, 1) := by decide +kernel
theorem dX6_from_149 : decode cX6_from 149 = .ok (.ifCond .ne 8, 3) := by decide +kernel
theorem dX6_from_152 : decode cX6_from 152 = .ok (.iload 6, 2) := by decide +kernel
theorem dX6_from_154 : decode cX6_from 154 = .ok (.goto 15, 3) := by decide +kernel
theorem dX6_from_157 : decode cX6_from 157 = .ok (.iload_n 2, 1) := by decide +kernel
theorem dX6_from_158 : decode cX6_from 158 = .ok (.iconst 1, 1) := by decide +kernel
theorem dX6_from_159 : decode cX6_from 159 = .ok (.if_icmp .ne 8, 3) := by decide +kernel
theorem dX6_from_162 : decode cX6_from 162 = .ok (.iload 7, 2) := by decide +kernel
theorem dX6_from_164 : decode cX6_from 164 = .ok (.goto 5, 3) := by decide +kernel
theorem dX6_from_167 : decode cX6_from 167 = .ok (.iload 8, 2) := by decide +kernel
theorem dX6_from_169 : decode cX6_from 169 = .ok (.iload 6, 2) := by decide +kernel
theorem dX6_from_171 : decode cX6_from 171 = .ok (.iload 7, 2) := by decide +kernel
theorem dX6_from_173 : decode cX6_from 173 = .ok (.iadd, 1) := by decide +kernel
theorem dX6_from_174 : decode cX6_from 174 = .ok (.iload 8, 2) := by decide +kernel
theorem dX6_from_176 : decode cX6_from 176 = .ok (.iadd, 1) := by decide +kernel
theorem dX6_from_177 : decode cX6_from 177 = .ok (.iload_n 3, 1) := by decide +kernel
theorem dX6_from_178 : decode cX6_from 178 = .ok (.invokestatic 231, 3) := by decide +kernel
theorem dX6_from_181 : decode cX6_from 181 = .ok (.lreturn, 1) := by decide +kernel
theorem dX6_isRowBy_0 : decode cX6_isRowBy 0 = .ok (.iconst 1, 1) := by decide +kernel
theorem dX6_isRowBy_1 : decode cX6_isRowBy 1 = .ok (.istore 5, 2) := by decide +kernel
theorem dX6_isRowBy_3 : decode cX6_isRowBy 3 = .ok (.iconst 0, 1) := by decide +kernel
theorem dX6_isRowBy_4 : decode cX6_isRowBy 4 = .ok (.istore 6, 2) := by decide +kernel
theorem dX6_isRowBy_6 : decode cX6_isRowBy 6 = .ok (.iload 6, 2) := by decide +kernel
