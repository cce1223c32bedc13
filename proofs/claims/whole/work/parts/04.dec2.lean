theorem dX9_init_0 : decode cX9_init 0 = .ok (.aload_n 0, 1) := by decide +kernel
theorem dX9_init_1 : decode cX9_init 1 = .ok (.invokespecial 3, 3) := by decide +kernel
theorem dX9_init_4 : decode cX9_init 4 = .ok (.aload_n 0, 1) := by decide +kernel
theorem dX9_init_5 : decode cX9_init 5 = .ok (.new 9, 3) := by decide +kernel
theorem dX9_init_8 : decode cX9_init 8 = .ok (.dup, 1) := by decide +kernel
theorem dX9_init_9 : decode cX9_init 9 = .ok (.invokespecial 11, 3) := by decide +kernel
theorem dX9_init_12 : decode cX9_init 12 = .ok (.putfield 12, 3) := by decide +kernel
theorem dX9_init_15 : decode cX9_init 15 = .ok (.aload_n 0, 1) := by decide +kernel
theorem dX9_init_16 : decode cX9_init 16 = .ok (.new 16, 3) := by decide +kernel
theorem dX9_init_19 : decode cX9_init 19 = .ok (.dup, 1) := by decide +kernel
theorem dX9_init_20 : decode cX9_init 20 = .ok (.invokespecial 18, 3) := by decide +kernel
theorem dX9_init_23 : decode cX9_init 23 = .ok (.putfield 19, 3) := by decide +kernel
theorem dX9_init_26 : decode cX9_init 26 = .ok (.aload_n 0, 1) := by decide +kernel
theorem dX9_init_27 : decode cX9_init 27 = .ok (.new 23, 3) := by decide +kernel
theorem dX9_init_30 : decode cX9_init 30 = .ok (.dup, 1) := by decide +kernel
theorem dX9_init_31 : decode cX9_init 31 = .ok (.invokespecial 25, 3) := by decide +kernel
theorem dX9_init_34 : decode cX9_init 34 = .ok (.putfield 26, 3) := by decide +kernel
theorem dX9_init_37 : decode cX9_init 37 = .ok (.aload_n 0, 1) := by decide +kernel
theorem dX9_init_38 : decode cX9_init 38 = .ok (.bipush 24, 2) := by decide +kernel
theorem dX9_init_40 : decode cX9_init 40 = .ok (.anewarray 30, 3) := by decide +kernel
theorem dX9_init_43 : decode cX9_init 43 = .ok (.putfield 32, 3) := by decide +kernel
theorem dX9_init_46 : decode cX9_init 46 = .ok (.aload_n 0, 1) := by decide +kernel
theorem dX9_init_47 : decode cX9_init 47 = .ok (.iconst 0, 1) := by decide +kernel
theorem dX9_init_48 : decode cX9_init 48 = .ok (.putfield 36, 3) := by decide +kernel
theorem dX9_init_51 : decode cX9_init 51 = .ok (.aload_n 0, 1) := by decide +kernel
theorem dX9_init_52 : decode cX9_init 52 = .ok (.new 40, 3) := by decide +kernel
theorem dX9_init_55 : decode cX9_init 55 = .ok (.dup, 1) := by decide +kernel
theorem dX9_init_56 : decode cX9_init 56 = .ok (.invokespecial 42, 3) := by decide +kernel
theorem dX9_init_59 : decode cX9_init 59 = .ok (.putfield 43, 3) := by decide +kernel
theorem dX9_init_62 : decode cX9_init 62 = .ok (.aload_n 0, 1) := by decide +kernel
theorem dX9_init_63 : decode cX9_init 63 = .ok (.iconst 5, 1) := by decide +kernel
theorem dX9_init_64 : decode cX9_init 64 = .ok (.anewarray 47, 3) := by decide +kernel
theorem dX9_init_67 : decode cX9_init 67 = .ok (.putfield 49, 3) := by decide +kernel
theorem dX9_init_70 : decode cX9_init 70 = .ok (.aload_n 0, 1) := by decide +kernel
theorem dX9_init_71 : decode cX9_init 71 = .ok (.new 53, 3) := by decide +kernel
theorem dX9_init_74 : decode cX9_init 74 = .ok (.dup, 1) := by decide +kernel
theorem dX9_init_75 : decode cX9_init 75 = .ok (.invokespecial 55, 3) := by decide +kernel
theorem dX9_init_78 : decode cX9_init 78 = .ok (.putfield 56, 3) := by decide +kernel
theorem dX9_init_81 : decode cX9_init 81 = .ok (.aload_n 0, 1) := by decide +kernel
theorem dX9_init_82 : decode cX9_init 82 = .ok (.new 60, 3) := by decide +kernel
theorem dX9_init_85 : decode cX9_init 85 = .ok (.dup, 1) := by decide +kernel
theorem dX9_init_86 : decode cX9_init 86 = .ok (.invokespecial 62, 3) := by decide +kernel
theorem dX9_init_89 : decode cX9_init 89 = .ok (.putfield 63, 3) := by decide +kernel
theorem dX9_init_92 : decode cX9_init 92 = .ok (.aload_n 0, 1) := by decide +kernel
theorem dX9_init_93 : decode cX9_init 93 = .ok (.bipush 8, 2) := by decide +kernel
theorem dX9_init_95 : decode cX9_init 95 = .ok (.newarray .int, 2) := by decide +kernel
theorem dX9_init_97 : decode cX9_init 97 = .ok (.putfield 67, 3) := by decide +kernel
theorem dX9_init_100 : decode cX9_init 100 = .ok (.aload_n 0, 1) := by decide +kernel
theorem dX9_init_101 : decode cX9_init 101 = .ok (.bipush 10, 2) := by decide +kernel
theorem dX9_init_103 : decode cX9_init 103 = .ok (.putfield 71, 3) := by decide +kernel
theorem dX9_init_106 : decode cX9_init 106 = .ok (.aload_n 0, 1) := by decide +kernel
theorem dX9_init_107 : decode cX9_init 107 = .ok (.iconst 0, 1) := by decide +kernel
theorem dX9_init_108 : decode cX9_init 108 = .ok (.putfield 74, 3) := by decide +kernel
theorem dX9_init_111 : decode cX9_init 111 = .ok (.iconst 0, 1) := by decide +kernel
theorem dX9_init_112 : decode cX9_init 112 = .ok (.istore_n 1, 1) := by decide +kernel
theorem dX9_init_113 : decode cX9_init 113 = .ok (.iload_n 1, 1) := by decide +kernel
theorem dX9_init_114 : decode cX9_init 114 = .ok (.bipush 24, 2) := by decide +kernel
theorem dX9_init_116 : decode cX9_init 116 = .ok (.if_icmp .ge 22, 3) := by decide +kernel
theorem dX9_init_119 : decode cX9_init 119 = .ok (.aload_n 0, 1) := by decide +kernel
theorem dX9_init_120 : decode cX9_init 120 = .ok (.getfield 32, 3) := by decide +kernel
theorem dX9_init_123 : decode cX9_init 123 = .ok (.iload_n 1, 1) := by decide +kernel
theorem dX9_init_124 : decode cX9_init 124 = .ok (.new 30, 3) := by decide +kernel
theorem dX9_init_127 : decode cX9_init 127 = .ok (.dup, 1) := by decide +kernel
theorem dX9_init_128 : decode cX9_init 128 = .ok (.invokespecial 77, 3) := by decide +kernel
theorem dX9_init_131 : decode cX9_init 131 = .ok (.aastore, 1) := by decide +kernel
theorem dX9_init_132 : decode cX9_init 132 = .ok (.iinc 1 1, 3) := by decide +kernel
theorem dX9_init_135 : decode cX9_init 135 = .ok (.goto (-22), 3) := by decide +kernel
theorem dX9_init_138 : decode cX9_init 138 = .ok (.iconst 0, 1) := by decide +kernel
theorem dX9_init_139 : decode cX9_init 139 = .ok (.istore_n 1, 1) := by decide +kernel
theorem dX9_init_140 : decode cX9_init 140 = .ok (.iload_n 1, 1) := by decide +kernel
theorem dX9_init_141 : decode cX9_init 141 = .ok (.iconst 5, 1) := by decide +kernel
theorem dX9_init_142 : decode cX9_init 142 = .ok (.if_icmp .ge 22, 3) := by decide +kernel
theorem dX9_init_145 : decode cX9_init 145 = .ok (.aload_n 0, 1) := by decide +kernel
theorem dX9_init_146 : decode cX9_init 146 = .ok (.getfield 49, 3) := by decide +kernel
theorem dX9_init_149 : decode cX9_init 149 = .ok (.iload_n 1, 1) := by decide +kernel
theorem dX9_init_150 : decode cX9_init 150 = .ok (.new 47, 3) := by decide +kernel
theorem dX9_init_153 : decode cX9_init 153 = .ok (.dup, 1) := by decide +kernel
theorem dX9_init_154 : decode cX9_init 154 = .ok (.invokespecial 78, 3) := by decide +kernel
theorem dX9_init_157 : decode cX9_init 157 = .ok (.aastore, 1) := by decide +kernel
theorem dX9_init_158 : decode cX9_init 158 = .ok (.iinc 1 1, 3) := by decide +kernel
theorem dX9_init_161 : decode cX9_init 161 = .ok (.goto (-21), 3) := by decide +kernel
theorem dX9_init_164 : decode cX9_init 164 = .ok (.return_, 1) := by decide +kernel
theorem dX9_base_0 : decode cX9_base 0 = .ok (.iload_n 1, 1) := by decide +kernel
theorem dX9_base_1 : decode cX9_base 1 = .ok (.invokestatic 79, 3) := by decide +kernel
theorem dX9_base_4 : decode cX9_base 4 = .ok (.ifCond .eq 10, 3) := by decide +kernel
theorem dX9_base_7 : decode cX9_base 7 = .ok (.iload_n 2, 1) := by decide +kernel
theorem dX9_base_8 : decode cX9_base 8 = .ok (.invokestatic 79, 3) := by decide +kernel
theorem dX9_base_11 : decode cX9_base 11 = .ok (.ifCond .ne 6, 3) := by decide +kernel
theorem dX9_base_14 : decode cX9_base 14 = .ok (.bipush (-3), 2) := by decide +kernel
theorem dX9_base_16 : decode cX9_base 16 = .ok (.ireturn, 1) := by decide +kernel
theorem dX9_base_17 : decode cX9_base 17 = .ok (.aload_n 0, 1) := by decide +kernel
theorem dX9_base_18 : decode cX9_base 18 = .ok (.getfield 12, 3) := by decide +kernel
theorem dX9_base_21 : decode cX9_base 21 = .ok (.iload_n 1, 1) := by decide +kernel
theorem dX9_base_22 : decode cX9_base 22 = .ok (.iload_n 2, 1) := by decide +kernel
theorem dX9_base_23 : decode cX9_base 23 = .ok (.invokevirtual 83, 3) := by decide +kernel
theorem dX9_base_26 : decode cX9_base 26 = .ok (.ireturn, 1) := by decide +kernel
theorem dX9_band_0 : decode cX9_band 0 = .ok (.aload_n 0, 1) := by decide +kernel
theorem dX9_band_1 : decode cX9_band 1 = .ok (.getfield 12, 3) := by decide +kernel
theorem dX9_band_4 : decode cX9_band 4 = .ok (.iload_n 1, 1) := by decide +kernel
theorem dX9_band_5 : decode cX9_band 5 = .ok (.invokevirtual 87, 3) := by decide +kernel
theorem dX9_band_8 : decode cX9_band 8 = .ok (.ifCond .eq 10, 3) := by decide +kernel
theorem dX9_band_11 : decode cX9_band 11 = .ok (.iload_n 2, 1) := by decide +kernel
theorem dX9_band_12 : decode cX9_band 12 = .ok (.invokestatic 90, 3) := by decide +kernel
theorem dX9_band_15 : decode cX9_band 15 = .ok (.ifCond .ne 6, 3) := by decide +kernel
theorem dX9_band_18 : decode cX9_band 18 = .ok (.bipush (-2), 2) := by decide +kernel
theorem dX9_band_20 : decode cX9_band 20 = .ok (.ireturn, 1) := by decide +kernel
theorem dX9_band_21 : decode cX9_band 21 = .ok (.iload_n 3, 1) := by decide +kernel
theorem dX9_band_22 : decode cX9_band 22 = .ok (.invokestatic 79, 3) := by decide +kernel
theorem dX9_band_25 : decode cX9_band 25 = .ok (.ifCond .eq 11, 3) := by decide +kernel
theorem dX9_band_28 : decode cX9_band 28 = .ok (.iload 4, 2) := by decide +kernel
theorem dX9_band_30 : decode cX9_band 30 = .ok (.invokestatic 79, 3) := by decide +kernel
theorem dX9_band_33 : decode cX9_band 33 = .ok (.ifCond .ne 6, 3) := by decide +kernel
theorem dX9_band_36 : decode cX9_band 36 = .ok (.bipush (-3), 2) := by decide +kernel
theorem dX9_band_38 : decode cX9_band 38 = .ok (.ireturn, 1) := by decide +kernel
theorem dX9_band_39 : decode cX9_band 39 = .ok (.aload_n 0, 1) := by decide +kernel
theorem dX9_band_40 : decode cX9_band 40 = .ok (.getfield 12, 3) := by decide +kernel
theorem dX9_band_43 : decode cX9_band 43 = .ok (.iload_n 1, 1) := by decide +kernel
theorem dX9_band_44 : decode cX9_band 44 = .ok (.iload_n 2, 1) := by decide +kernel
theorem dX9_band_45 : decode cX9_band 45 = .ok (.iload_n 3, 1) := by decide +kernel
theorem dX9_band_46 : decode cX9_band 46 = .ok (.iload 4, 2) := by decide +kernel
theorem dX9_band_48 : decode cX9_band 48 = .ok (.invokevirtual 93, 3) := by decide +kernel
theorem dX9_band_51 : decode cX9_band 51 = .ok (.iconst 1, 1) := by decide +kernel
theorem dX9_band_52 : decode cX9_band 52 = .ok (.ireturn, 1) := by decide +kernel
theorem dX9_lot_0 : decode cX9_lot 0 = .ok (.aload_n 0, 1) := by decide +kernel
theorem dX9_lot_1 : decode cX9_lot 1 = .ok (.getfield 12, 3) := by decide +kernel
theorem dX9_lot_4 : decode cX9_lot 4 = .ok (.iload_n 1, 1) := by decide +kernel
theorem dX9_lot_5 : decode cX9_lot 5 = .ok (.invokevirtual 87, 3) := by decide +kernel
theorem dX9_lot_8 : decode cX9_lot 8 = .ok (.ifCond .ne 6, 3) := by decide +kernel
theorem dX9_lot_11 : decode cX9_lot 11 = .ok (.bipush (-2), 2) := by decide +kernel
theorem dX9_lot_13 : decode cX9_lot 13 = .ok (.ireturn, 1) := by decide +kernel
theorem dX9_lot_14 : decode cX9_lot 14 = .ok (.iload_n 2, 1) := by decide +kernel
theorem dX9_lot_15 : decode cX9_lot 15 = .ok (.iconst 1, 1) := by decide +kernel
theorem dX9_lot_16 : decode cX9_lot 16 = .ok (.sipush 20000, 3) := by decide +kernel
theorem dX9_lot_19 : decode cX9_lot 19 = .ok (.invokestatic 97, 3) := by decide +kernel
theorem dX9_lot_22 : decode cX9_lot 22 = .ok (.ifCond .eq 14, 3) := by decide +kernel
theorem dX9_lot_25 : decode cX9_lot 25 = .ok (.iload_n 3, 1) := by decide +kernel
theorem dX9_lot_26 : decode cX9_lot 26 = .ok (.iconst 0, 1) := by decide +kernel
theorem dX9_lot_27 : decode cX9_lot 27 = .ok (.sipush 10000, 3) := by decide +kernel
theorem dX9_lot_30 : decode cX9_lot 30 = .ok (.invokestatic 97, 3) := by decide +kernel
theorem dX9_lot_33 : decode cX9_lot 33 = .ok (.ifCond .ne 6, 3) := by decide +kernel
theorem dX9_lot_36 : decode cX9_lot 36 = .ok (.bipush (-3), 2) := by decide +kernel
theorem dX9_lot_38 : decode cX9_lot 38 = .ok (.ireturn, 1) := by decide +kernel
theorem dX9_lot_39 : decode cX9_lot 39 = .ok (.aload_n 0, 1) := by decide +kernel
theorem dX9_lot_40 : decode cX9_lot 40 = .ok (.getfield 19, 3) := by decide +kernel
theorem dX9_lot_43 : decode cX9_lot 43 = .ok (.iload_n 1, 1) := by decide +kernel
theorem dX9_lot_44 : decode cX9_lot 44 = .ok (.iload_n 2, 1) := by decide +kernel
theorem dX9_lot_45 : decode cX9_lot 45 = .ok (.iload_n 3, 1) := by decide +kernel
theorem dX9_lot_46 : decode cX9_lot 46 = .ok (.invokevirtual 101, 3) := by decide +kernel
theorem dX9_lot_49 : decode cX9_lot 49 = .ok (.ireturn, 1) := by decide +kernel
theorem dX9_left_0 : decode cX9_left 0 = .ok (.aload_n 0, 1) := by decide +kernel
theorem dX9_left_1 : decode cX9_left 1 = .ok (.getfield 19, 3) := by decide +kernel
theorem dX9_left_4 : decode cX9_left 4 = .ok (.iload_n 1, 1) := by decide +kernel
theorem dX9_left_5 : decode cX9_left 5 = .ok (.invokevirtual 104, 3) := by decide +kernel
theorem dX9_left_8 : decode cX9_left 8 = .ok (.ifCond .eq 15, 3) := by decide +kernel
theorem dX9_left_11 : decode cX9_left 11 = .ok (.aload_n 0, 1) := by decide +kernel
theorem dX9_left_12 : decode cX9_left 12 = .ok (.getfield 19, 3) := by decide +kernel
theorem dX9_left_15 : decode cX9_left 15 = .ok (.getfield 105, 3) := by decide +kernel
theorem dX9_left_18 : decode cX9_left 18 = .ok (.iload_n 1, 1) := by decide +kernel
theorem dX9_left_19 : decode cX9_left 19 = .ok (.iaload, 1) := by decide +kernel
theorem dX9_left_20 : decode cX9_left 20 = .ok (.goto 5, 3) := by decide +kernel
theorem dX9_left_23 : decode cX9_left 23 = .ok (.bipush (-2), 2) := by decide +kernel
theorem dX9_left_25 : decode cX9_left 25 = .ok (.ireturn, 1) := by decide +kernel
theorem dX9_may_0 : decode cX9_may 0 = .ok (.aload_n 0, 1) := by decide +kernel
theorem dX9_may_1 : decode cX9_may 1 = .ok (.getfield 12, 3) := by decide +kernel
theorem dX9_may_4 : decode cX9_may 4 = .ok (.iload_n 1, 1) := by decide +kernel
theorem dX9_may_5 : decode cX9_may 5 = .ok (.invokevirtual 87, 3) := by decide +kernel
theorem dX9_may_8 : decode cX9_may 8 = .ok (.ifCond .eq 14, 3) := by decide +kernel
theorem dX9_may_11 : decode cX9_may 11 = .ok (.aload_n 0, 1) := by decide +kernel
theorem dX9_may_12 : decode cX9_may 12 = .ok (.getfield 19, 3) := by decide +kernel
theorem dX9_may_15 : decode cX9_may 15 = .ok (.iload_n 1, 1) := by decide +kernel
theorem dX9_may_16 : decode cX9_may 16 = .ok (.invokevirtual 108, 3) := by decide +kernel
theorem dX9_may_19 : decode cX9_may 19 = .ok (.goto 5, 3) := by decide +kernel
theorem dX9_may_22 : decode cX9_may 22 = .ok (.bipush (-2), 2) := by decide +kernel
theorem dX9_may_24 : decode cX9_may 24 = .ok (.ireturn, 1) := by decide +kernel
theorem dX9_day_0 : decode cX9_day 0 = .ok (.iload_n 1, 1) := by decide +kernel
theorem dX9_day_1 : decode cX9_day 1 = .ok (.iconst 0, 1) := by decide +kernel
theorem dX9_day_2 : decode cX9_day 2 = .ok (.sipush 1000, 3) := by decide +kernel
theorem dX9_day_5 : decode cX9_day 5 = .ok (.invokestatic 97, 3) := by decide +kernel
theorem dX9_day_8 : decode cX9_day 8 = .ok (.ifCond .eq 18, 3) := by decide +kernel
theorem dX9_day_11 : decode cX9_day 11 = .ok (.aload_n 0, 1) := by decide +kernel
theorem dX9_day_12 : decode cX9_day 12 = .ok (.getfield 19, 3) := by decide +kernel
theorem dX9_day_15 : decode cX9_day 15 = .ok (.getfield 112, 3) := by decide +kernel
theorem dX9_day_18 : decode cX9_day 18 = .ok (.iload_n 1, 1) := by decide +kernel
theorem dX9_day_19 : decode cX9_day 19 = .ok (.iadd, 1) := by decide +kernel
theorem dX9_day_20 : decode cX9_day 20 = .ok (.sipush 10000, 3) := by decide +kernel
theorem dX9_day_23 : decode cX9_day 23 = .ok (.if_icmp .le 6, 3) := by decide +kernel
theorem dX9_day_26 : decode cX9_day 26 = .ok (.bipush (-3), 2) := by decide +kernel
theorem dX9_day_28 : decode cX9_day 28 = .ok (.ireturn, 1) := by decide +kernel
theorem dX9_day_29 : decode cX9_day 29 = .ok (.aload_n 0, 1) := by decide +kernel
theorem dX9_day_30 : decode cX9_day 30 = .ok (.getfield 19, 3) := by decide +kernel
theorem dX9_day_33 : decode cX9_day 33 = .ok (.dup, 1) := by decide +kernel
theorem dX9_day_34 : decode cX9_day 34 = .ok (.getfield 112, 3) := by decide +kernel
theorem dX9_day_37 : decode cX9_day 37 = .ok (.iload_n 1, 1) := by decide +kernel
theorem dX9_day_38 : decode cX9_day 38 = .ok (.iadd, 1) := by decide +kernel
theorem dX9_day_39 : decode cX9_day 39 = .ok (.putfield 112, 3) := by decide +kernel
theorem dX9_day_42 : decode cX9_day 42 = .ok (.aload_n 0, 1) := by decide +kernel
theorem dX9_day_43 : decode cX9_day 43 = .ok (.getfield 19, 3) := by decide +kernel
theorem dX9_day_46 : decode cX9_day 46 = .ok (.getfield 112, 3) := by decide +kernel
theorem dX9_day_49 : decode cX9_day 49 = .ok (.ireturn, 1) := by decide +kernel
theorem dX9_recipe_0 : decode cX9_recipe 0 = .ok (.aload_n 0, 1) := by decide +kernel
theorem dX9_recipe_1 : decode cX9_recipe 1 = .ok (.getfield 26, 3) := by decide +kernel
theorem dX9_recipe_4 : decode cX9_recipe 4 = .ok (.invokevirtual 115, 3) := by decide +kernel
theorem dX9_recipe_7 : decode cX9_recipe 7 = .ok (.ireturn, 1) := by decide +kernel
theorem dX9_part_0 : decode cX9_part 0 = .ok (.aload_n 0, 1) := by decide +kernel
theorem dX9_part_1 : decode cX9_part 1 = .ok (.getfield 26, 3) := by decide +kernel
theorem dX9_part_4 : decode cX9_part 4 = .ok (.iload_n 1, 1) := by decide +kernel
theorem dX9_part_5 : decode cX9_part 5 = .ok (.invokevirtual 118, 3) := by decide +kernel
theorem dX9_part_8 : decode cX9_part 8 = .ok (.ifCond .eq 32, 3) := by decide +kernel
theorem dX9_part_11 : decode cX9_part 11 = .ok (.iload_n 2, 1) := by decide +kernel
theorem dX9_part_12 : decode cX9_part 12 = .ok (.ifCond .eq 17, 3) := by decide +kernel
theorem dX9_part_15 : decode cX9_part 15 = .ok (.aload_n 0, 1) := by decide +kernel
theorem dX9_part_16 : decode cX9_part 16 = .ok (.getfield 26, 3) := by decide +kernel
theorem dX9_part_19 : decode cX9_part 19 = .ok (.iload_n 3, 1) := by decide +kernel
theorem dX9_part_20 : decode cX9_part 20 = .ok (.invokevirtual 118, 3) := by decide +kernel
theorem dX9_part_23 : decode cX9_part 23 = .ok (.ifCond .eq 17, 3) := by decide +kernel
theorem dX9_part_26 : decode cX9_part 26 = .ok (.goto 17, 3) := by decide +kernel
theorem dX9_part_29 : decode cX9_part 29 = .ok (.aload_n 0, 1) := by decide +kernel
theorem dX9_part_30 : decode cX9_part 30 = .ok (.getfield 12, 3) := by decide +kernel
theorem dX9_part_33 : decode cX9_part 33 = .ok (.iload_n 3, 1) := by decide +kernel
theorem dX9_part_34 : decode cX9_part 34 = .ok (.invokevirtual 87, 3) := by decide +kernel
theorem dX9_part_37 : decode cX9_part 37 = .ok (.ifCond .ne 6, 3) := by decide +kernel
theorem dX9_part_40 : decode cX9_part 40 = .ok (.bipush (-2), 2) := by decide +kernel
theorem dX9_part_42 : decode cX9_part 42 = .ok (.ireturn, 1) := by decide +kernel
theorem dX9_part_43 : decode cX9_part 43 = .ok (.iload 4, 2) := by decide +kernel
theorem dX9_part_45 : decode cX9_part 45 = .ok (.iconst 1, 1) := by decide +kernel
theorem dX9_part_46 : decode cX9_part 46 = .ok (.bipush 100, 2) := by decide +kernel
theorem dX9_part_48 : decode cX9_part 48 = .ok (.invokestatic 97, 3) := by decide +kernel
theorem dX9_part_51 : decode cX9_part 51 = .ok (.ifCond .eq 12, 3) := by decide +kernel
theorem dX9_part_54 : decode cX9_part 54 = .ok (.iload_n 2, 1) := by decide +kernel
theorem dX9_part_55 : decode cX9_part 55 = .ok (.ifCond .eq 11, 3) := by decide +kernel
theorem dX9_part_58 : decode cX9_part 58 = .ok (.iload_n 3, 1) := by decide +kernel
theorem dX9_part_59 : decode cX9_part 59 = .ok (.iload_n 1, 1) := by decide +kernel
theorem dX9_part_60 : decode cX9_part 60 = .ok (.if_icmp .lt 6, 3) := by decide +kernel
theorem dX9_part_63 : decode cX9_part 63 = .ok (.bipush (-3), 2) := by decide +kernel
theorem dX9_part_65 : decode cX9_part 65 = .ok (.ireturn, 1) := by decide +kernel
theorem dX9_part_66 : decode cX9_part 66 = .ok (.aload_n 0, 1) := by decide +kernel
theorem dX9_part_67 : decode cX9_part 67 = .ok (.getfield 26, 3) := by decide +kernel
theorem dX9_part_70 : decode cX9_part 70 = .ok (.iload_n 1, 1) := by decide +kernel
theorem dX9_part_71 : decode cX9_part 71 = .ok (.iload_n 2, 1) := by decide +kernel
theorem dX9_part_72 : decode cX9_part 72 = .ok (.iload_n 3, 1) := by decide +kernel
theorem dX9_part_73 : decode cX9_part 73 = .ok (.iload 4, 2) := by decide +kernel
theorem dX9_part_75 : decode cX9_part 75 = .ok (.invokevirtual 119, 3) := by decide +kernel
theorem dX9_part_78 : decode cX9_part 78 = .ok (.ireturn, 1) := by decide +kernel
theorem dX9_resolved_0 : decode cX9_resolved 0 = .ok (.aload_n 0, 1) := by decide +kernel
theorem dX9_resolved_1 : decode cX9_resolved 1 = .ok (.getfield 26, 3) := by decide +kernel
theorem dX9_resolved_4 : decode cX9_resolved 4 = .ok (.iload_n 1, 1) := by decide +kernel
theorem dX9_resolved_5 : decode cX9_resolved 5 = .ok (.invokevirtual 118, 3) := by decide +kernel
theorem dX9_resolved_8 : decode cX9_resolved 8 = .ok (.ifCond .eq 14, 3) := by decide +kernel
theorem dX9_resolved_11 : decode cX9_resolved 11 = .ok (.aload_n 0, 1) := by decide +kernel
theorem dX9_resolved_12 : decode cX9_resolved 12 = .ok (.getfield 12, 3) := by decide +kernel
theorem dX9_resolved_15 : decode cX9_resolved 15 = .ok (.iload_n 2, 1) := by decide +kernel
theorem dX9_resolved_16 : decode cX9_resolved 16 = .ok (.invokevirtual 87, 3) := by decide +kernel
theorem dX9_resolved_19 : decode cX9_resolved 19 = .ok (.ifCond .ne 6, 3) := by decide +kernel
theorem dX9_resolved_22 : decode cX9_resolved 22 = .ok (.bipush (-2), 2) := by decide +kernel
theorem dX9_resolved_24 : decode cX9_resolved 24 = .ok (.ireturn, 1) := by decide +kernel
theorem dX9_resolved_25 : decode cX9_resolved 25 = .ok (.aload_n 0, 1) := by decide +kernel
theorem dX9_resolved_26 : decode cX9_resolved 26 = .ok (.getfield 26, 3) := by decide +kernel
theorem dX9_resolved_29 : decode cX9_resolved 29 = .ok (.iload_n 1, 1) := by decide +kernel
theorem dX9_resolved_30 : decode cX9_resolved 30 = .ok (.iload_n 2, 1) := by decide +kernel
theorem dX9_resolved_31 : decode cX9_resolved 31 = .ok (.invokevirtual 123, 3) := by decide +kernel
theorem dX9_resolved_34 : decode cX9_resolved 34 = .ok (.ireturn, 1) := by decide +kernel
theorem dX9_batch_0 : decode cX9_batch 0 = .ok (.aload_n 0, 1) := by decide +kernel
theorem dX9_batch_1 : decode cX9_batch 1 = .ok (.getfield 36, 3) := by decide +kernel
theorem dX9_batch_4 : decode cX9_batch 4 = .ok (.bipush 24, 2) := by decide +kernel
theorem dX9_batch_6 : decode cX9_batch 6 = .ok (.if_icmp .lt 6, 3) := by decide +kernel
theorem dX9_batch_9 : decode cX9_batch 9 = .ok (.bipush (-6), 2) := by decide +kernel
theorem dX9_batch_11 : decode cX9_batch 11 = .ok (.ireturn, 1) := by decide +kernel
theorem dX9_batch_12 : decode cX9_batch 12 = .ok (.aload_n 0, 1) := by decide +kernel
theorem dX9_batch_13 : decode cX9_batch 13 = .ok (.dup, 1) := by decide +kernel
theorem dX9_batch_14 : decode cX9_batch 14 = .ok (.getfield 36, 3) := by decide +kernel
theorem dX9_batch_17 : decode cX9_batch 17 = .ok (.iconst 1, 1) := by decide +kernel
theorem dX9_batch_18 : decode cX9_batch 18 = .ok (.iadd, 1) := by decide +kernel
theorem dX9_batch_19 : decode cX9_batch 19 = .ok (.putfield 36, 3) := by decide +kernel
theorem dX9_batch_22 : decode cX9_batch 22 = .ok (.aload_n 0, 1) := by decide +kernel
theorem dX9_batch_23 : decode cX9_batch 23 = .ok (.getfield 36, 3) := by decide +kernel
theorem dX9_batch_26 : decode cX9_batch 26 = .ok (.iconst 1, 1) := by decide +kernel
theorem dX9_batch_27 : decode cX9_batch 27 = .ok (.isub, 1) := by decide +kernel
theorem dX9_batch_28 : decode cX9_batch 28 = .ok (.ireturn, 1) := by decide +kernel
theorem dX9_weigh_0 : decode cX9_weigh 0 = .ok (.aload_n 0, 1) := by decide +kernel
theorem dX9_weigh_1 : decode cX9_weigh 1 = .ok (.iload_n 1, 1) := by decide +kernel
theorem dX9_weigh_2 : decode cX9_weigh 2 = .ok (.invokevirtual 126, 3) := by decide +kernel
theorem dX9_weigh_5 : decode cX9_weigh 5 = .ok (.ifCond .eq 14, 3) := by decide +kernel
theorem dX9_weigh_8 : decode cX9_weigh 8 = .ok (.aload_n 0, 1) := by decide +kernel
theorem dX9_weigh_9 : decode cX9_weigh 9 = .ok (.getfield 12, 3) := by decide +kernel
theorem dX9_weigh_12 : decode cX9_weigh 12 = .ok (.iload_n 2, 1) := by decide +kernel
theorem dX9_weigh_13 : decode cX9_weigh 13 = .ok (.invokevirtual 87, 3) := by decide +kernel
theorem dX9_weigh_16 : decode cX9_weigh 16 = .ok (.ifCond .ne 6, 3) := by decide +kernel
theorem dX9_weigh_19 : decode cX9_weigh 19 = .ok (.bipush (-2), 2) := by decide +kernel
theorem dX9_weigh_21 : decode cX9_weigh 21 = .ok (.ireturn, 1) := by decide +kernel
theorem dX9_weigh_22 : decode cX9_weigh 22 = .ok (.iload_n 3, 1) := by decide +kernel
theorem dX9_weigh_23 : decode cX9_weigh 23 = .ok (.iconst 1, 1) := by decide +kernel
theorem dX9_weigh_24 : decode cX9_weigh 24 = .ok (.sipush 20000, 3) := by decide +kernel
theorem dX9_weigh_27 : decode cX9_weigh 27 = .ok (.invokestatic 97, 3) := by decide +kernel
theorem dX9_weigh_30 : decode cX9_weigh 30 = .ok (.ifCond .ne 6, 3) := by decide +kernel
theorem dX9_weigh_33 : decode cX9_weigh 33 = .ok (.bipush (-3), 2) := by decide +kernel
theorem dX9_weigh_35 : decode cX9_weigh 35 = .ok (.ireturn, 1) := by decide +kernel
theorem dX9_weigh_36 : decode cX9_weigh 36 = .ok (.aload_n 0, 1) := by decide +kernel
theorem dX9_weigh_37 : decode cX9_weigh 37 = .ok (.getfield 67, 3) := by decide +kernel
theorem dX9_weigh_40 : decode cX9_weigh 40 = .ok (.iconst 0, 1) := by decide +kernel
theorem dX9_weigh_41 : decode cX9_weigh 41 = .ok (.invokestatic 129, 3) := by decide +kernel
theorem dX9_weigh_44 : decode cX9_weigh 44 = .ok (.aload_n 0, 1) := by decide +kernel
theorem dX9_weigh_45 : decode cX9_weigh 45 = .ok (.getfield 67, 3) := by decide +kernel
theorem dX9_weigh_48 : decode cX9_weigh 48 = .ok (.iload_n 2, 1) := by decide +kernel
theorem dX9_weigh_49 : decode cX9_weigh 49 = .ok (.iload_n 3, 1) := by decide +kernel
theorem dX9_weigh_50 : decode cX9_weigh 50 = .ok (.iastore, 1) := by decide +kernel
theorem dX9_weigh_51 : decode cX9_weigh 51 = .ok (.aload_n 0, 1) := by decide +kernel
theorem dX9_weigh_52 : decode cX9_weigh 52 = .ok (.aload_n 0, 1) := by decide +kernel
theorem dX9_weigh_53 : decode cX9_weigh 53 = .ok (.getfield 32, 3) := by decide +kernel
theorem dX9_weigh_56 : decode cX9_weigh 56 = .ok (.iload_n 1, 1) := by decide +kernel
theorem dX9_weigh_57 : decode cX9_weigh 57 = .ok (.aaload, 1) := by decide +kernel
theorem dX9_weigh_58 : decode cX9_weigh 58 = .ok (.invokevirtual 135, 3) := by decide +kernel
theorem dX9_weigh_61 : decode cX9_weigh 61 = .ok (.ireturn, 1) := by decide +kernel
theorem dX9_brew_0 : decode cX9_brew 0 = .ok (.aload_n 0, 1) := by decide +kernel
theorem dX9_brew_1 : decode cX9_brew 1 = .ok (.iload_n 1, 1) := by decide +kernel
theorem dX9_brew_2 : decode cX9_brew 2 = .ok (.invokevirtual 126, 3) := by decide +kernel
theorem dX9_brew_5 : decode cX9_brew 5 = .ok (.ifCond .eq 14, 3) := by decide +kernel
theorem dX9_brew_8 : decode cX9_brew 8 = .ok (.aload_n 0, 1) := by decide +kernel
theorem dX9_brew_9 : decode cX9_brew 9 = .ok (.getfield 26, 3) := by decide +kernel
theorem dX9_brew_12 : decode cX9_brew 12 = .ok (.iload_n 2, 1) := by decide +kernel
theorem dX9_brew_13 : decode cX9_brew 13 = .ok (.invokevirtual 118, 3) := by decide +kernel
theorem dX9_brew_16 : decode cX9_brew 16 = .ok (.ifCond .ne 6, 3) := by decide +kernel
theorem dX9_brew_19 : decode cX9_brew 19 = .ok (.bipush (-2), 2) := by decide +kernel
theorem dX9_brew_21 : decode cX9_brew 21 = .ok (.ireturn, 1) := by decide +kernel
theorem dX9_brew_22 : decode cX9_brew 22 = .ok (.iload_n 3, 1) := by decide +kernel
theorem dX9_brew_23 : decode cX9_brew 23 = .ok (.iconst 1, 1) := by decide +kernel
theorem dX9_brew_24 : decode cX9_brew 24 = .ok (.bipush 100, 2) := by decide +kernel
theorem dX9_brew_26 : decode cX9_brew 26 = .ok (.invokestatic 97, 3) := by decide +kernel
theorem dX9_brew_29 : decode cX9_brew 29 = .ok (.ifCond .ne 6, 3) := by decide +kernel
theorem dX9_brew_32 : decode cX9_brew 32 = .ok (.bipush (-3), 2) := by decide +kernel
theorem dX9_brew_34 : decode cX9_brew 34 = .ok (.ireturn, 1) := by decide +kernel
theorem dX9_brew_35 : decode cX9_brew 35 = .ok (.iconst 0, 1) := by decide +kernel
theorem dX9_brew_36 : decode cX9_brew 36 = .ok (.istore 4, 2) := by decide +kernel
theorem dX9_brew_38 : decode cX9_brew 38 = .ok (.iload 4, 2) := by decide +kernel
theorem dX9_brew_40 : decode cX9_brew 40 = .ok (.bipush 8, 2) := by decide +kernel
theorem dX9_brew_42 : decode cX9_brew 42 = .ok (.if_icmp .ge 28, 3) := by decide +kernel
theorem dX9_brew_45 : decode cX9_brew 45 = .ok (.aload_n 0, 1) := by decide +kernel
theorem dX9_brew_46 : decode cX9_brew 46 = .ok (.getfield 67, 3) := by decide +kernel
theorem dX9_brew_49 : decode cX9_brew 49 = .ok (.iload 4, 2) := by decide +kernel
theorem dX9_brew_51 : decode cX9_brew 51 = .ok (.iload_n 3, 1) := by decide +kernel
theorem dX9_brew_52 : decode cX9_brew 52 = .ok (.aload_n 0, 1) := by decide +kernel
theorem dX9_brew_53 : decode cX9_brew 53 = .ok (.getfield 26, 3) := by decide +kernel
theorem dX9_brew_56 : decode cX9_brew 56 = .ok (.iload_n 2, 1) := by decide +kernel
theorem dX9_brew_57 : decode cX9_brew 57 = .ok (.iload 4, 2) := by decide +kernel
theorem dX9_brew_59 : decode cX9_brew 59 = .ok (.invokevirtual 123, 3) := by decide +kernel
theorem dX9_brew_62 : decode cX9_brew 62 = .ok (.imul, 1) := by decide +kernel
theorem dX9_brew_63 : decode cX9_brew 63 = .ok (.iastore, 1) := by decide +kernel
theorem dX9_brew_64 : decode cX9_brew 64 = .ok (.iinc 4 1, 3) := by decide +kernel
theorem dX9_brew_67 : decode cX9_brew 67 = .ok (.goto (-29), 3) := by decide +kernel
theorem dX9_brew_70 : decode cX9_brew 70 = .ok (.aload_n 0, 1) := by decide +kernel
theorem dX9_brew_71 : decode cX9_brew 71 = .ok (.getfield 67, 3) := by decide +kernel
theorem dX9_brew_74 : decode cX9_brew 74 = .ok (.invokestatic 139, 3) := by decide +kernel
theorem dX9_brew_77 : decode cX9_brew 77 = .ok (.ifCond .ne 8, 3) := by decide +kernel
theorem dX9_brew_80 : decode cX9_brew 80 = .ok (.bipush (-4), 2) := by decide +kernel
theorem dX9_brew_82 : decode cX9_brew 82 = .ok (.goto 13, 3) := by decide +kernel
theorem dX9_brew_85 : decode cX9_brew 85 = .ok (.aload_n 0, 1) := by decide +kernel
theorem dX9_brew_86 : decode cX9_brew 86 = .ok (.aload_n 0, 1) := by decide +kernel
theorem dX9_brew_87 : decode cX9_brew 87 = .ok (.getfield 32, 3) := by decide +kernel
theorem dX9_brew_90 : decode cX9_brew 90 = .ok (.iload_n 1, 1) := by decide +kernel
theorem dX9_brew_91 : decode cX9_brew 91 = .ok (.aaload, 1) := by decide +kernel
theorem dX9_brew_92 : decode cX9_brew 92 = .ok (.invokevirtual 135, 3) := by decide +kernel
theorem dX9_brew_95 : decode cX9_brew 95 = .ok (.ireturn, 1) := by decide +kernel
theorem dX9_drops_0 : decode cX9_drops 0 = .ok (.aload_n 0, 1) := by decide +kernel
theorem dX9_drops_1 : decode cX9_drops 1 = .ok (.iload_n 1, 1) := by decide +kernel
theorem dX9_drops_2 : decode cX9_drops 2 = .ok (.invokevirtual 126, 3) := by decide +kernel
theorem dX9_drops_5 : decode cX9_drops 5 = .ok (.ifCond .ne 6, 3) := by decide +kernel
theorem dX9_drops_8 : decode cX9_drops 8 = .ok (.bipush (-2), 2) := by decide +kernel
theorem dX9_drops_10 : decode cX9_drops 10 = .ok (.ireturn, 1) := by decide +kernel
theorem dX9_drops_11 : decode cX9_drops 11 = .ok (.iload_n 2, 1) := by decide +kernel
theorem dX9_drops_12 : decode cX9_drops 12 = .ok (.iconst 0, 1) := by decide +kernel
theorem dX9_drops_13 : decode cX9_drops 13 = .ok (.bipush 8, 2) := by decide +kernel
theorem dX9_drops_15 : decode cX9_drops 15 = .ok (.invokestatic 97, 3) := by decide +kernel
theorem dX9_drops_18 : decode cX9_drops 18 = .ok (.ifCond .eq 14, 3) := by decide +kernel
theorem dX9_drops_21 : decode cX9_drops 21 = .ok (.iload_n 3, 1) := by decide +kernel
theorem dX9_drops_22 : decode cX9_drops 22 = .ok (.iload 4, 2) := by decide +kernel
theorem dX9_drops_24 : decode cX9_drops 24 = .ok (.iload 5, 2) := by decide +kernel
theorem dX9_drops_26 : decode cX9_drops 26 = .ok (.invokestatic 143, 3) := by decide +kernel
theorem dX9_drops_29 : decode cX9_drops 29 = .ok (.ifCond .ne 6, 3) := by decide +kernel
theorem dX9_drops_32 : decode cX9_drops 32 = .ok (.bipush (-3), 2) := by decide +kernel
theorem dX9_drops_34 : decode cX9_drops 34 = .ok (.ireturn, 1) := by decide +kernel
theorem dX9_drops_35 : decode cX9_drops 35 = .ok (.aload_n 0, 1) := by decide +kernel
theorem dX9_drops_36 : decode cX9_drops 36 = .ok (.getfield 32, 3) := by decide +kernel
theorem dX9_drops_39 : decode cX9_drops 39 = .ok (.iload_n 1, 1) := by decide +kernel
theorem dX9_drops_40 : decode cX9_drops 40 = .ok (.aaload, 1) := by decide +kernel
theorem dX9_drops_41 : decode cX9_drops 41 = .ok (.astore 6, 2) := by decide +kernel
theorem dX9_drops_43 : decode cX9_drops 43 = .ok (.aload 6, 2) := by decide +kernel
theorem dX9_drops_45 : decode cX9_drops 45 = .ok (.getfield 146, 3) := by decide +kernel
theorem dX9_drops_48 : decode cX9_drops 48 = .ok (.ifCond .ne 14, 3) := by decide +kernel
theorem dX9_drops_51 : decode cX9_drops 51 = .ok (.aload 6, 2) := by decide +kernel
theorem dX9_drops_53 : decode cX9_drops 53 = .ok (.getfield 150, 3) := by decide +kernel
theorem dX9_drops_56 : decode cX9_drops 56 = .ok (.getfield 154, 3) := by decide +kernel
theorem dX9_drops_59 : decode cX9_drops 59 = .ok (.ifCond .ne 6, 3) := by decide +kernel
theorem dX9_drops_62 : decode cX9_drops 62 = .ok (.bipush (-4), 2) := by decide +kernel
theorem dX9_drops_64 : decode cX9_drops 64 = .ok (.ireturn, 1) := by decide +kernel
theorem dX9_drops_65 : decode cX9_drops 65 = .ok (.aload_n 0, 1) := by decide +kernel
theorem dX9_drops_66 : decode cX9_drops 66 = .ok (.getfield 43, 3) := by decide +kernel
theorem dX9_drops_69 : decode cX9_drops 69 = .ok (.iload_n 3, 1) := by decide +kernel
theorem dX9_drops_70 : decode cX9_drops 70 = .ok (.iload 4, 2) := by decide +kernel
theorem dX9_drops_72 : decode cX9_drops 72 = .ok (.iload 5, 2) := by decide +kernel
theorem dX9_drops_74 : decode cX9_drops 74 = .ok (.invokevirtual 159, 3) := by decide +kernel
theorem dX9_drops_77 : decode cX9_drops 77 = .ok (.aload_n 0, 1) := by decide +kernel
theorem dX9_drops_78 : decode cX9_drops 78 = .ok (.getfield 43, 3) := by decide +kernel
theorem dX9_drops_81 : decode cX9_drops 81 = .ok (.aload 6, 2) := by decide +kernel
theorem dX9_drops_83 : decode cX9_drops 83 = .ok (.getfield 150, 3) := by decide +kernel
theorem dX9_drops_86 : decode cX9_drops 86 = .ok (.iload_n 2, 1) := by decide +kernel
theorem dX9_drops_87 : decode cX9_drops 87 = .ok (.aload_n 0, 1) := by decide +kernel
theorem dX9_drops_88 : decode cX9_drops 88 = .ok (.getfield 12, 3) := by decide +kernel
theorem dX9_drops_91 : decode cX9_drops 91 = .ok (.aload_n 0, 1) := by decide +kernel
theorem dX9_drops_92 : decode cX9_drops 92 = .ok (.getfield 19, 3) := by decide +kernel
theorem dX9_drops_95 : decode cX9_drops 95 = .ok (.invokevirtual 163, 3) := by decide +kernel
theorem dX9_drops_98 : decode cX9_drops 98 = .ok (.aload_n 0, 1) := by decide +kernel
theorem dX9_drops_99 : decode cX9_drops 99 = .ok (.getfield 43, 3) := by decide +kernel
theorem dX9_drops_102 : decode cX9_drops 102 = .ok (.aload_n 0, 1) := by decide +kernel
theorem dX9_drops_103 : decode cX9_drops 103 = .ok (.getfield 12, 3) := by decide +kernel
theorem dX9_drops_106 : decode cX9_drops 106 = .ok (.invokevirtual 167, 3) := by decide +kernel
theorem dX9_drops_109 : decode cX9_drops 109 = .ok (.ireturn, 1) := by decide +kernel
theorem dX9_drop_0 : decode cX9_drop 0 = .ok (.aload_n 0, 1) := by decide +kernel
theorem dX9_drop_1 : decode cX9_drop 1 = .ok (.getfield 12, 3) := by decide +kernel
theorem dX9_drop_4 : decode cX9_drop 4 = .ok (.iload_n 1, 1) := by decide +kernel
theorem dX9_drop_5 : decode cX9_drop 5 = .ok (.invokevirtual 87, 3) := by decide +kernel
theorem dX9_drop_8 : decode cX9_drop 8 = .ok (.ifCond .eq 15, 3) := by decide +kernel
theorem dX9_drop_11 : decode cX9_drop 11 = .ok (.aload_n 0, 1) := by decide +kernel
theorem dX9_drop_12 : decode cX9_drop 12 = .ok (.getfield 43, 3) := by decide +kernel
theorem dX9_drop_15 : decode cX9_drop 15 = .ok (.getfield 171, 3) := by decide +kernel
theorem dX9_drop_18 : decode cX9_drop 18 = .ok (.iload_n 1, 1) := by decide +kernel
theorem dX9_drop_19 : decode cX9_drop 19 = .ok (.iaload, 1) := by decide +kernel
theorem dX9_drop_20 : decode cX9_drop 20 = .ok (.goto 5, 3) := by decide +kernel
theorem dX9_drop_23 : decode cX9_drop 23 = .ok (.bipush (-2), 2) := by decide +kernel
theorem dX9_drop_25 : decode cX9_drop 25 = .ok (.ireturn, 1) := by decide +kernel
theorem dX9_dropIn_0 : decode cX9_dropIn 0 = .ok (.aload_n 0, 1) := by decide +kernel
theorem dX9_dropIn_1 : decode cX9_dropIn 1 = .ok (.iload_n 1, 1) := by decide +kernel
theorem dX9_dropIn_2 : decode cX9_dropIn 2 = .ok (.invokevirtual 126, 3) := by decide +kernel
theorem dX9_dropIn_5 : decode cX9_dropIn 5 = .ok (.ifCond .ne 6, 3) := by decide +kernel
theorem dX9_dropIn_8 : decode cX9_dropIn 8 = .ok (.bipush (-2), 2) := by decide +kernel
theorem dX9_dropIn_10 : decode cX9_dropIn 10 = .ok (.ireturn, 1) := by decide +kernel
theorem dX9_dropIn_11 : decode cX9_dropIn 11 = .ok (.aload_n 0, 1) := by decide +kernel
theorem dX9_dropIn_12 : decode cX9_dropIn 12 = .ok (.getfield 43, 3) := by decide +kernel
theorem dX9_dropIn_15 : decode cX9_dropIn 15 = .ok (.getfield 174, 3) := by decide +kernel
theorem dX9_dropIn_18 : decode cX9_dropIn 18 = .ok (.ifCond .ne 6, 3) := by decide +kernel
theorem dX9_dropIn_21 : decode cX9_dropIn 21 = .ok (.bipush (-4), 2) := by decide +kernel
theorem dX9_dropIn_23 : decode cX9_dropIn 23 = .ok (.ireturn, 1) := by decide +kernel
theorem dX9_dropIn_24 : decode cX9_dropIn 24 = .ok (.aload_n 0, 1) := by decide +kernel
theorem dX9_dropIn_25 : decode cX9_dropIn 25 = .ok (.getfield 43, 3) := by decide +kernel
theorem dX9_dropIn_28 : decode cX9_dropIn 28 = .ok (.getfield 171, 3) := by decide +kernel
theorem dX9_dropIn_31 : decode cX9_dropIn 31 = .ok (.iconst 0, 1) := by decide +kernel
theorem dX9_dropIn_32 : decode cX9_dropIn 32 = .ok (.aload_n 0, 1) := by decide +kernel
theorem dX9_dropIn_33 : decode cX9_dropIn 33 = .ok (.getfield 67, 3) := by decide +kernel
theorem dX9_dropIn_36 : decode cX9_dropIn 36 = .ok (.iconst 0, 1) := by decide +kernel
theorem dX9_dropIn_37 : decode cX9_dropIn 37 = .ok (.bipush 8, 2) := by decide +kernel
theorem dX9_dropIn_39 : decode cX9_dropIn 39 = .ok (.invokestatic 177, 3) := by decide +kernel
theorem dX9_dropIn_42 : decode cX9_dropIn 42 = .ok (.aload_n 0, 1) := by decide +kernel
theorem dX9_dropIn_43 : decode cX9_dropIn 43 = .ok (.aload_n 0, 1) := by decide +kernel
theorem dX9_dropIn_44 : decode cX9_dropIn 44 = .ok (.getfield 32, 3) := by decide +kernel
theorem dX9_dropIn_47 : decode cX9_dropIn 47 = .ok (.iload_n 1, 1) := by decide +kernel
theorem dX9_dropIn_48 : decode cX9_dropIn 48 = .ok (.aaload, 1) := by decide +kernel
theorem dX9_dropIn_49 : decode cX9_dropIn 49 = .ok (.invokevirtual 135, 3) := by decide +kernel
theorem dX9_dropIn_52 : decode cX9_dropIn 52 = .ok (.ireturn, 1) := by decide +kernel
theorem dX9_amount_0 : decode cX9_amount 0 = .ok (.aload_n 0, 1) := by decide +kernel
theorem dX9_amount_1 : decode cX9_amount 1 = .ok (.iload_n 1, 1) := by decide +kernel
theorem dX9_amount_2 : decode cX9_amount 2 = .ok (.invokevirtual 126, 3) := by decide +kernel
theorem dX9_amount_5 : decode cX9_amount 5 = .ok (.ifCond .eq 14, 3) := by decide +kernel
theorem dX9_amount_8 : decode cX9_amount 8 = .ok (.aload_n 0, 1) := by decide +kernel
theorem dX9_amount_9 : decode cX9_amount 9 = .ok (.getfield 12, 3) := by decide +kernel
theorem dX9_amount_12 : decode cX9_amount 12 = .ok (.iload_n 2, 1) := by decide +kernel
theorem dX9_amount_13 : decode cX9_amount 13 = .ok (.invokevirtual 87, 3) := by decide +kernel
theorem dX9_amount_16 : decode cX9_amount 16 = .ok (.ifCond .ne 6, 3) := by decide +kernel
theorem dX9_amount_19 : decode cX9_amount 19 = .ok (.bipush (-2), 2) := by decide +kernel
theorem dX9_amount_21 : decode cX9_amount 21 = .ok (.ireturn, 1) := by decide +kernel
theorem dX9_amount_22 : decode cX9_amount 22 = .ok (.aload_n 0, 1) := by decide +kernel
theorem dX9_amount_23 : decode cX9_amount 23 = .ok (.getfield 32, 3) := by decide +kernel
theorem dX9_amount_26 : decode cX9_amount 26 = .ok (.iload_n 1, 1) := by decide +kernel
theorem dX9_amount_27 : decode cX9_amount 27 = .ok (.aaload, 1) := by decide +kernel
theorem dX9_amount_28 : decode cX9_amount 28 = .ok (.getfield 150, 3) := by decide +kernel
theorem dX9_amount_31 : decode cX9_amount 31 = .ok (.getfield 183, 3) := by decide +kernel
theorem dX9_amount_34 : decode cX9_amount 34 = .ok (.iload_n 2, 1) := by decide +kernel
theorem dX9_amount_35 : decode cX9_amount 35 = .ok (.iaload, 1) := by decide +kernel
theorem dX9_amount_36 : decode cX9_amount 36 = .ok (.ireturn, 1) := by decide +kernel
theorem dX9_shade_0 : decode cX9_shade 0 = .ok (.aload_n 0, 1) := by decide +kernel
theorem dX9_shade_1 : decode cX9_shade 1 = .ok (.iload_n 1, 1) := by decide +kernel
theorem dX9_shade_2 : decode cX9_shade 2 = .ok (.invokevirtual 126, 3) := by decide +kernel
theorem dX9_shade_5 : decode cX9_shade 5 = .ok (.ifCond .eq 10, 3) := by decide +kernel
theorem dX9_shade_8 : decode cX9_shade 8 = .ok (.iload_n 2, 1) := by decide +kernel
theorem dX9_shade_9 : decode cX9_shade 9 = .ok (.invokestatic 90, 3) := by decide +kernel
theorem dX9_shade_12 : decode cX9_shade 12 = .ok (.ifCond .ne 6, 3) := by decide +kernel
theorem dX9_shade_15 : decode cX9_shade 15 = .ok (.bipush (-2), 2) := by decide +kernel
theorem dX9_shade_17 : decode cX9_shade 17 = .ok (.ireturn, 1) := by decide +kernel
theorem dX9_shade_18 : decode cX9_shade 18 = .ok (.aload_n 0, 1) := by decide +kernel
theorem dX9_shade_19 : decode cX9_shade 19 = .ok (.getfield 32, 3) := by decide +kernel
theorem dX9_shade_22 : decode cX9_shade 22 = .ok (.iload_n 1, 1) := by decide +kernel
theorem dX9_shade_23 : decode cX9_shade 23 = .ok (.aaload, 1) := by decide +kernel
theorem dX9_shade_24 : decode cX9_shade 24 = .ok (.getfield 150, 3) := by decide +kernel
theorem dX9_shade_27 : decode cX9_shade 27 = .ok (.astore_n 3, 1) := by decide +kernel
theorem dX9_shade_28 : decode cX9_shade 28 = .ok (.aload_n 3, 1) := by decide +kernel
theorem dX9_shade_29 : decode cX9_shade 29 = .ok (.getfield 154, 3) := by decide +kernel
theorem dX9_shade_32 : decode cX9_shade 32 = .ok (.ifCond .ne 8, 3) := by decide +kernel
theorem dX9_shade_35 : decode cX9_shade 35 = .ok (.bipush (-4), 2) := by decide +kernel
theorem dX9_shade_37 : decode cX9_shade 37 = .ok (.goto 12, 3) := by decide +kernel
theorem dX9_shade_40 : decode cX9_shade 40 = .ok (.aload_n 0, 1) := by decide +kernel
theorem dX9_shade_41 : decode cX9_shade 41 = .ok (.getfield 12, 3) := by decide +kernel
theorem dX9_shade_44 : decode cX9_shade 44 = .ok (.aload_n 3, 1) := by decide +kernel
theorem dX9_shade_45 : decode cX9_shade 45 = .ok (.iload_n 2, 1) := by decide +kernel
theorem dX9_shade_46 : decode cX9_shade 46 = .ok (.invokevirtual 186, 3) := by decide +kernel
theorem dX9_shade_49 : decode cX9_shade 49 = .ok (.ireturn, 1) := by decide +kernel
theorem dX9_miss_0 : decode cX9_miss 0 = .ok (.aload_n 0, 1) := by decide +kernel
theorem dX9_miss_1 : decode cX9_miss 1 = .ok (.iload_n 1, 1) := by decide +kernel
theorem dX9_miss_2 : decode cX9_miss 2 = .ok (.invokevirtual 126, 3) := by decide +kernel
theorem dX9_miss_5 : decode cX9_miss 5 = .ok (.ifCond .ne 6, 3) := by decide +kernel
theorem dX9_miss_8 : decode cX9_miss 8 = .ok (.bipush (-2), 2) := by decide +kernel
theorem dX9_miss_10 : decode cX9_miss 10 = .ok (.ireturn, 1) := by decide +kernel
theorem dX9_miss_11 : decode cX9_miss 11 = .ok (.iload_n 2, 1) := by decide +kernel
theorem dX9_miss_12 : decode cX9_miss 12 = .ok (.iload_n 3, 1) := by decide +kernel
theorem dX9_miss_13 : decode cX9_miss 13 = .ok (.iload 4, 2) := by decide +kernel
theorem dX9_miss_15 : decode cX9_miss 15 = .ok (.invokestatic 143, 3) := by decide +kernel
theorem dX9_miss_18 : decode cX9_miss 18 = .ok (.ifCond .ne 6, 3) := by decide +kernel
theorem dX9_miss_21 : decode cX9_miss 21 = .ok (.bipush (-3), 2) := by decide +kernel
theorem dX9_miss_23 : decode cX9_miss 23 = .ok (.ireturn, 1) := by decide +kernel
theorem dX9_miss_24 : decode cX9_miss 24 = .ok (.aload_n 0, 1) := by decide +kernel
theorem dX9_miss_25 : decode cX9_miss 25 = .ok (.getfield 32, 3) := by decide +kernel
theorem dX9_miss_28 : decode cX9_miss 28 = .ok (.iload_n 1, 1) := by decide +kernel
theorem dX9_miss_29 : decode cX9_miss 29 = .ok (.aaload, 1) := by decide +kernel
theorem dX9_miss_30 : decode cX9_miss 30 = .ok (.getfield 150, 3) := by decide +kernel
theorem dX9_miss_33 : decode cX9_miss 33 = .ok (.astore 5, 2) := by decide +kernel
theorem dX9_miss_35 : decode cX9_miss 35 = .ok (.aload 5, 2) := by decide +kernel
theorem dX9_miss_37 : decode cX9_miss 37 = .ok (.getfield 154, 3) := by decide +kernel
theorem dX9_miss_40 : decode cX9_miss 40 = .ok (.ifCond .ne 6, 3) := by decide +kernel
theorem dX9_miss_43 : decode cX9_miss 43 = .ok (.bipush (-4), 2) := by decide +kernel
theorem dX9_miss_45 : decode cX9_miss 45 = .ok (.ireturn, 1) := by decide +kernel
theorem dX9_miss_46 : decode cX9_miss 46 = .ok (.aload_n 0, 1) := by decide +kernel
theorem dX9_miss_47 : decode cX9_miss 47 = .ok (.getfield 12, 3) := by decide +kernel
theorem dX9_miss_50 : decode cX9_miss 50 = .ok (.aload 5, 2) := by decide +kernel
theorem dX9_miss_52 : decode cX9_miss 52 = .ok (.iconst 0, 1) := by decide +kernel
theorem dX9_miss_53 : decode cX9_miss 53 = .ok (.invokevirtual 186, 3) := by decide +kernel
theorem dX9_miss_56 : decode cX9_miss 56 = .ok (.iload_n 2, 1) := by decide +kernel
theorem dX9_miss_57 : decode cX9_miss 57 = .ok (.isub, 1) := by decide +kernel
theorem dX9_miss_58 : decode cX9_miss 58 = .ok (.invokestatic 190, 3) := by decide +kernel
theorem dX9_miss_61 : decode cX9_miss 61 = .ok (.istore 6, 2) := by decide +kernel
theorem dX9_miss_63 : decode cX9_miss 63 = .ok (.iload 6, 2) := by decide +kernel
theorem dX9_miss_65 : decode cX9_miss 65 = .ok (.aload_n 0, 1) := by decide +kernel
theorem dX9_miss_66 : decode cX9_miss 66 = .ok (.getfield 12, 3) := by decide +kernel
theorem dX9_miss_69 : decode cX9_miss 69 = .ok (.aload 5, 2) := by decide +kernel
theorem dX9_miss_71 : decode cX9_miss 71 = .ok (.iconst 1, 1) := by decide +kernel
theorem dX9_miss_72 : decode cX9_miss 72 = .ok (.invokevirtual 186, 3) := by decide +kernel
theorem dX9_miss_75 : decode cX9_miss 75 = .ok (.iload_n 3, 1) := by decide +kernel
theorem dX9_miss_76 : decode cX9_miss 76 = .ok (.isub, 1) := by decide +kernel
theorem dX9_miss_77 : decode cX9_miss 77 = .ok (.invokestatic 190, 3) := by decide +kernel
theorem dX9_miss_80 : decode cX9_miss 80 = .ok (.invokestatic 195, 3) := by decide +kernel
theorem dX9_miss_83 : decode cX9_miss 83 = .ok (.istore 6, 2) := by decide +kernel
theorem dX9_miss_85 : decode cX9_miss 85 = .ok (.iload 6, 2) := by decide +kernel
theorem dX9_miss_87 : decode cX9_miss 87 = .ok (.aload_n 0, 1) := by decide +kernel
theorem dX9_miss_88 : decode cX9_miss 88 = .ok (.getfield 12, 3) := by decide +kernel
theorem dX9_miss_91 : decode cX9_miss 91 = .ok (.aload 5, 2) := by decide +kernel
theorem dX9_miss_93 : decode cX9_miss 93 = .ok (.iconst 2, 1) := by decide +kernel
theorem dX9_miss_94 : decode cX9_miss 94 = .ok (.invokevirtual 186, 3) := by decide +kernel
theorem dX9_miss_97 : decode cX9_miss 97 = .ok (.iload 4, 2) := by decide +kernel
theorem dX9_miss_99 : decode cX9_miss 99 = .ok (.isub, 1) := by decide +kernel
theorem dX9_miss_100 : decode cX9_miss 100 = .ok (.invokestatic 190, 3) := by decide +kernel
theorem dX9_miss_103 : decode cX9_miss 103 = .ok (.invokestatic 195, 3) := by decide +kernel
theorem dX9_miss_106 : decode cX9_miss 106 = .ok (.ireturn, 1) := by decide +kernel
theorem dX9_holds_0 : decode cX9_holds 0 = .ok (.iload_n 1, 1) := by decide +kernel
theorem dX9_holds_1 : decode cX9_holds 1 = .ok (.invokestatic 198, 3) := by decide +kernel
theorem dX9_holds_4 : decode cX9_holds 4 = .ok (.ifCond .ne 6, 3) := by decide +kernel
theorem dX9_holds_7 : decode cX9_holds 7 = .ok (.bipush (-2), 2) := by decide +kernel
theorem dX9_holds_9 : decode cX9_holds 9 = .ok (.ireturn, 1) := by decide +kernel
theorem dX9_holds_10 : decode cX9_holds 10 = .ok (.iload_n 2, 1) := by decide +kernel
theorem dX9_holds_11 : decode cX9_holds 11 = .ok (.iconst 1, 1) := by decide +kernel
theorem dX9_holds_12 : decode cX9_holds 12 = .ok (.ldc 201, 2) := by decide +kernel
theorem dX9_holds_14 : decode cX9_holds 14 = .ok (.invokestatic 97, 3) := by decide +kernel
theorem dX9_holds_17 : decode cX9_holds 17 = .ok (.ifCond .ne 6, 3) := by decide +kernel
theorem dX9_holds_20 : decode cX9_holds 20 = .ok (.bipush (-3), 2) := by decide +kernel
theorem dX9_holds_22 : decode cX9_holds 22 = .ok (.ireturn, 1) := by decide +kernel
theorem dX9_holds_23 : decode cX9_holds 23 = .ok (.aload_n 0, 1) := by decide +kernel
theorem dX9_holds_24 : decode cX9_holds 24 = .ok (.getfield 49, 3) := by decide +kernel
theorem dX9_holds_27 : decode cX9_holds 27 = .ok (.iload_n 1, 1) := by decide +kernel
theorem dX9_holds_28 : decode cX9_holds 28 = .ok (.aaload, 1) := by decide +kernel
theorem dX9_holds_29 : decode cX9_holds 29 = .ok (.astore_n 3, 1) := by decide +kernel
theorem dX9_holds_30 : decode cX9_holds 30 = .ok (.aload_n 3, 1) := by decide +kernel
theorem dX9_holds_31 : decode cX9_holds 31 = .ok (.getfield 202, 3) := by decide +kernel
theorem dX9_holds_34 : decode cX9_holds 34 = .ok (.iload_n 2, 1) := by decide +kernel
theorem dX9_holds_35 : decode cX9_holds 35 = .ok (.if_icmp .le 6, 3) := by decide +kernel
theorem dX9_holds_38 : decode cX9_holds 38 = .ok (.bipush (-4), 2) := by decide +kernel
theorem dX9_holds_40 : decode cX9_holds 40 = .ok (.ireturn, 1) := by decide +kernel
theorem dX9_holds_41 : decode cX9_holds 41 = .ok (.aload_n 3, 1) := by decide +kernel
theorem dX9_holds_42 : decode cX9_holds 42 = .ok (.getfield 205, 3) := by decide +kernel
theorem dX9_holds_45 : decode cX9_holds 45 = .ok (.istore 4, 2) := by decide +kernel
theorem dX9_holds_47 : decode cX9_holds 47 = .ok (.aload_n 3, 1) := by decide +kernel
theorem dX9_holds_48 : decode cX9_holds 48 = .ok (.iload_n 2, 1) := by decide +kernel
theorem dX9_holds_49 : decode cX9_holds 49 = .ok (.putfield 205, 3) := by decide +kernel
theorem dX9_holds_52 : decode cX9_holds 52 = .ok (.iload 4, 2) := by decide +kernel
theorem dX9_holds_54 : decode cX9_holds 54 = .ok (.ireturn, 1) := by decide +kernel
theorem dX9_limit_0 : decode cX9_limit 0 = .ok (.iload_n 1, 1) := by decide +kernel
theorem dX9_limit_1 : decode cX9_limit 1 = .ok (.iconst 0, 1) := by decide +kernel
theorem dX9_limit_2 : decode cX9_limit 2 = .ok (.ldc 208, 2) := by decide +kernel
theorem dX9_limit_4 : decode cX9_limit 4 = .ok (.invokestatic 97, 3) := by decide +kernel
theorem dX9_limit_7 : decode cX9_limit 7 = .ok (.ifCond .ne 6, 3) := by decide +kernel
theorem dX9_limit_10 : decode cX9_limit 10 = .ok (.bipush (-3), 2) := by decide +kernel
theorem dX9_limit_12 : decode cX9_limit 12 = .ok (.ireturn, 1) := by decide +kernel
theorem dX9_limit_13 : decode cX9_limit 13 = .ok (.aload_n 0, 1) := by decide +kernel
theorem dX9_limit_14 : decode cX9_limit 14 = .ok (.getfield 71, 3) := by decide +kernel
theorem dX9_limit_17 : decode cX9_limit 17 = .ok (.istore_n 2, 1) := by decide +kernel
theorem dX9_limit_18 : decode cX9_limit 18 = .ok (.aload_n 0, 1) := by decide +kernel
theorem dX9_limit_19 : decode cX9_limit 19 = .ok (.iload_n 1, 1) := by decide +kernel
theorem dX9_limit_20 : decode cX9_limit 20 = .ok (.putfield 71, 3) := by decide +kernel
theorem dX9_limit_23 : decode cX9_limit 23 = .ok (.iload_n 2, 1) := by decide +kernel
theorem dX9_limit_24 : decode cX9_limit 24 = .ok (.ireturn, 1) := by decide +kernel
theorem dX9_pour_0 : decode cX9_pour 0 = .ok (.aload_n 0, 1) := by decide +kernel
theorem dX9_pour_1 : decode cX9_pour 1 = .ok (.iload_n 1, 1) := by decide +kernel
theorem dX9_pour_2 : decode cX9_pour 2 = .ok (.invokevirtual 126, 3) := by decide +kernel
theorem dX9_pour_5 : decode cX9_pour 5 = .ok (.ifCond .eq 10, 3) := by decide +kernel
theorem dX9_pour_8 : decode cX9_pour 8 = .ok (.iload_n 2, 1) := by decide +kernel
theorem dX9_pour_9 : decode cX9_pour 9 = .ok (.invokestatic 198, 3) := by decide +kernel
theorem dX9_pour_12 : decode cX9_pour 12 = .ok (.ifCond .ne 6, 3) := by decide +kernel
theorem dX9_pour_15 : decode cX9_pour 15 = .ok (.bipush (-2), 2) := by decide +kernel
theorem dX9_pour_17 : decode cX9_pour 17 = .ok (.ireturn, 1) := by decide +kernel
theorem dX9_pour_18 : decode cX9_pour 18 = .ok (.aload_n 0, 1) := by decide +kernel
theorem dX9_pour_19 : decode cX9_pour 19 = .ok (.getfield 32, 3) := by decide +kernel
theorem dX9_pour_22 : decode cX9_pour 22 = .ok (.iload_n 1, 1) := by decide +kernel
theorem dX9_pour_23 : decode cX9_pour 23 = .ok (.aaload, 1) := by decide +kernel
theorem dX9_pour_24 : decode cX9_pour 24 = .ok (.astore_n 3, 1) := by decide +kernel
theorem dX9_pour_25 : decode cX9_pour 25 = .ok (.aload_n 0, 1) := by decide +kernel
theorem dX9_pour_26 : decode cX9_pour 26 = .ok (.getfield 49, 3) := by decide +kernel
theorem dX9_pour_29 : decode cX9_pour 29 = .ok (.iload_n 2, 1) := by decide +kernel
theorem dX9_pour_30 : decode cX9_pour 30 = .ok (.aaload, 1) := by decide +kernel
theorem dX9_pour_31 : decode cX9_pour 31 = .ok (.astore 4, 2) := by decide +kernel
theorem dX9_pour_33 : decode cX9_pour 33 = .ok (.aload_n 3, 1) := by decide +kernel
theorem dX9_pour_34 : decode cX9_pour 34 = .ok (.getfield 146, 3) := by decide +kernel
theorem dX9_pour_37 : decode cX9_pour 37 = .ok (.ifCond .ne 33, 3) := by decide +kernel
theorem dX9_pour_40 : decode cX9_pour 40 = .ok (.aload_n 3, 1) := by decide +kernel
theorem dX9_pour_41 : decode cX9_pour 41 = .ok (.getfield 150, 3) := by decide +kernel
theorem dX9_pour_44 : decode cX9_pour 44 = .ok (.getfield 154, 3) := by decide +kernel
theorem dX9_pour_47 : decode cX9_pour 47 = .ok (.ifCond .eq 23, 3) := by decide +kernel
theorem dX9_pour_50 : decode cX9_pour 50 = .ok (.aload 4, 2) := by decide +kernel
theorem dX9_pour_52 : decode cX9_pour 52 = .ok (.aload_n 3, 1) := by decide +kernel
theorem dX9_pour_53 : decode cX9_pour 53 = .ok (.getfield 150, 3) := by decide +kernel
theorem dX9_pour_56 : decode cX9_pour 56 = .ok (.aload_n 0, 1) := by decide +kernel
theorem dX9_pour_57 : decode cX9_pour 57 = .ok (.getfield 12, 3) := by decide +kernel
theorem dX9_pour_60 : decode cX9_pour 60 = .ok (.aload_n 0, 1) := by decide +kernel
theorem dX9_pour_61 : decode cX9_pour 61 = .ok (.getfield 71, 3) := by decide +kernel
theorem dX9_pour_64 : decode cX9_pour 64 = .ok (.invokevirtual 209, 3) := by decide +kernel
theorem dX9_pour_67 : decode cX9_pour 67 = .ok (.ifCond .ne 6, 3) := by decide +kernel
theorem dX9_pour_70 : decode cX9_pour 70 = .ok (.bipush (-4), 2) := by decide +kernel
theorem dX9_pour_72 : decode cX9_pour 72 = .ok (.ireturn, 1) := by decide +kernel
theorem dX9_pour_73 : decode cX9_pour 73 = .ok (.aload 4, 2) := by decide +kernel
theorem dX9_pour_75 : decode cX9_pour 75 = .ok (.getfield 202, 3) := by decide +kernel
theorem dX9_pour_78 : decode cX9_pour 78 = .ok (.aload_n 3, 1) := by decide +kernel
theorem dX9_pour_79 : decode cX9_pour 79 = .ok (.getfield 150, 3) := by decide +kernel
theorem dX9_pour_82 : decode cX9_pour 82 = .ok (.getfield 154, 3) := by decide +kernel
theorem dX9_pour_85 : decode cX9_pour 85 = .ok (.iadd, 1) := by decide +kernel
theorem dX9_pour_86 : decode cX9_pour 86 = .ok (.aload 4, 2) := by decide +kernel
theorem dX9_pour_88 : decode cX9_pour 88 = .ok (.getfield 205, 3) := by decide +kernel
theorem dX9_pour_91 : decode cX9_pour 91 = .ok (.if_icmp .le 6, 3) := by decide +kernel
theorem dX9_pour_94 : decode cX9_pour 94 = .ok (.bipush (-6), 2) := by decide +kernel
theorem dX9_pour_96 : decode cX9_pour 96 = .ok (.ireturn, 1) := by decide +kernel
theorem dX9_pour_97 : decode cX9_pour 97 = .ok (.aload 4, 2) := by decide +kernel
theorem dX9_pour_99 : decode cX9_pour 99 = .ok (.aload_n 3, 1) := by decide +kernel
theorem dX9_pour_100 : decode cX9_pour 100 = .ok (.getfield 150, 3) := by decide +kernel
theorem dX9_pour_103 : decode cX9_pour 103 = .ok (.iload_n 1, 1) := by decide +kernel
theorem dX9_pour_104 : decode cX9_pour 104 = .ok (.invokevirtual 213, 3) := by decide +kernel
theorem dX9_pour_107 : decode cX9_pour 107 = .ok (.aload_n 3, 1) := by decide +kernel
theorem dX9_pour_108 : decode cX9_pour 108 = .ok (.iconst 1, 1) := by decide +kernel
theorem dX9_pour_109 : decode cX9_pour 109 = .ok (.putfield 146, 3) := by decide +kernel
theorem dX9_pour_112 : decode cX9_pour 112 = .ok (.aload 4, 2) := by decide +kernel
theorem dX9_pour_114 : decode cX9_pour 114 = .ok (.getfield 202, 3) := by decide +kernel
theorem dX9_pour_117 : decode cX9_pour 117 = .ok (.ireturn, 1) := by decide +kernel
theorem dX9_clean_0 : decode cX9_clean 0 = .ok (.iload_n 1, 1) := by decide +kernel
theorem dX9_clean_1 : decode cX9_clean 1 = .ok (.invokestatic 198, 3) := by decide +kernel
theorem dX9_clean_4 : decode cX9_clean 4 = .ok (.ifCond .ne 6, 3) := by decide +kernel
theorem dX9_clean_7 : decode cX9_clean 7 = .ok (.bipush (-2), 2) := by decide +kernel
theorem dX9_clean_9 : decode cX9_clean 9 = .ok (.ireturn, 1) := by decide +kernel
theorem dX9_clean_10 : decode cX9_clean 10 = .ok (.aload_n 0, 1) := by decide +kernel
theorem dX9_clean_11 : decode cX9_clean 11 = .ok (.getfield 49, 3) := by decide +kernel
theorem dX9_clean_14 : decode cX9_clean 14 = .ok (.iload_n 1, 1) := by decide +kernel
theorem dX9_clean_15 : decode cX9_clean 15 = .ok (.aaload, 1) := by decide +kernel
theorem dX9_clean_16 : decode cX9_clean 16 = .ok (.astore_n 2, 1) := by decide +kernel
theorem dX9_clean_17 : decode cX9_clean 17 = .ok (.aload_n 2, 1) := by decide +kernel
theorem dX9_clean_18 : decode cX9_clean 18 = .ok (.getfield 202, 3) := by decide +kernel
theorem dX9_clean_21 : decode cX9_clean 21 = .ok (.ifCond .le 6, 3) := by decide +kernel
theorem dX9_clean_24 : decode cX9_clean 24 = .ok (.bipush (-4), 2) := by decide +kernel
theorem dX9_clean_26 : decode cX9_clean 26 = .ok (.ireturn, 1) := by decide +kernel
theorem dX9_clean_27 : decode cX9_clean 27 = .ok (.aload_n 2, 1) := by decide +kernel
theorem dX9_clean_28 : decode cX9_clean 28 = .ok (.getfield 217, 3) := by decide +kernel
theorem dX9_clean_31 : decode cX9_clean 31 = .ok (.ifCond .ne 5, 3) := by decide +kernel
theorem dX9_clean_34 : decode cX9_clean 34 = .ok (.iconst 0, 1) := by decide +kernel
theorem dX9_clean_35 : decode cX9_clean 35 = .ok (.ireturn, 1) := by decide +kernel
theorem dX9_clean_36 : decode cX9_clean 36 = .ok (.aload_n 2, 1) := by decide +kernel
theorem dX9_clean_37 : decode cX9_clean 37 = .ok (.iconst 0, 1) := by decide +kernel
theorem dX9_clean_38 : decode cX9_clean 38 = .ok (.putfield 217, 3) := by decide +kernel
theorem dX9_clean_41 : decode cX9_clean 41 = .ok (.aload_n 0, 1) := by decide +kernel
theorem dX9_clean_42 : decode cX9_clean 42 = .ok (.dup, 1) := by decide +kernel
theorem dX9_clean_43 : decode cX9_clean 43 = .ok (.getfield 74, 3) := by decide +kernel
theorem dX9_clean_46 : decode cX9_clean 46 = .ok (.iconst 1, 1) := by decide +kernel
theorem dX9_clean_47 : decode cX9_clean 47 = .ok (.iadd, 1) := by decide +kernel
theorem dX9_clean_48 : decode cX9_clean 48 = .ok (.putfield 74, 3) := by decide +kernel
theorem dX9_clean_51 : decode cX9_clean 51 = .ok (.iconst 1, 1) := by decide +kernel
theorem dX9_clean_52 : decode cX9_clean 52 = .ok (.ireturn, 1) := by decide +kernel
theorem dX9_fill_0 : decode cX9_fill 0 = .ok (.iload_n 1, 1) := by decide +kernel
theorem dX9_fill_1 : decode cX9_fill 1 = .ok (.invokestatic 198, 3) := by decide +kernel
theorem dX9_fill_4 : decode cX9_fill 4 = .ok (.ifCond .ne 6, 3) := by decide +kernel
theorem dX9_fill_7 : decode cX9_fill 7 = .ok (.bipush (-2), 2) := by decide +kernel
theorem dX9_fill_9 : decode cX9_fill 9 = .ok (.ireturn, 1) := by decide +kernel
theorem dX9_fill_10 : decode cX9_fill 10 = .ok (.iload_n 2, 1) := by decide +kernel
theorem dX9_fill_11 : decode cX9_fill 11 = .ok (.iconst 1, 1) := by decide +kernel
theorem dX9_fill_12 : decode cX9_fill 12 = .ok (.sipush 1000, 3) := by decide +kernel
theorem dX9_fill_15 : decode cX9_fill 15 = .ok (.invokestatic 97, 3) := by decide +kernel
theorem dX9_fill_18 : decode cX9_fill 18 = .ok (.ifCond .ne 6, 3) := by decide +kernel
theorem dX9_fill_21 : decode cX9_fill 21 = .ok (.bipush (-3), 2) := by decide +kernel
theorem dX9_fill_23 : decode cX9_fill 23 = .ok (.ireturn, 1) := by decide +kernel
theorem dX9_fill_24 : decode cX9_fill 24 = .ok (.aload_n 0, 1) := by decide +kernel
theorem dX9_fill_25 : decode cX9_fill 25 = .ok (.getfield 49, 3) := by decide +kernel
theorem dX9_fill_28 : decode cX9_fill 28 = .ok (.iload_n 1, 1) := by decide +kernel
theorem dX9_fill_29 : decode cX9_fill 29 = .ok (.aaload, 1) := by decide +kernel
theorem dX9_fill_30 : decode cX9_fill 30 = .ok (.getfield 202, 3) := by decide +kernel
theorem dX9_fill_33 : decode cX9_fill 33 = .ok (.iload_n 2, 1) := by decide +kernel
theorem dX9_fill_34 : decode cX9_fill 34 = .ok (.if_icmp .ge 6, 3) := by decide +kernel
theorem dX9_fill_37 : decode cX9_fill 37 = .ok (.bipush (-4), 2) := by decide +kernel
theorem dX9_fill_39 : decode cX9_fill 39 = .ok (.ireturn, 1) := by decide +kernel
theorem dX9_fill_40 : decode cX9_fill 40 = .ok (.aload_n 0, 1) := by decide +kernel
theorem dX9_fill_41 : decode cX9_fill 41 = .ok (.getfield 56, 3) := by decide +kernel
theorem dX9_fill_44 : decode cX9_fill 44 = .ok (.iload_n 2, 1) := by decide +kernel
theorem dX9_fill_45 : decode cX9_fill 45 = .ok (.iload_n 1, 1) := by decide +kernel
theorem dX9_fill_46 : decode cX9_fill 46 = .ok (.aload_n 0, 1) := by decide +kernel
theorem dX9_fill_47 : decode cX9_fill 47 = .ok (.getfield 19, 3) := by decide +kernel
theorem dX9_fill_50 : decode cX9_fill 50 = .ok (.getfield 112, 3) := by decide +kernel
theorem dX9_fill_53 : decode cX9_fill 53 = .ok (.aload_n 0, 1) := by decide +kernel
theorem dX9_fill_54 : decode cX9_fill 54 = .ok (.getfield 49, 3) := by decide +kernel
theorem dX9_fill_57 : decode cX9_fill 57 = .ok (.iload_n 1, 1) := by decide +kernel
theorem dX9_fill_58 : decode cX9_fill 58 = .ok (.aaload, 1) := by decide +kernel
theorem dX9_fill_59 : decode cX9_fill 59 = .ok (.invokevirtual 220, 3) := by decide +kernel
theorem dX9_fill_62 : decode cX9_fill 62 = .ok (.istore_n 3, 1) := by decide +kernel
theorem dX9_fill_63 : decode cX9_fill 63 = .ok (.iload_n 3, 1) := by decide +kernel
theorem dX9_fill_64 : decode cX9_fill 64 = .ok (.bipush (-6), 2) := by decide +kernel
theorem dX9_fill_66 : decode cX9_fill 66 = .ok (.if_icmp .eq 17, 3) := by decide +kernel
theorem dX9_fill_69 : decode cX9_fill 69 = .ok (.aload_n 0, 1) := by decide +kernel
theorem dX9_fill_70 : decode cX9_fill 70 = .ok (.getfield 49, 3) := by decide +kernel
theorem dX9_fill_73 : decode cX9_fill 73 = .ok (.iload_n 1, 1) := by decide +kernel
theorem dX9_fill_74 : decode cX9_fill 74 = .ok (.aaload, 1) := by decide +kernel
theorem dX9_fill_75 : decode cX9_fill 75 = .ok (.iload_n 2, 1) := by decide +kernel
theorem dX9_fill_76 : decode cX9_fill 76 = .ok (.aload_n 0, 1) := by decide +kernel
theorem dX9_fill_77 : decode cX9_fill 77 = .ok (.getfield 12, 3) := by decide +kernel
theorem dX9_fill_80 : decode cX9_fill 80 = .ok (.invokevirtual 223, 3) := by decide +kernel
theorem dX9_fill_83 : decode cX9_fill 83 = .ok (.iload_n 3, 1) := by decide +kernel
theorem dX9_fill_84 : decode cX9_fill 84 = .ok (.ireturn, 1) := by decide +kernel
theorem dX9_tank_0 : decode cX9_tank 0 = .ok (.iload_n 1, 1) := by decide +kernel
theorem dX9_tank_1 : decode cX9_tank 1 = .ok (.invokestatic 198, 3) := by decide +kernel
theorem dX9_tank_4 : decode cX9_tank 4 = .ok (.ifCond .ne 6, 3) := by decide +kernel
theorem dX9_tank_7 : decode cX9_tank 7 = .ok (.bipush (-2), 2) := by decide +kernel
theorem dX9_tank_9 : decode cX9_tank 9 = .ok (.ireturn, 1) := by decide +kernel
theorem dX9_tank_10 : decode cX9_tank 10 = .ok (.aload_n 0, 1) := by decide +kernel
theorem dX9_tank_11 : decode cX9_tank 11 = .ok (.getfield 49, 3) := by decide +kernel
theorem dX9_tank_14 : decode cX9_tank 14 = .ok (.iload_n 1, 1) := by decide +kernel
theorem dX9_tank_15 : decode cX9_tank 15 = .ok (.aaload, 1) := by decide +kernel
theorem dX9_tank_16 : decode cX9_tank 16 = .ok (.astore_n 3, 1) := by decide +kernel
theorem dX9_tank_17 : decode cX9_tank 17 = .ok (.iload_n 2, 1) := by decide +kernel
theorem dX9_tank_18 : decode cX9_tank 18 = .ok (.tableswitch 66 0 3 #[30, 35, 48, 61], 30) := by decide +kernel
theorem dX9_tank_48 : decode cX9_tank 48 = .ok (.aload_n 3, 1) := by decide +kernel
theorem dX9_tank_49 : decode cX9_tank 49 = .ok (.getfield 202, 3) := by decide +kernel
theorem dX9_tank_52 : decode cX9_tank 52 = .ok (.ireturn, 1) := by decide +kernel
theorem dX9_tank_53 : decode cX9_tank 53 = .ok (.aload_n 3, 1) := by decide +kernel
theorem dX9_tank_54 : decode cX9_tank 54 = .ok (.invokevirtual 227, 3) := by decide +kernel
theorem dX9_tank_57 : decode cX9_tank 57 = .ok (.ifCond .eq 7, 3) := by decide +kernel
theorem dX9_tank_60 : decode cX9_tank 60 = .ok (.iconst 1, 1) := by decide +kernel
theorem dX9_tank_61 : decode cX9_tank 61 = .ok (.goto 4, 3) := by decide +kernel
theorem dX9_tank_64 : decode cX9_tank 64 = .ok (.iconst 0, 1) := by decide +kernel
theorem dX9_tank_65 : decode cX9_tank 65 = .ok (.ireturn, 1) := by decide +kernel
theorem dX9_tank_66 : decode cX9_tank 66 = .ok (.aload_n 3, 1) := by decide +kernel
theorem dX9_tank_67 : decode cX9_tank 67 = .ok (.getfield 217, 3) := by decide +kernel
theorem dX9_tank_70 : decode cX9_tank 70 = .ok (.ifCond .eq 7, 3) := by decide +kernel
theorem dX9_tank_73 : decode cX9_tank 73 = .ok (.iconst 1, 1) := by decide +kernel
theorem dX9_tank_74 : decode cX9_tank 74 = .ok (.goto 4, 3) := by decide +kernel
theorem dX9_tank_77 : decode cX9_tank 77 = .ok (.iconst 0, 1) := by decide +kernel
theorem dX9_tank_78 : decode cX9_tank 78 = .ok (.ireturn, 1) := by decide +kernel
theorem dX9_tank_79 : decode cX9_tank 79 = .ok (.aload_n 3, 1) := by decide +kernel
theorem dX9_tank_80 : decode cX9_tank 80 = .ok (.getfield 205, 3) := by decide +kernel
theorem dX9_tank_83 : decode cX9_tank 83 = .ok (.ireturn, 1) := by decide +kernel
theorem dX9_tank_84 : decode cX9_tank 84 = .ok (.bipush (-3), 2) := by decide +kernel
theorem dX9_tank_86 : decode cX9_tank 86 = .ok (.ireturn, 1) := by decide +kernel
theorem dX9_tankShade_0 : decode cX9_tankShade 0 = .ok (.iload_n 1, 1) := by decide +kernel
theorem dX9_tankShade_1 : decode cX9_tankShade 1 = .ok (.invokestatic 198, 3) := by decide +kernel
theorem dX9_tankShade_4 : decode cX9_tankShade 4 = .ok (.ifCond .eq 10, 3) := by decide +kernel
theorem dX9_tankShade_7 : decode cX9_tankShade 7 = .ok (.iload_n 2, 1) := by decide +kernel
theorem dX9_tankShade_8 : decode cX9_tankShade 8 = .ok (.invokestatic 90, 3) := by decide +kernel
theorem dX9_tankShade_11 : decode cX9_tankShade 11 = .ok (.ifCond .ne 6, 3) := by decide +kernel
theorem dX9_tankShade_14 : decode cX9_tankShade 14 = .ok (.bipush (-2), 2) := by decide +kernel
theorem dX9_tankShade_16 : decode cX9_tankShade 16 = .ok (.ireturn, 1) := by decide +kernel
theorem dX9_tankShade_17 : decode cX9_tankShade 17 = .ok (.aload_n 0, 1) := by decide +kernel
theorem dX9_tankShade_18 : decode cX9_tankShade 18 = .ok (.getfield 49, 3) := by decide +kernel
theorem dX9_tankShade_21 : decode cX9_tankShade 21 = .ok (.iload_n 1, 1) := by decide +kernel
theorem dX9_tankShade_22 : decode cX9_tankShade 22 = .ok (.aaload, 1) := by decide +kernel
theorem dX9_tankShade_23 : decode cX9_tankShade 23 = .ok (.astore_n 3, 1) := by decide +kernel
theorem dX9_tankShade_24 : decode cX9_tankShade 24 = .ok (.aload_n 3, 1) := by decide +kernel
theorem dX9_tankShade_25 : decode cX9_tankShade 25 = .ok (.invokevirtual 227, 3) := by decide +kernel
theorem dX9_tankShade_28 : decode cX9_tankShade 28 = .ok (.ifCond .eq 6, 3) := by decide +kernel
theorem dX9_tankShade_31 : decode cX9_tankShade 31 = .ok (.bipush (-4), 2) := by decide +kernel
theorem dX9_tankShade_33 : decode cX9_tankShade 33 = .ok (.ireturn, 1) := by decide +kernel
theorem dX9_tankShade_34 : decode cX9_tankShade 34 = .ok (.aload_n 3, 1) := by decide +kernel
theorem dX9_tankShade_35 : decode cX9_tankShade 35 = .ok (.getfield 217, 3) := by decide +kernel
theorem dX9_tankShade_38 : decode cX9_tankShade 38 = .ok (.ifCond .eq 12, 3) := by decide +kernel
theorem dX9_tankShade_41 : decode cX9_tankShade 41 = .ok (.aload_n 3, 1) := by decide +kernel
theorem dX9_tankShade_42 : decode cX9_tankShade 42 = .ok (.getfield 231, 3) := by decide +kernel
theorem dX9_tankShade_45 : decode cX9_tankShade 45 = .ok (.iload_n 2, 1) := by decide +kernel
theorem dX9_tankShade_46 : decode cX9_tankShade 46 = .ok (.iaload, 1) := by decide +kernel
theorem dX9_tankShade_47 : decode cX9_tankShade 47 = .ok (.goto 15, 3) := by decide +kernel
theorem dX9_tankShade_50 : decode cX9_tankShade 50 = .ok (.aload_n 0, 1) := by decide +kernel
theorem dX9_tankShade_51 : decode cX9_tankShade 51 = .ok (.getfield 12, 3) := by decide +kernel
theorem dX9_tankShade_54 : decode cX9_tankShade 54 = .ok (.aload_n 3, 1) := by decide +kernel
theorem dX9_tankShade_55 : decode cX9_tankShade 55 = .ok (.getfield 234, 3) := by decide +kernel
theorem dX9_tankShade_58 : decode cX9_tankShade 58 = .ok (.iload_n 2, 1) := by decide +kernel
theorem dX9_tankShade_59 : decode cX9_tankShade 59 = .ok (.invokevirtual 186, 3) := by decide +kernel
theorem dX9_tankShade_62 : decode cX9_tankShade 62 = .ok (.ireturn, 1) := by decide +kernel
theorem dX9_drum_0 : decode cX9_drum 0 = .ok (.aload_n 0, 1) := by decide +kernel
theorem dX9_drum_1 : decode cX9_drum 1 = .ok (.getfield 56, 3) := by decide +kernel
theorem dX9_drum_4 : decode cX9_drum 4 = .ok (.iload_n 1, 1) := by decide +kernel
theorem dX9_drum_5 : decode cX9_drum 5 = .ok (.invokevirtual 235, 3) := by decide +kernel
theorem dX9_drum_8 : decode cX9_drum 8 = .ok (.ifCond .ne 6, 3) := by decide +kernel
theorem dX9_drum_11 : decode cX9_drum 11 = .ok (.bipush (-2), 2) := by decide +kernel
theorem dX9_drum_13 : decode cX9_drum 13 = .ok (.ireturn, 1) := by decide +kernel
theorem dX9_drum_14 : decode cX9_drum 14 = .ok (.iload_n 2, 1) := by decide +kernel
theorem dX9_drum_15 : decode cX9_drum 15 = .ok (.tableswitch 89 0 4 #[33, 43, 53, 63, 76], 33) := by decide +kernel
theorem dX9_drum_48 : decode cX9_drum 48 = .ok (.aload_n 0, 1) := by decide +kernel
theorem dX9_drum_49 : decode cX9_drum 49 = .ok (.getfield 56, 3) := by decide +kernel
theorem dX9_drum_52 : decode cX9_drum 52 = .ok (.getfield 236, 3) := by decide +kernel
theorem dX9_drum_55 : decode cX9_drum 55 = .ok (.iload_n 1, 1) := by decide +kernel
theorem dX9_drum_56 : decode cX9_drum 56 = .ok (.iaload, 1) := by decide +kernel
theorem dX9_drum_57 : decode cX9_drum 57 = .ok (.ireturn, 1) := by decide +kernel
theorem dX9_drum_58 : decode cX9_drum 58 = .ok (.aload_n 0, 1) := by decide +kernel
theorem dX9_drum_59 : decode cX9_drum 59 = .ok (.getfield 56, 3) := by decide +kernel
theorem dX9_drum_62 : decode cX9_drum 62 = .ok (.getfield 238, 3) := by decide +kernel
theorem dX9_drum_65 : decode cX9_drum 65 = .ok (.iload_n 1, 1) := by decide +kernel
theorem dX9_drum_66 : decode cX9_drum 66 = .ok (.iaload, 1) := by decide +kernel
theorem dX9_drum_67 : decode cX9_drum 67 = .ok (.ireturn, 1) := by decide +kernel
theorem dX9_drum_68 : decode cX9_drum 68 = .ok (.aload_n 0, 1) := by decide +kernel
theorem dX9_drum_69 : decode cX9_drum 69 = .ok (.getfield 56, 3) := by decide +kernel
theorem dX9_drum_72 : decode cX9_drum 72 = .ok (.getfield 241, 3) := by decide +kernel
theorem dX9_drum_75 : decode cX9_drum 75 = .ok (.iload_n 1, 1) := by decide +kernel
theorem dX9_drum_76 : decode cX9_drum 76 = .ok (.iaload, 1) := by decide +kernel
theorem dX9_drum_77 : decode cX9_drum 77 = .ok (.ireturn, 1) := by decide +kernel
theorem dX9_drum_78 : decode cX9_drum 78 = .ok (.aload_n 0, 1) := by decide +kernel
theorem dX9_drum_79 : decode cX9_drum 79 = .ok (.getfield 56, 3) := by decide +kernel
theorem dX9_drum_82 : decode cX9_drum 82 = .ok (.getfield 244, 3) := by decide +kernel
theorem dX9_drum_85 : decode cX9_drum 85 = .ok (.iload_n 1, 1) := by decide +kernel
theorem dX9_drum_86 : decode cX9_drum 86 = .ok (.iaload, 1) := by decide +kernel
theorem dX9_drum_87 : decode cX9_drum 87 = .ok (.invokestatic 246, 3) := by decide +kernel
theorem dX9_drum_90 : decode cX9_drum 90 = .ok (.ireturn, 1) := by decide +kernel
theorem dX9_drum_91 : decode cX9_drum 91 = .ok (.aload_n 0, 1) := by decide +kernel
theorem dX9_drum_92 : decode cX9_drum 92 = .ok (.getfield 56, 3) := by decide +kernel
theorem dX9_drum_95 : decode cX9_drum 95 = .ok (.getfield 251, 3) := by decide +kernel
theorem dX9_drum_98 : decode cX9_drum 98 = .ok (.iload_n 1, 1) := by decide +kernel
theorem dX9_drum_99 : decode cX9_drum 99 = .ok (.laload, 1) := by decide +kernel
theorem dX9_drum_100 : decode cX9_drum 100 = .ok (.invokestatic 255, 3) := by decide +kernel
theorem dX9_drum_103 : decode cX9_drum 103 = .ok (.ireturn, 1) := by decide +kernel
theorem dX9_drum_104 : decode cX9_drum 104 = .ok (.bipush (-3), 2) := by decide +kernel
theorem dX9_drum_106 : decode cX9_drum 106 = .ok (.ireturn, 1) := by decide +kernel
theorem dX9_inDrum_0 : decode cX9_inDrum 0 = .ok (.aload_n 0, 1) := by decide +kernel
theorem dX9_inDrum_1 : decode cX9_inDrum 1 = .ok (.getfield 56, 3) := by decide +kernel
theorem dX9_inDrum_4 : decode cX9_inDrum 4 = .ok (.iload_n 1, 1) := by decide +kernel
theorem dX9_inDrum_5 : decode cX9_inDrum 5 = .ok (.invokevirtual 235, 3) := by decide +kernel
theorem dX9_inDrum_8 : decode cX9_inDrum 8 = .ok (.ifCond .eq 29, 3) := by decide +kernel
theorem dX9_inDrum_11 : decode cX9_inDrum 11 = .ok (.iload_n 2, 1) := by decide +kernel
theorem dX9_inDrum_12 : decode cX9_inDrum 12 = .ok (.ifCond .eq 17, 3) := by decide +kernel
theorem dX9_inDrum_15 : decode cX9_inDrum 15 = .ok (.aload_n 0, 1) := by decide +kernel
theorem dX9_inDrum_16 : decode cX9_inDrum 16 = .ok (.getfield 19, 3) := by decide +kernel
theorem dX9_inDrum_19 : decode cX9_inDrum 19 = .ok (.iload_n 3, 1) := by decide +kernel
theorem dX9_inDrum_20 : decode cX9_inDrum 20 = .ok (.invokevirtual 104, 3) := by decide +kernel
theorem dX9_inDrum_23 : decode cX9_inDrum 23 = .ok (.ifCond .eq 14, 3) := by decide +kernel
theorem dX9_inDrum_26 : decode cX9_inDrum 26 = .ok (.goto 14, 3) := by decide +kernel
theorem dX9_inDrum_29 : decode cX9_inDrum 29 = .ok (.aload_n 0, 1) := by decide +kernel
theorem dX9_inDrum_30 : decode cX9_inDrum 30 = .ok (.iload_n 3, 1) := by decide +kernel
theorem dX9_inDrum_31 : decode cX9_inDrum 31 = .ok (.invokevirtual 126, 3) := by decide +kernel
theorem dX9_inDrum_34 : decode cX9_inDrum 34 = .ok (.ifCond .ne 6, 3) := by decide +kernel
theorem dX9_inDrum_37 : decode cX9_inDrum 37 = .ok (.bipush (-2), 2) := by decide +kernel
theorem dX9_inDrum_39 : decode cX9_inDrum 39 = .ok (.ireturn, 1) := by decide +kernel
theorem dX9_inDrum_40 : decode cX9_inDrum 40 = .ok (.iload_n 2, 1) := by decide +kernel
theorem dX9_inDrum_41 : decode cX9_inDrum 41 = .ok (.ifCond .eq 19, 3) := by decide +kernel
theorem dX9_inDrum_44 : decode cX9_inDrum 44 = .ok (.aload_n 0, 1) := by decide +kernel
theorem dX9_inDrum_45 : decode cX9_inDrum 45 = .ok (.getfield 56, 3) := by decide +kernel
theorem dX9_inDrum_48 : decode cX9_inDrum 48 = .ok (.getfield 251, 3) := by decide +kernel
theorem dX9_inDrum_51 : decode cX9_inDrum 51 = .ok (.iload_n 1, 1) := by decide +kernel
theorem dX9_inDrum_52 : decode cX9_inDrum 52 = .ok (.laload, 1) := by decide +kernel
theorem dX9_inDrum_53 : decode cX9_inDrum 53 = .ok (.iload_n 3, 1) := by decide +kernel
theorem dX9_inDrum_54 : decode cX9_inDrum 54 = .ok (.invokestatic 260, 3) := by decide +kernel
theorem dX9_inDrum_57 : decode cX9_inDrum 57 = .ok (.goto 17, 3) := by decide +kernel
theorem dX9_inDrum_60 : decode cX9_inDrum 60 = .ok (.aload_n 0, 1) := by decide +kernel
theorem dX9_inDrum_61 : decode cX9_inDrum 61 = .ok (.getfield 56, 3) := by decide +kernel
theorem dX9_inDrum_64 : decode cX9_inDrum 64 = .ok (.getfield 244, 3) := by decide +kernel
theorem dX9_inDrum_67 : decode cX9_inDrum 67 = .ok (.iload_n 1, 1) := by decide +kernel
theorem dX9_inDrum_68 : decode cX9_inDrum 68 = .ok (.iaload, 1) := by decide +kernel
theorem dX9_inDrum_69 : decode cX9_inDrum 69 = .ok (.i2l, 1) := by decide +kernel
theorem dX9_inDrum_70 : decode cX9_inDrum 70 = .ok (.iload_n 3, 1) := by decide +kernel
theorem dX9_inDrum_71 : decode cX9_inDrum 71 = .ok (.invokestatic 260, 3) := by decide +kernel
theorem dX9_inDrum_74 : decode cX9_inDrum 74 = .ok (.istore 4, 2) := by decide +kernel
theorem dX9_inDrum_76 : decode cX9_inDrum 76 = .ok (.iload 4, 2) := by decide +kernel
theorem dX9_inDrum_78 : decode cX9_inDrum 78 = .ok (.ifCond .eq 7, 3) := by decide +kernel
theorem dX9_inDrum_81 : decode cX9_inDrum 81 = .ok (.iconst 1, 1) := by decide +kernel
theorem dX9_inDrum_82 : decode cX9_inDrum 82 = .ok (.goto 4, 3) := by decide +kernel
theorem dX9_inDrum_85 : decode cX9_inDrum 85 = .ok (.iconst 0, 1) := by decide +kernel
theorem dX9_inDrum_86 : decode cX9_inDrum 86 = .ok (.ireturn, 1) := by decide +kernel
theorem dX9_recall_0 : decode cX9_recall 0 = .ok (.aload_n 0, 1) := by decide +kernel
theorem dX9_recall_1 : decode cX9_recall 1 = .ok (.getfield 19, 3) := by decide +kernel
theorem dX9_recall_4 : decode cX9_recall 4 = .ok (.iload_n 1, 1) := by decide +kernel
theorem dX9_recall_5 : decode cX9_recall 5 = .ok (.invokevirtual 104, 3) := by decide +kernel
theorem dX9_recall_8 : decode cX9_recall 8 = .ok (.ifCond .ne 6, 3) := by decide +kernel
theorem dX9_recall_11 : decode cX9_recall 11 = .ok (.bipush (-2), 2) := by decide +kernel
theorem dX9_recall_13 : decode cX9_recall 13 = .ok (.ireturn, 1) := by decide +kernel
theorem dX9_recall_14 : decode cX9_recall 14 = .ok (.iload_n 2, 1) := by decide +kernel
theorem dX9_recall_15 : decode cX9_recall 15 = .ok (.tableswitch 46 0 2 #[25, 34, 40], 25) := by decide +kernel
theorem dX9_recall_40 : decode cX9_recall 40 = .ok (.aload_n 0, 1) := by decide +kernel
theorem dX9_recall_41 : decode cX9_recall 41 = .ok (.getfield 56, 3) := by decide +kernel
theorem dX9_recall_44 : decode cX9_recall 44 = .ok (.iload_n 1, 1) := by decide +kernel
theorem dX9_recall_45 : decode cX9_recall 45 = .ok (.invokevirtual 264, 3) := by decide +kernel
theorem dX9_recall_48 : decode cX9_recall 48 = .ok (.ireturn, 1) := by decide +kernel
theorem dX9_recall_49 : decode cX9_recall 49 = .ok (.aload_n 0, 1) := by decide +kernel
theorem dX9_recall_50 : decode cX9_recall 50 = .ok (.iload_n 1, 1) := by decide +kernel
theorem dX9_recall_51 : decode cX9_recall 51 = .ok (.invokevirtual 267, 3) := by decide +kernel
theorem dX9_recall_54 : decode cX9_recall 54 = .ok (.ireturn, 1) := by decide +kernel
theorem dX9_recall_55 : decode cX9_recall 55 = .ok (.aload_n 0, 1) := by decide +kernel
theorem dX9_recall_56 : decode cX9_recall 56 = .ok (.iload_n 1, 1) := by decide +kernel
theorem dX9_recall_57 : decode cX9_recall 57 = .ok (.invokevirtual 270, 3) := by decide +kernel
theorem dX9_recall_60 : decode cX9_recall 60 = .ok (.ireturn, 1) := by decide +kernel
theorem dX9_recall_61 : decode cX9_recall 61 = .ok (.bipush (-3), 2) := by decide +kernel
theorem dX9_recall_63 : decode cX9_recall 63 = .ok (.ireturn, 1) := by decide +kernel
theorem dX9_job_0 : decode cX9_job 0 = .ok (.iload_n 1, 1) := by decide +kernel
theorem dX9_job_1 : decode cX9_job 1 = .ok (.invokestatic 273, 3) := by decide +kernel
theorem dX9_job_4 : decode cX9_job 4 = .ok (.ifCond .ne 6, 3) := by decide +kernel
theorem dX9_job_7 : decode cX9_job 7 = .ok (.bipush (-2), 2) := by decide +kernel
theorem dX9_job_9 : decode cX9_job 9 = .ok (.ireturn, 1) := by decide +kernel
theorem dX9_job_10 : decode cX9_job 10 = .ok (.iload_n 2, 1) := by decide +kernel
theorem dX9_job_11 : decode cX9_job 11 = .ok (.iconst 1, 1) := by decide +kernel
theorem dX9_job_12 : decode cX9_job 12 = .ok (.bipush 100, 2) := by decide +kernel
theorem dX9_job_14 : decode cX9_job 14 = .ok (.invokestatic 97, 3) := by decide +kernel
theorem dX9_job_17 : decode cX9_job 17 = .ok (.ifCond .eq 25, 3) := by decide +kernel
theorem dX9_job_20 : decode cX9_job 20 = .ok (.iload_n 3, 1) := by decide +kernel
theorem dX9_job_21 : decode cX9_job 21 = .ok (.iconst 0, 1) := by decide +kernel
theorem dX9_job_22 : decode cX9_job 22 = .ok (.sipush 1000, 3) := by decide +kernel
theorem dX9_job_25 : decode cX9_job 25 = .ok (.invokestatic 97, 3) := by decide +kernel
theorem dX9_job_28 : decode cX9_job 28 = .ok (.ifCond .eq 14, 3) := by decide +kernel
theorem dX9_job_31 : decode cX9_job 31 = .ok (.iload 4, 2) := by decide +kernel
theorem dX9_job_33 : decode cX9_job 33 = .ok (.iconst 0, 1) := by decide +kernel
theorem dX9_job_34 : decode cX9_job 34 = .ok (.bipush 100, 2) := by decide +kernel
theorem dX9_job_36 : decode cX9_job 36 = .ok (.invokestatic 97, 3) := by decide +kernel
theorem dX9_job_39 : decode cX9_job 39 = .ok (.ifCond .ne 6, 3) := by decide +kernel
theorem dX9_job_42 : decode cX9_job 42 = .ok (.bipush (-3), 2) := by decide +kernel
theorem dX9_job_44 : decode cX9_job 44 = .ok (.ireturn, 1) := by decide +kernel
theorem dX9_job_45 : decode cX9_job 45 = .ok (.aload_n 0, 1) := by decide +kernel
theorem dX9_job_46 : decode cX9_job 46 = .ok (.getfield 63, 3) := by decide +kernel
theorem dX9_job_49 : decode cX9_job 49 = .ok (.iload_n 1, 1) := by decide +kernel
theorem dX9_job_50 : decode cX9_job 50 = .ok (.iload_n 2, 1) := by decide +kernel
theorem dX9_job_51 : decode cX9_job 51 = .ok (.iload_n 3, 1) := by decide +kernel
theorem dX9_job_52 : decode cX9_job 52 = .ok (.iload 4, 2) := by decide +kernel
theorem dX9_job_54 : decode cX9_job 54 = .ok (.invokevirtual 276, 3) := by decide +kernel
theorem dX9_job_57 : decode cX9_job 57 = .ok (.ireturn, 1) := by decide +kernel
theorem dX9_cleaning_0 : decode cX9_cleaning 0 = .ok (.iload_n 1, 1) := by decide +kernel
theorem dX9_cleaning_1 : decode cX9_cleaning 1 = .ok (.invokestatic 273, 3) := by decide +kernel
theorem dX9_cleaning_4 : decode cX9_cleaning 4 = .ok (.ifCond .eq 10, 3) := by decide +kernel
theorem dX9_cleaning_7 : decode cX9_cleaning 7 = .ok (.iload_n 2, 1) := by decide +kernel
theorem dX9_cleaning_8 : decode cX9_cleaning 8 = .ok (.invokestatic 273, 3) := by decide +kernel
theorem dX9_cleaning_11 : decode cX9_cleaning 11 = .ok (.ifCond .ne 6, 3) := by decide +kernel
theorem dX9_cleaning_14 : decode cX9_cleaning 14 = .ok (.bipush (-2), 2) := by decide +kernel
theorem dX9_cleaning_16 : decode cX9_cleaning 16 = .ok (.ireturn, 1) := by decide +kernel
theorem dX9_cleaning_17 : decode cX9_cleaning 17 = .ok (.iload_n 3, 1) := by decide +kernel
theorem dX9_cleaning_18 : decode cX9_cleaning 18 = .ok (.iconst 0, 1) := by decide +kernel
theorem dX9_cleaning_19 : decode cX9_cleaning 19 = .ok (.sipush 1000, 3) := by decide +kernel
theorem dX9_cleaning_22 : decode cX9_cleaning 22 = .ok (.invokestatic 97, 3) := by decide +kernel
theorem dX9_cleaning_25 : decode cX9_cleaning 25 = .ok (.ifCond .ne 6, 3) := by decide +kernel
theorem dX9_cleaning_28 : decode cX9_cleaning 28 = .ok (.bipush (-3), 2) := by decide +kernel
theorem dX9_cleaning_30 : decode cX9_cleaning 30 = .ok (.ireturn, 1) := by decide +kernel
theorem dX9_cleaning_31 : decode cX9_cleaning 31 = .ok (.aload_n 0, 1) := by decide +kernel
theorem dX9_cleaning_32 : decode cX9_cleaning 32 = .ok (.getfield 63, 3) := by decide +kernel
theorem dX9_cleaning_35 : decode cX9_cleaning 35 = .ok (.iload_n 1, 1) := by decide +kernel
theorem dX9_cleaning_36 : decode cX9_cleaning 36 = .ok (.iload_n 2, 1) := by decide +kernel
theorem dX9_cleaning_37 : decode cX9_cleaning 37 = .ok (.iload_n 3, 1) := by decide +kernel
theorem dX9_cleaning_38 : decode cX9_cleaning 38 = .ok (.invokevirtual 279, 3) := by decide +kernel
theorem dX9_cleaning_41 : decode cX9_cleaning 41 = .ok (.ireturn, 1) := by decide +kernel
theorem dX9_plan_0 : decode cX9_plan 0 = .ok (.iload_n 1, 1) := by decide +kernel
theorem dX9_plan_1 : decode cX9_plan 1 = .ok (.invokestatic 273, 3) := by decide +kernel
theorem dX9_plan_4 : decode cX9_plan 4 = .ok (.ifCond .eq 14, 3) := by decide +kernel
theorem dX9_plan_7 : decode cX9_plan 7 = .ok (.aload_n 0, 1) := by decide +kernel
theorem dX9_plan_8 : decode cX9_plan 8 = .ok (.getfield 63, 3) := by decide +kernel
theorem dX9_plan_11 : decode cX9_plan 11 = .ok (.iload_n 1, 1) := by decide +kernel
theorem dX9_plan_12 : decode cX9_plan 12 = .ok (.invokevirtual 282, 3) := by decide +kernel
theorem dX9_plan_15 : decode cX9_plan 15 = .ok (.goto 5, 3) := by decide +kernel
theorem dX9_plan_18 : decode cX9_plan 18 = .ok (.bipush (-2), 2) := by decide +kernel
theorem dX9_plan_20 : decode cX9_plan 20 = .ok (.ireturn, 1) := by decide +kernel
theorem dX9_planned_0 : decode cX9_planned 0 = .ok (.iload_n 1, 1) := by decide +kernel
theorem dX9_planned_1 : decode cX9_planned 1 = .ok (.ifCond .lt 26, 3) := by decide +kernel
theorem dX9_planned_4 : decode cX9_planned 4 = .ok (.iload_n 1, 1) := by decide +kernel
theorem dX9_planned_5 : decode cX9_planned 5 = .ok (.aload_n 0, 1) := by decide +kernel
theorem dX9_planned_6 : decode cX9_planned 6 = .ok (.getfield 63, 3) := by decide +kernel
theorem dX9_planned_9 : decode cX9_planned 9 = .ok (.getfield 285, 3) := by decide +kernel
theorem dX9_planned_12 : decode cX9_planned 12 = .ok (.if_icmp .ge 15, 3) := by decide +kernel
theorem dX9_planned_15 : decode cX9_planned 15 = .ok (.aload_n 0, 1) := by decide +kernel
theorem dX9_planned_16 : decode cX9_planned 16 = .ok (.getfield 63, 3) := by decide +kernel
theorem dX9_planned_19 : decode cX9_planned 19 = .ok (.getfield 288, 3) := by decide +kernel
theorem dX9_planned_22 : decode cX9_planned 22 = .ok (.iload_n 1, 1) := by decide +kernel
theorem dX9_planned_23 : decode cX9_planned 23 = .ok (.iaload, 1) := by decide +kernel
theorem dX9_planned_24 : decode cX9_planned 24 = .ok (.goto 5, 3) := by decide +kernel
theorem dX9_planned_27 : decode cX9_planned 27 = .ok (.bipush (-2), 2) := by decide +kernel
theorem dX9_planned_29 : decode cX9_planned 29 = .ok (.ireturn, 1) := by decide +kernel
theorem dX9_idle_0 : decode cX9_idle 0 = .ok (.aload_n 0, 1) := by decide +kernel
theorem dX9_idle_1 : decode cX9_idle 1 = .ok (.getfield 63, 3) := by decide +kernel
theorem dX9_idle_4 : decode cX9_idle 4 = .ok (.getfield 291, 3) := by decide +kernel
theorem dX9_idle_7 : decode cX9_idle 7 = .ok (.istore_n 1, 1) := by decide +kernel
theorem dX9_idle_8 : decode cX9_idle 8 = .ok (.aload_n 0, 1) := by decide +kernel
theorem dX9_idle_9 : decode cX9_idle 9 = .ok (.getfield 63, 3) := by decide +kernel
theorem dX9_idle_12 : decode cX9_idle 12 = .ok (.iconst 0, 1) := by decide +kernel
theorem dX9_idle_13 : decode cX9_idle 13 = .ok (.putfield 291, 3) := by decide +kernel
theorem dX9_idle_16 : decode cX9_idle 16 = .ok (.iload_n 1, 1) := by decide +kernel
theorem dX9_idle_17 : decode cX9_idle 17 = .ok (.ireturn, 1) := by decide +kernel
theorem dX9_count_0 : decode cX9_count 0 = .ok (.iload_n 1, 1) := by decide +kernel
theorem dX9_count_1 : decode cX9_count 1 = .ok (.tableswitch 105 0 7 #[47, 55, 63, 71, 76, 84, 92, 100], 47) := by decide +kernel
theorem dX9_count_48 : decode cX9_count 48 = .ok (.aload_n 0, 1) := by decide +kernel
theorem dX9_count_49 : decode cX9_count 49 = .ok (.getfield 12, 3) := by decide +kernel
theorem dX9_count_52 : decode cX9_count 52 = .ok (.getfield 292, 3) := by decide +kernel
theorem dX9_count_55 : decode cX9_count 55 = .ok (.ireturn, 1) := by decide +kernel
theorem dX9_count_56 : decode cX9_count 56 = .ok (.aload_n 0, 1) := by decide +kernel
theorem dX9_count_57 : decode cX9_count 57 = .ok (.getfield 19, 3) := by decide +kernel
theorem dX9_count_60 : decode cX9_count 60 = .ok (.getfield 293, 3) := by decide +kernel
theorem dX9_count_63 : decode cX9_count 63 = .ok (.ireturn, 1) := by decide +kernel
theorem dX9_count_64 : decode cX9_count 64 = .ok (.aload_n 0, 1) := by decide +kernel
theorem dX9_count_65 : decode cX9_count 65 = .ok (.getfield 26, 3) := by decide +kernel
theorem dX9_count_68 : decode cX9_count 68 = .ok (.getfield 294, 3) := by decide +kernel
theorem dX9_count_71 : decode cX9_count 71 = .ok (.ireturn, 1) := by decide +kernel
theorem dX9_count_72 : decode cX9_count 72 = .ok (.aload_n 0, 1) := by decide +kernel
theorem dX9_count_73 : decode cX9_count 73 = .ok (.getfield 36, 3) := by decide +kernel
theorem dX9_count_76 : decode cX9_count 76 = .ok (.ireturn, 1) := by decide +kernel
theorem dX9_count_77 : decode cX9_count 77 = .ok (.aload_n 0, 1) := by decide +kernel
theorem dX9_count_78 : decode cX9_count 78 = .ok (.getfield 56, 3) := by decide +kernel
theorem dX9_count_81 : decode cX9_count 81 = .ok (.getfield 295, 3) := by decide +kernel
theorem dX9_count_84 : decode cX9_count 84 = .ok (.ireturn, 1) := by decide +kernel
theorem dX9_count_85 : decode cX9_count 85 = .ok (.aload_n 0, 1) := by decide +kernel
theorem dX9_count_86 : decode cX9_count 86 = .ok (.getfield 63, 3) := by decide +kernel
theorem dX9_count_89 : decode cX9_count 89 = .ok (.getfield 291, 3) := by decide +kernel
theorem dX9_count_92 : decode cX9_count 92 = .ok (.ireturn, 1) := by decide +kernel
theorem dX9_count_93 : decode cX9_count 93 = .ok (.aload_n 0, 1) := by decide +kernel
theorem dX9_count_94 : decode cX9_count 94 = .ok (.getfield 19, 3) := by decide +kernel
theorem dX9_count_97 : decode cX9_count 97 = .ok (.getfield 112, 3) := by decide +kernel
theorem dX9_count_100 : decode cX9_count 100 = .ok (.ireturn, 1) := by decide +kernel
theorem dX9_count_101 : decode cX9_count 101 = .ok (.aload_n 0, 1) := by decide +kernel
theorem dX9_count_102 : decode cX9_count 102 = .ok (.getfield 74, 3) := by decide +kernel
theorem dX9_count_105 : decode cX9_count 105 = .ok (.ireturn, 1) := by decide +kernel
theorem dX9_count_106 : decode cX9_count 106 = .ok (.bipush (-3), 2) := by decide +kernel
theorem dX9_count_108 : decode cX9_count 108 = .ok (.ireturn, 1) := by decide +kernel
theorem dX9_hasBatch_0 : decode cX9_hasBatch 0 = .ok (.iload_n 1, 1) := by decide +kernel
theorem dX9_hasBatch_1 : decode cX9_hasBatch 1 = .ok (.ifCond .lt 15, 3) := by decide +kernel
theorem dX9_hasBatch_4 : decode cX9_hasBatch 4 = .ok (.iload_n 1, 1) := by decide +kernel
theorem dX9_hasBatch_5 : decode cX9_hasBatch 5 = .ok (.aload_n 0, 1) := by decide +kernel
theorem dX9_hasBatch_6 : decode cX9_hasBatch 6 = .ok (.getfield 36, 3) := by decide +kernel
theorem dX9_hasBatch_9 : decode cX9_hasBatch 9 = .ok (.if_icmp .ge 7, 3) := by decide +kernel
theorem dX9_hasBatch_12 : decode cX9_hasBatch 12 = .ok (.iconst 1, 1) := by decide +kernel
theorem dX9_hasBatch_13 : decode cX9_hasBatch 13 = .ok (.goto 4, 3) := by decide +kernel
theorem dX9_hasBatch_16 : decode cX9_hasBatch 16 = .ok (.iconst 0, 1) := by decide +kernel
theorem dX9_hasBatch_17 : decode cX9_hasBatch 17 = .ok (.ireturn, 1) := by decide +kernel
theorem dX9_takeWanted_0 : decode cX9_takeWanted 0 = .ok (.aload_n 1, 1) := by decide +kernel
theorem dX9_takeWanted_1 : decode cX9_takeWanted 1 = .ok (.getfield 146, 3) := by decide +kernel
theorem dX9_takeWanted_4 : decode cX9_takeWanted 4 = .ok (.ifCond .eq 6, 3) := by decide +kernel
theorem dX9_takeWanted_7 : decode cX9_takeWanted 7 = .ok (.bipush (-4), 2) := by decide +kernel
theorem dX9_takeWanted_9 : decode cX9_takeWanted 9 = .ok (.ireturn, 1) := by decide +kernel
theorem dX9_takeWanted_10 : decode cX9_takeWanted 10 = .ok (.aload_n 0, 1) := by decide +kernel
theorem dX9_takeWanted_11 : decode cX9_takeWanted 11 = .ok (.getfield 19, 3) := by decide +kernel
theorem dX9_takeWanted_14 : decode cX9_takeWanted 14 = .ok (.aload_n 0, 1) := by decide +kernel
theorem dX9_takeWanted_15 : decode cX9_takeWanted 15 = .ok (.getfield 67, 3) := by decide +kernel
theorem dX9_takeWanted_18 : decode cX9_takeWanted 18 = .ok (.invokevirtual 296, 3) := by decide +kernel
theorem dX9_takeWanted_21 : decode cX9_takeWanted 21 = .ok (.ifCond .eq 6, 3) := by decide +kernel
theorem dX9_takeWanted_24 : decode cX9_takeWanted 24 = .ok (.bipush (-5), 2) := by decide +kernel
theorem dX9_takeWanted_26 : decode cX9_takeWanted 26 = .ok (.ireturn, 1) := by decide +kernel
theorem dX9_takeWanted_27 : decode cX9_takeWanted 27 = .ok (.aload_n 1, 1) := by decide +kernel
theorem dX9_takeWanted_28 : decode cX9_takeWanted 28 = .ok (.getfield 150, 3) := by decide +kernel
theorem dX9_takeWanted_31 : decode cX9_takeWanted 31 = .ok (.getfield 154, 3) := by decide +kernel
theorem dX9_takeWanted_34 : decode cX9_takeWanted 34 = .ok (.aload_n 0, 1) := by decide +kernel
theorem dX9_takeWanted_35 : decode cX9_takeWanted 35 = .ok (.getfield 67, 3) := by decide +kernel
theorem dX9_takeWanted_38 : decode cX9_takeWanted 38 = .ok (.invokestatic 139, 3) := by decide +kernel
theorem dX9_takeWanted_41 : decode cX9_takeWanted 41 = .ok (.iadd, 1) := by decide +kernel
theorem dX9_takeWanted_42 : decode cX9_takeWanted 42 = .ok (.sipush 20000, 3) := by decide +kernel
theorem dX9_takeWanted_45 : decode cX9_takeWanted 45 = .ok (.if_icmp .le 6, 3) := by decide +kernel
theorem dX9_takeWanted_48 : decode cX9_takeWanted 48 = .ok (.bipush (-6), 2) := by decide +kernel
theorem dX9_takeWanted_50 : decode cX9_takeWanted 50 = .ok (.ireturn, 1) := by decide +kernel
theorem dX9_takeWanted_51 : decode cX9_takeWanted 51 = .ok (.iconst 0, 1) := by decide +kernel
theorem dX9_takeWanted_52 : decode cX9_takeWanted 52 = .ok (.istore_n 2, 1) := by decide +kernel
theorem dX9_takeWanted_53 : decode cX9_takeWanted 53 = .ok (.iload_n 2, 1) := by decide +kernel
theorem dX9_takeWanted_54 : decode cX9_takeWanted 54 = .ok (.bipush 8, 2) := by decide +kernel
theorem dX9_takeWanted_56 : decode cX9_takeWanted 56 = .ok (.if_icmp .ge 27, 3) := by decide +kernel
theorem dX9_takeWanted_59 : decode cX9_takeWanted 59 = .ok (.aload_n 0, 1) := by decide +kernel
theorem dX9_takeWanted_60 : decode cX9_takeWanted 60 = .ok (.getfield 19, 3) := by decide +kernel
theorem dX9_takeWanted_63 : decode cX9_takeWanted 63 = .ok (.iload_n 2, 1) := by decide +kernel
theorem dX9_takeWanted_64 : decode cX9_takeWanted 64 = .ok (.aload_n 0, 1) := by decide +kernel
theorem dX9_takeWanted_65 : decode cX9_takeWanted 65 = .ok (.getfield 67, 3) := by decide +kernel
theorem dX9_takeWanted_68 : decode cX9_takeWanted 68 = .ok (.iload_n 2, 1) := by decide +kernel
theorem dX9_takeWanted_69 : decode cX9_takeWanted 69 = .ok (.iaload, 1) := by decide +kernel
theorem dX9_takeWanted_70 : decode cX9_takeWanted 70 = .ok (.aload_n 1, 1) := by decide +kernel
theorem dX9_takeWanted_71 : decode cX9_takeWanted 71 = .ok (.getfield 150, 3) := by decide +kernel
theorem dX9_takeWanted_74 : decode cX9_takeWanted 74 = .ok (.invokevirtual 300, 3) := by decide +kernel
theorem dX9_takeWanted_77 : decode cX9_takeWanted 77 = .ok (.iinc 2 1, 3) := by decide +kernel
theorem dX9_takeWanted_80 : decode cX9_takeWanted 80 = .ok (.goto (-27), 3) := by decide +kernel
theorem dX9_takeWanted_83 : decode cX9_takeWanted 83 = .ok (.aload_n 1, 1) := by decide +kernel
theorem dX9_takeWanted_84 : decode cX9_takeWanted 84 = .ok (.getfield 150, 3) := by decide +kernel
theorem dX9_takeWanted_87 : decode cX9_takeWanted 87 = .ok (.getfield 154, 3) := by decide +kernel
theorem dX9_takeWanted_90 : decode cX9_takeWanted 90 = .ok (.ireturn, 1) := by decide +kernel
theorem dX9_openBatchesWith_0 : decode cX9_openBatchesWith 0 = .ok (.iconst 0, 1) := by decide +kernel
theorem dX9_openBatchesWith_1 : decode cX9_openBatchesWith 1 = .ok (.istore_n 2, 1) := by decide +kernel
theorem dX9_openBatchesWith_2 : decode cX9_openBatchesWith 2 = .ok (.iconst 0, 1) := by decide +kernel
theorem dX9_openBatchesWith_3 : decode cX9_openBatchesWith 3 = .ok (.istore_n 3, 1) := by decide +kernel
theorem dX9_openBatchesWith_4 : decode cX9_openBatchesWith 4 = .ok (.iload_n 3, 1) := by decide +kernel
theorem dX9_openBatchesWith_5 : decode cX9_openBatchesWith 5 = .ok (.aload_n 0, 1) := by decide +kernel
theorem dX9_openBatchesWith_6 : decode cX9_openBatchesWith 6 = .ok (.getfield 36, 3) := by decide +kernel
theorem dX9_openBatchesWith_9 : decode cX9_openBatchesWith 9 = .ok (.if_icmp .ge 43, 3) := by decide +kernel
theorem dX9_openBatchesWith_12 : decode cX9_openBatchesWith 12 = .ok (.aload_n 0, 1) := by decide +kernel
theorem dX9_openBatchesWith_13 : decode cX9_openBatchesWith 13 = .ok (.getfield 32, 3) := by decide +kernel
theorem dX9_openBatchesWith_16 : decode cX9_openBatchesWith 16 = .ok (.iload_n 3, 1) := by decide +kernel
theorem dX9_openBatchesWith_17 : decode cX9_openBatchesWith 17 = .ok (.aaload, 1) := by decide +kernel
theorem dX9_openBatchesWith_18 : decode cX9_openBatchesWith 18 = .ok (.getfield 146, 3) := by decide +kernel
theorem dX9_openBatchesWith_21 : decode cX9_openBatchesWith 21 = .ok (.ifCond .ne 25, 3) := by decide +kernel
theorem dX9_openBatchesWith_24 : decode cX9_openBatchesWith 24 = .ok (.aload_n 0, 1) := by decide +kernel
theorem dX9_openBatchesWith_25 : decode cX9_openBatchesWith 25 = .ok (.getfield 32, 3) := by decide +kernel
theorem dX9_openBatchesWith_28 : decode cX9_openBatchesWith 28 = .ok (.iload_n 3, 1) := by decide +kernel
theorem dX9_openBatchesWith_29 : decode cX9_openBatchesWith 29 = .ok (.aaload, 1) := by decide +kernel
theorem dX9_openBatchesWith_30 : decode cX9_openBatchesWith 30 = .ok (.getfield 150, 3) := by decide +kernel
theorem dX9_openBatchesWith_33 : decode cX9_openBatchesWith 33 = .ok (.getfield 304, 3) := by decide +kernel
theorem dX9_openBatchesWith_36 : decode cX9_openBatchesWith 36 = .ok (.iload_n 1, 1) := by decide +kernel
theorem dX9_openBatchesWith_37 : decode cX9_openBatchesWith 37 = .ok (.invokestatic 260, 3) := by decide +kernel
theorem dX9_openBatchesWith_40 : decode cX9_openBatchesWith 40 = .ok (.ifCond .eq 6, 3) := by decide +kernel
theorem dX9_openBatchesWith_43 : decode cX9_openBatchesWith 43 = .ok (.iinc 2 1, 3) := by decide +kernel
theorem dX9_openBatchesWith_46 : decode cX9_openBatchesWith 46 = .ok (.iinc 3 1, 3) := by decide +kernel
theorem dX9_openBatchesWith_49 : decode cX9_openBatchesWith 49 = .ok (.goto (-45), 3) := by decide +kernel
theorem dX9_openBatchesWith_52 : decode cX9_openBatchesWith 52 = .ok (.iload_n 2, 1) := by decide +kernel
theorem dX9_openBatchesWith_53 : decode cX9_openBatchesWith 53 = .ok (.ireturn, 1) := by decide +kernel
theorem dX9_tanksWith_0 : decode cX9_tanksWith 0 = .ok (.iconst 0, 1) := by decide +kernel
theorem dX9_tanksWith_1 : decode cX9_tanksWith 1 = .ok (.istore_n 2, 1) := by decide +kernel
theorem dX9_tanksWith_2 : decode cX9_tanksWith 2 = .ok (.iconst 0, 1) := by decide +kernel
theorem dX9_tanksWith_3 : decode cX9_tanksWith 3 = .ok (.istore_n 3, 1) := by decide +kernel
theorem dX9_tanksWith_4 : decode cX9_tanksWith 4 = .ok (.iload_n 3, 1) := by decide +kernel
theorem dX9_tanksWith_5 : decode cX9_tanksWith 5 = .ok (.iconst 5, 1) := by decide +kernel
theorem dX9_tanksWith_6 : decode cX9_tanksWith 6 = .ok (.if_icmp .ge 43, 3) := by decide +kernel
theorem dX9_tanksWith_9 : decode cX9_tanksWith 9 = .ok (.aload_n 0, 1) := by decide +kernel
theorem dX9_tanksWith_10 : decode cX9_tanksWith 10 = .ok (.getfield 49, 3) := by decide +kernel
theorem dX9_tanksWith_13 : decode cX9_tanksWith 13 = .ok (.iload_n 3, 1) := by decide +kernel
theorem dX9_tanksWith_14 : decode cX9_tanksWith 14 = .ok (.aaload, 1) := by decide +kernel
theorem dX9_tanksWith_15 : decode cX9_tanksWith 15 = .ok (.getfield 202, 3) := by decide +kernel
theorem dX9_tanksWith_18 : decode cX9_tanksWith 18 = .ok (.ifCond .le 25, 3) := by decide +kernel
theorem dX9_tanksWith_21 : decode cX9_tanksWith 21 = .ok (.aload_n 0, 1) := by decide +kernel
theorem dX9_tanksWith_22 : decode cX9_tanksWith 22 = .ok (.getfield 49, 3) := by decide +kernel
theorem dX9_tanksWith_25 : decode cX9_tanksWith 25 = .ok (.iload_n 3, 1) := by decide +kernel
theorem dX9_tanksWith_26 : decode cX9_tanksWith 26 = .ok (.aaload, 1) := by decide +kernel
theorem dX9_tanksWith_27 : decode cX9_tanksWith 27 = .ok (.getfield 234, 3) := by decide +kernel
theorem dX9_tanksWith_30 : decode cX9_tanksWith 30 = .ok (.getfield 304, 3) := by decide +kernel
theorem dX9_tanksWith_33 : decode cX9_tanksWith 33 = .ok (.iload_n 1, 1) := by decide +kernel
theorem dX9_tanksWith_34 : decode cX9_tanksWith 34 = .ok (.invokestatic 260, 3) := by decide +kernel
theorem dX9_tanksWith_37 : decode cX9_tanksWith 37 = .ok (.ifCond .eq 6, 3) := by decide +kernel
theorem dX9_tanksWith_40 : decode cX9_tanksWith 40 = .ok (.iinc 2 1, 3) := by decide +kernel
theorem dX9_tanksWith_43 : decode cX9_tanksWith 43 = .ok (.iinc 3 1, 3) := by decide +kernel
theorem dX9_tanksWith_46 : decode cX9_tanksWith 46 = .ok (.goto (-42), 3) := by decide +kernel
theorem dX9_tanksWith_49 : decode cX9_tanksWith 49 = .ok (.iload_n 2, 1) := by decide +kernel
theorem dX9_tanksWith_50 : decode cX9_tanksWith 50 = .ok (.ireturn, 1) := by decide +kernel
theorem dX9_within_0 : decode cX9_within 0 = .ok (.iload_n 0, 1) := by decide +kernel
theorem dX9_within_1 : decode cX9_within 1 = .ok (.iload_n 1, 1) := by decide +kernel
theorem dX9_within_2 : decode cX9_within 2 = .ok (.if_icmp .lt 12, 3) := by decide +kernel
theorem dX9_within_5 : decode cX9_within 5 = .ok (.iload_n 0, 1) := by decide +kernel
theorem dX9_within_6 : decode cX9_within 6 = .ok (.iload_n 2, 1) := by decide +kernel
theorem dX9_within_7 : decode cX9_within 7 = .ok (.if_icmp .gt 7, 3) := by decide +kernel
theorem dX9_within_10 : decode cX9_within 10 = .ok (.iconst 1, 1) := by decide +kernel
theorem dX9_within_11 : decode cX9_within 11 = .ok (.goto 4, 3) := by decide +kernel
theorem dX9_within_14 : decode cX9_within 14 = .ok (.iconst 0, 1) := by decide +kernel
theorem dX9_within_15 : decode cX9_within 15 = .ok (.ireturn, 1) := by decide +kernel
theorem dX9_isStrength_0 : decode cX9_isStrength 0 = .ok (.iload_n 0, 1) := by decide +kernel
theorem dX9_isStrength_1 : decode cX9_isStrength 1 = .ok (.iconst 0, 1) := by decide +kernel
theorem dX9_isStrength_2 : decode cX9_isStrength 2 = .ok (.sipush 1000, 3) := by decide +kernel
theorem dX9_isStrength_5 : decode cX9_isStrength 5 = .ok (.invokestatic 97, 3) := by decide +kernel
theorem dX9_isStrength_8 : decode cX9_isStrength 8 = .ok (.ireturn, 1) := by decide +kernel
theorem dX9_isBand_0 : decode cX9_isBand 0 = .ok (.iload_n 0, 1) := by decide +kernel
theorem dX9_isBand_1 : decode cX9_isBand 1 = .ok (.iconst 0, 1) := by decide +kernel
theorem dX9_isBand_2 : decode cX9_isBand 2 = .ok (.iconst 2, 1) := by decide +kernel
theorem dX9_isBand_3 : decode cX9_isBand 3 = .ok (.invokestatic 97, 3) := by decide +kernel
theorem dX9_isBand_6 : decode cX9_isBand 6 = .ok (.ireturn, 1) := by decide +kernel
theorem dX9_isTank_0 : decode cX9_isTank 0 = .ok (.iload_n 0, 1) := by decide +kernel
theorem dX9_isTank_1 : decode cX9_isTank 1 = .ok (.iconst 0, 1) := by decide +kernel
theorem dX9_isTank_2 : decode cX9_isTank 2 = .ok (.iconst 4, 1) := by decide +kernel
theorem dX9_isTank_3 : decode cX9_isTank 3 = .ok (.invokestatic 97, 3) := by decide +kernel
theorem dX9_isTank_6 : decode cX9_isTank 6 = .ok (.ireturn, 1) := by decide +kernel
theorem dX9_isHue_0 : decode cX9_isHue 0 = .ok (.iload_n 0, 1) := by decide +kernel
theorem dX9_isHue_1 : decode cX9_isHue 1 = .ok (.iconst 0, 1) := by decide +kernel
theorem dX9_isHue_2 : decode cX9_isHue 2 = .ok (.iconst 5, 1) := by decide +kernel
theorem dX9_isHue_3 : decode cX9_isHue 3 = .ok (.invokestatic 97, 3) := by decide +kernel
theorem dX9_isHue_6 : decode cX9_isHue 6 = .ok (.ireturn, 1) := by decide +kernel
theorem dX9_isAim_0 : decode cX9_isAim 0 = .ok (.iload_n 0, 1) := by decide +kernel
theorem dX9_isAim_1 : decode cX9_isAim 1 = .ok (.iconst 0, 1) := by decide +kernel
theorem dX9_isAim_2 : decode cX9_isAim 2 = .ok (.ldc 208, 2) := by decide +kernel
theorem dX9_isAim_4 : decode cX9_isAim 4 = .ok (.invokestatic 97, 3) := by decide +kernel
theorem dX9_isAim_7 : decode cX9_isAim 7 = .ok (.ifCond .eq 27, 3) := by decide +kernel
theorem dX9_isAim_10 : decode cX9_isAim 10 = .ok (.iload_n 1, 1) := by decide +kernel
theorem dX9_isAim_11 : decode cX9_isAim 11 = .ok (.iconst 0, 1) := by decide +kernel
theorem dX9_isAim_12 : decode cX9_isAim 12 = .ok (.ldc 208, 2) := by decide +kernel
theorem dX9_isAim_14 : decode cX9_isAim 14 = .ok (.invokestatic 97, 3) := by decide +kernel
theorem dX9_isAim_17 : decode cX9_isAim 17 = .ok (.ifCond .eq 17, 3) := by decide +kernel
theorem dX9_isAim_20 : decode cX9_isAim 20 = .ok (.iload_n 2, 1) := by decide +kernel
theorem dX9_isAim_21 : decode cX9_isAim 21 = .ok (.iconst 0, 1) := by decide +kernel
theorem dX9_isAim_22 : decode cX9_isAim 22 = .ok (.ldc 208, 2) := by decide +kernel
theorem dX9_isAim_24 : decode cX9_isAim 24 = .ok (.invokestatic 97, 3) := by decide +kernel
theorem dX9_isAim_27 : decode cX9_isAim 27 = .ok (.ifCond .eq 7, 3) := by decide +kernel
theorem dX9_isAim_30 : decode cX9_isAim 30 = .ok (.iconst 1, 1) := by decide +kernel
theorem dX9_isAim_31 : decode cX9_isAim 31 = .ok (.goto 4, 3) := by decide +kernel
theorem dX9_isAim_34 : decode cX9_isAim 34 = .ok (.iconst 0, 1) := by decide +kernel
theorem dX9_isAim_35 : decode cX9_isAim 35 = .ok (.ireturn, 1) := by decide +kernel
theorem dX9_hasBit_0 : decode cX9_hasBit 0 = .ok (.lload_n 0, 1) := by decide +kernel
theorem dX9_hasBit_1 : decode cX9_hasBit 1 = .ok (.iload_n 2, 1) := by decide +kernel
theorem dX9_hasBit_2 : decode cX9_hasBit 2 = .ok (.lshr, 1) := by decide +kernel
theorem dX9_hasBit_3 : decode cX9_hasBit 3 = .ok (.lconst 1, 1) := by decide +kernel
theorem dX9_hasBit_4 : decode cX9_hasBit 4 = .ok (.land, 1) := by decide +kernel
theorem dX9_hasBit_5 : decode cX9_hasBit 5 = .ok (.lconst 0, 1) := by decide +kernel
theorem dX9_hasBit_6 : decode cX9_hasBit 6 = .ok (.lcmp, 1) := by decide +kernel
theorem dX9_hasBit_7 : decode cX9_hasBit 7 = .ok (.ifCond .eq 7, 3) := by decide +kernel
theorem dX9_hasBit_10 : decode cX9_hasBit 10 = .ok (.iconst 1, 1) := by decide +kernel
theorem dX9_hasBit_11 : decode cX9_hasBit 11 = .ok (.goto 4, 3) := by decide +kernel
theorem dX9_hasBit_14 : decode cX9_hasBit 14 = .ok (.iconst 0, 1) := by decide +kernel
theorem dX9_hasBit_15 : decode cX9_hasBit 15 = .ok (.ireturn, 1) := by decide +kernel
theorem dX9_sum_0 : decode cX9_sum 0 = .ok (.iconst 0, 1) := by decide +kernel
theorem dX9_sum_1 : decode cX9_sum 1 = .ok (.istore_n 1, 1) := by decide +kernel
theorem dX9_sum_2 : decode cX9_sum 2 = .ok (.iconst 0, 1) := by decide +kernel
theorem dX9_sum_3 : decode cX9_sum 3 = .ok (.istore_n 2, 1) := by decide +kernel
theorem dX9_sum_4 : decode cX9_sum 4 = .ok (.iload_n 2, 1) := by decide +kernel
theorem dX9_sum_5 : decode cX9_sum 5 = .ok (.aload_n 0, 1) := by decide +kernel
theorem dX9_sum_6 : decode cX9_sum 6 = .ok (.arraylength, 1) := by decide +kernel
theorem dX9_sum_7 : decode cX9_sum 7 = .ok (.if_icmp .ge 15, 3) := by decide +kernel
theorem dX9_sum_10 : decode cX9_sum 10 = .ok (.iload_n 1, 1) := by decide +kernel
theorem dX9_sum_11 : decode cX9_sum 11 = .ok (.aload_n 0, 1) := by decide +kernel
theorem dX9_sum_12 : decode cX9_sum 12 = .ok (.iload_n 2, 1) := by decide +kernel
theorem dX9_sum_13 : decode cX9_sum 13 = .ok (.iaload, 1) := by decide +kernel
theorem dX9_sum_14 : decode cX9_sum 14 = .ok (.iadd, 1) := by decide +kernel
theorem dX9_sum_15 : decode cX9_sum 15 = .ok (.istore_n 1, 1) := by decide +kernel
theorem dX9_sum_16 : decode cX9_sum 16 = .ok (.iinc 2 1, 3) := by decide +kernel
theorem dX9_sum_19 : decode cX9_sum 19 = .ok (.goto (-15), 3) := by decide +kernel
theorem dX9_sum_22 : decode cX9_sum 22 = .ok (.iload_n 1, 1) := by decide +kernel
theorem dX9_sum_23 : decode cX9_sum 23 = .ok (.ireturn, 1) := by decide +kernel
theorem dX9_shadeOfSums_0 : decode cX9_shadeOfSums 0 = .ok (.lload_n 2, 1) := by decide +kernel
theorem dX9_shadeOfSums_1 : decode cX9_shadeOfSums 1 = .ok (.lconst 0, 1) := by decide +kernel
theorem dX9_shadeOfSums_2 : decode cX9_shadeOfSums 2 = .ok (.lcmp, 1) := by decide +kernel
theorem dX9_shadeOfSums_3 : decode cX9_shadeOfSums 3 = .ok (.ifCond .ne 6, 3) := by decide +kernel
theorem dX9_shadeOfSums_6 : decode cX9_shadeOfSums 6 = .ok (.ldc 208, 2) := by decide +kernel
theorem dX9_shadeOfSums_8 : decode cX9_shadeOfSums 8 = .ok (.ireturn, 1) := by decide +kernel
theorem dX9_shadeOfSums_9 : decode cX9_shadeOfSums 9 = .ok (.ldc2_w 307, 3) := by decide +kernel
theorem dX9_shadeOfSums_12 : decode cX9_shadeOfSums 12 = .ok (.ldc2_w 309, 3) := by decide +kernel
theorem dX9_shadeOfSums_15 : decode cX9_shadeOfSums 15 = .ok (.lload_n 0, 1) := by decide +kernel
theorem dX9_shadeOfSums_16 : decode cX9_shadeOfSums 16 = .ok (.lmul, 1) := by decide +kernel
theorem dX9_shadeOfSums_17 : decode cX9_shadeOfSums 17 = .ok (.lload_n 2, 1) := by decide +kernel
theorem dX9_shadeOfSums_18 : decode cX9_shadeOfSums 18 = .ok (.ldiv, 1) := by decide +kernel
theorem dX9_shadeOfSums_19 : decode cX9_shadeOfSums 19 = .ok (.invokestatic 311, 3) := by decide +kernel
theorem dX9_shadeOfSums_22 : decode cX9_shadeOfSums 22 = .ok (.l2i, 1) := by decide +kernel
theorem dX9_shadeOfSums_23 : decode cX9_shadeOfSums 23 = .ok (.ireturn, 1) := by decide +kernel
