theorem dX10_dropIn_110 : decode cX10_dropIn 110 = .ok (.iaload, 1) := by decide +kernel
theorem dX10_dropIn_111 : decode cX10_dropIn 111 = .ok (.ifCond .le 15, 3) := by decide +kernel
theorem dX10_dropIn_114 : decode cX10_dropIn 114 = .ok (.aload_n 0, 1) := by decide +kernel
theorem dX10_dropIn_115 : decode cX10_dropIn 115 = .ok (.iload_n 1, 1) := by decide +kernel
theorem dX10_dropIn_116 : decode cX10_dropIn 116 = .ok (.iload_n 3, 1) := by decide +kernel
theorem dX10_dropIn_117 : decode cX10_dropIn 117 = .ok (.aload_n 0, 1) := by decide +kernel
theorem dX10_dropIn_118 : decode cX10_dropIn 118 = .ok (.getfield 54, 3) := by decide +kernel
theorem dX10_dropIn_121 : decode cX10_dropIn 121 = .ok (.iload_n 3, 1) := by decide +kernel
theorem dX10_dropIn_122 : decode cX10_dropIn 122 = .ok (.iaload, 1) := by decide +kernel
theorem dX10_dropIn_123 : decode cX10_dropIn 123 = .ok (.invokevirtual 171, 3) := by decide +kernel
theorem dX10_dropIn_126 : decode cX10_dropIn 126 = .ok (.iinc 3 1, 3) := by decide +kernel
theorem dX10_dropIn_129 : decode cX10_dropIn 129 = .ok (.goto (-30), 3) := by decide +kernel
theorem dX10_dropIn_132 : decode cX10_dropIn 132 = .ok (.aload_n 0, 1) := by decide +kernel
theorem dX10_dropIn_133 : decode cX10_dropIn 133 = .ok (.iload_n 1, 1) := by decide +kernel
theorem dX10_dropIn_134 : decode cX10_dropIn 134 = .ok (.invokevirtual 168, 3) := by decide +kernel
theorem dX10_dropIn_137 : decode cX10_dropIn 137 = .ok (.ireturn, 1) := by decide +kernel
theorem dX10_amount_0 : decode cX10_amount 0 = .ok (.aload_n 0, 1) := by decide +kernel
theorem dX10_amount_1 : decode cX10_amount 1 = .ok (.iload_n 1, 1) := by decide +kernel
theorem dX10_amount_2 : decode cX10_amount 2 = .ok (.invokevirtual 165, 3) := by decide +kernel
theorem dX10_amount_5 : decode cX10_amount 5 = .ok (.ifCond .eq 25, 3) := by decide +kernel
theorem dX10_amount_8 : decode cX10_amount 8 = .ok (.aload_n 0, 1) := by decide +kernel
theorem dX10_amount_9 : decode cX10_amount 9 = .ok (.iload_n 2, 1) := by decide +kernel
theorem dX10_amount_10 : decode cX10_amount 10 = .ok (.invokevirtual 140, 3) := by decide +kernel
theorem dX10_amount_13 : decode cX10_amount 13 = .ok (.ifCond .eq 17, 3) := by decide +kernel
theorem dX10_amount_16 : decode cX10_amount 16 = .ok (.aload_n 0, 1) := by decide +kernel
theorem dX10_amount_17 : decode cX10_amount 17 = .ok (.getfield 44, 3) := by decide +kernel
theorem dX10_amount_20 : decode cX10_amount 20 = .ok (.bipush 8, 2) := by decide +kernel
theorem dX10_amount_22 : decode cX10_amount 22 = .ok (.iload_n 1, 1) := by decide +kernel
theorem dX10_amount_23 : decode cX10_amount 23 = .ok (.imul, 1) := by decide +kernel
theorem dX10_amount_24 : decode cX10_amount 24 = .ok (.iload_n 2, 1) := by decide +kernel
theorem dX10_amount_25 : decode cX10_amount 25 = .ok (.iadd, 1) := by decide +kernel
theorem dX10_amount_26 : decode cX10_amount 26 = .ok (.iaload, 1) := by decide +kernel
theorem dX10_amount_27 : decode cX10_amount 27 = .ok (.goto 5, 3) := by decide +kernel
theorem dX10_amount_30 : decode cX10_amount 30 = .ok (.bipush (-2), 2) := by decide +kernel
theorem dX10_amount_32 : decode cX10_amount 32 = .ok (.ireturn, 1) := by decide +kernel
theorem dX10_shade_0 : decode cX10_shade 0 = .ok (.aload_n 0, 1) := by decide +kernel
theorem dX10_shade_1 : decode cX10_shade 1 = .ok (.iload_n 1, 1) := by decide +kernel
theorem dX10_shade_2 : decode cX10_shade 2 = .ok (.invokevirtual 165, 3) := by decide +kernel
theorem dX10_shade_5 : decode cX10_shade 5 = .ok (.ifCond .eq 12, 3) := by decide +kernel
theorem dX10_shade_8 : decode cX10_shade 8 = .ok (.iload_n 2, 1) := by decide +kernel
theorem dX10_shade_9 : decode cX10_shade 9 = .ok (.iconst 0, 1) := by decide +kernel
theorem dX10_shade_10 : decode cX10_shade 10 = .ok (.iconst 2, 1) := by decide +kernel
theorem dX10_shade_11 : decode cX10_shade 11 = .ok (.invokestatic 133, 3) := by decide +kernel
theorem dX10_shade_14 : decode cX10_shade 14 = .ok (.ifCond .ne 6, 3) := by decide +kernel
theorem dX10_shade_17 : decode cX10_shade 17 = .ok (.bipush (-2), 2) := by decide +kernel
theorem dX10_shade_19 : decode cX10_shade 19 = .ok (.ireturn, 1) := by decide +kernel
theorem dX10_shade_20 : decode cX10_shade 20 = .ok (.aload_n 0, 1) := by decide +kernel
theorem dX10_shade_21 : decode cX10_shade 21 = .ok (.iload_n 1, 1) := by decide +kernel
theorem dX10_shade_22 : decode cX10_shade 22 = .ok (.invokevirtual 168, 3) := by decide +kernel
theorem dX10_shade_25 : decode cX10_shade 25 = .ok (.ifCond .ne 8, 3) := by decide +kernel
theorem dX10_shade_28 : decode cX10_shade 28 = .ok (.bipush (-4), 2) := by decide +kernel
theorem dX10_shade_30 : decode cX10_shade 30 = .ok (.goto 20, 3) := by decide +kernel
theorem dX10_shade_33 : decode cX10_shade 33 = .ok (.aload_n 0, 1) := by decide +kernel
theorem dX10_shade_34 : decode cX10_shade 34 = .ok (.aload_n 0, 1) := by decide +kernel
theorem dX10_shade_35 : decode cX10_shade 35 = .ok (.getfield 44, 3) := by decide +kernel
theorem dX10_shade_38 : decode cX10_shade 38 = .ok (.bipush 8, 2) := by decide +kernel
theorem dX10_shade_40 : decode cX10_shade 40 = .ok (.iload_n 1, 1) := by decide +kernel
theorem dX10_shade_41 : decode cX10_shade 41 = .ok (.imul, 1) := by decide +kernel
theorem dX10_shade_42 : decode cX10_shade 42 = .ok (.aload_n 0, 1) := by decide +kernel
theorem dX10_shade_43 : decode cX10_shade 43 = .ok (.getfield 124, 3) := by decide +kernel
theorem dX10_shade_46 : decode cX10_shade 46 = .ok (.iload_n 2, 1) := by decide +kernel
theorem dX10_shade_47 : decode cX10_shade 47 = .ok (.invokevirtual 180, 3) := by decide +kernel
theorem dX10_shade_50 : decode cX10_shade 50 = .ok (.ireturn, 1) := by decide +kernel
theorem dX10_miss_0 : decode cX10_miss 0 = .ok (.aload_n 0, 1) := by decide +kernel
theorem dX10_miss_1 : decode cX10_miss 1 = .ok (.iload_n 1, 1) := by decide +kernel
theorem dX10_miss_2 : decode cX10_miss 2 = .ok (.invokevirtual 165, 3) := by decide +kernel
theorem dX10_miss_5 : decode cX10_miss 5 = .ok (.ifCond .ne 6, 3) := by decide +kernel
theorem dX10_miss_8 : decode cX10_miss 8 = .ok (.bipush (-2), 2) := by decide +kernel
theorem dX10_miss_10 : decode cX10_miss 10 = .ok (.ireturn, 1) := by decide +kernel
theorem dX10_miss_11 : decode cX10_miss 11 = .ok (.iload_n 2, 1) := by decide +kernel
theorem dX10_miss_12 : decode cX10_miss 12 = .ok (.iload_n 3, 1) := by decide +kernel
theorem dX10_miss_13 : decode cX10_miss 13 = .ok (.iload 4, 2) := by decide +kernel
theorem dX10_miss_15 : decode cX10_miss 15 = .ok (.invokestatic 184, 3) := by decide +kernel
theorem dX10_miss_18 : decode cX10_miss 18 = .ok (.ifCond .ne 6, 3) := by decide +kernel
theorem dX10_miss_21 : decode cX10_miss 21 = .ok (.bipush (-3), 2) := by decide +kernel
theorem dX10_miss_23 : decode cX10_miss 23 = .ok (.ireturn, 1) := by decide +kernel
theorem dX10_miss_24 : decode cX10_miss 24 = .ok (.aload_n 0, 1) := by decide +kernel
theorem dX10_miss_25 : decode cX10_miss 25 = .ok (.iload_n 1, 1) := by decide +kernel
theorem dX10_miss_26 : decode cX10_miss 26 = .ok (.invokevirtual 168, 3) := by decide +kernel
theorem dX10_miss_29 : decode cX10_miss 29 = .ok (.ifCond .ne 8, 3) := by decide +kernel
theorem dX10_miss_32 : decode cX10_miss 32 = .ok (.bipush (-4), 2) := by decide +kernel
theorem dX10_miss_34 : decode cX10_miss 34 = .ok (.goto 16, 3) := by decide +kernel
theorem dX10_miss_37 : decode cX10_miss 37 = .ok (.aload_n 0, 1) := by decide +kernel
theorem dX10_miss_38 : decode cX10_miss 38 = .ok (.iload_n 1, 1) := by decide +kernel
theorem dX10_miss_39 : decode cX10_miss 39 = .ok (.aload_n 0, 1) := by decide +kernel
theorem dX10_miss_40 : decode cX10_miss 40 = .ok (.getfield 124, 3) := by decide +kernel
theorem dX10_miss_43 : decode cX10_miss 43 = .ok (.iload_n 2, 1) := by decide +kernel
theorem dX10_miss_44 : decode cX10_miss 44 = .ok (.iload_n 3, 1) := by decide +kernel
theorem dX10_miss_45 : decode cX10_miss 45 = .ok (.iload 4, 2) := by decide +kernel
theorem dX10_miss_47 : decode cX10_miss 47 = .ok (.invokevirtual 187, 3) := by decide +kernel
theorem dX10_miss_50 : decode cX10_miss 50 = .ok (.ireturn, 1) := by decide +kernel
theorem dX10_holds_0 : decode cX10_holds 0 = .ok (.iload_n 1, 1) := by decide +kernel
theorem dX10_holds_1 : decode cX10_holds 1 = .ok (.invokestatic 199, 3) := by decide +kernel
theorem dX10_holds_4 : decode cX10_holds 4 = .ok (.ifCond .ne 6, 3) := by decide +kernel
theorem dX10_holds_7 : decode cX10_holds 7 = .ok (.bipush (-2), 2) := by decide +kernel
theorem dX10_holds_9 : decode cX10_holds 9 = .ok (.ireturn, 1) := by decide +kernel
theorem dX10_holds_10 : decode cX10_holds 10 = .ok (.iload_n 2, 1) := by decide +kernel
theorem dX10_holds_11 : decode cX10_holds 11 = .ok (.iconst 1, 1) := by decide +kernel
theorem dX10_holds_12 : decode cX10_holds 12 = .ok (.ldc 202, 2) := by decide +kernel
theorem dX10_holds_14 : decode cX10_holds 14 = .ok (.invokestatic 133, 3) := by decide +kernel
theorem dX10_holds_17 : decode cX10_holds 17 = .ok (.ifCond .ne 6, 3) := by decide +kernel
theorem dX10_holds_20 : decode cX10_holds 20 = .ok (.bipush (-3), 2) := by decide +kernel
theorem dX10_holds_22 : decode cX10_holds 22 = .ok (.ireturn, 1) := by decide +kernel
theorem dX10_holds_23 : decode cX10_holds 23 = .ok (.aload_n 0, 1) := by decide +kernel
theorem dX10_holds_24 : decode cX10_holds 24 = .ok (.getfield 63, 3) := by decide +kernel
theorem dX10_holds_27 : decode cX10_holds 27 = .ok (.iload_n 1, 1) := by decide +kernel
theorem dX10_holds_28 : decode cX10_holds 28 = .ok (.iaload, 1) := by decide +kernel
theorem dX10_holds_29 : decode cX10_holds 29 = .ok (.iload_n 2, 1) := by decide +kernel
theorem dX10_holds_30 : decode cX10_holds 30 = .ok (.if_icmp .le 6, 3) := by decide +kernel
theorem dX10_holds_33 : decode cX10_holds 33 = .ok (.bipush (-4), 2) := by decide +kernel
theorem dX10_holds_35 : decode cX10_holds 35 = .ok (.ireturn, 1) := by decide +kernel
theorem dX10_holds_36 : decode cX10_holds 36 = .ok (.aload_n 0, 1) := by decide +kernel
theorem dX10_holds_37 : decode cX10_holds 37 = .ok (.getfield 60, 3) := by decide +kernel
theorem dX10_holds_40 : decode cX10_holds 40 = .ok (.iload_n 1, 1) := by decide +kernel
theorem dX10_holds_41 : decode cX10_holds 41 = .ok (.iaload, 1) := by decide +kernel
theorem dX10_holds_42 : decode cX10_holds 42 = .ok (.istore_n 3, 1) := by decide +kernel
theorem dX10_holds_43 : decode cX10_holds 43 = .ok (.aload_n 0, 1) := by decide +kernel
theorem dX10_holds_44 : decode cX10_holds 44 = .ok (.getfield 60, 3) := by decide +kernel
theorem dX10_holds_47 : decode cX10_holds 47 = .ok (.iload_n 1, 1) := by decide +kernel
theorem dX10_holds_48 : decode cX10_holds 48 = .ok (.iload_n 2, 1) := by decide +kernel
theorem dX10_holds_49 : decode cX10_holds 49 = .ok (.iastore, 1) := by decide +kernel
theorem dX10_holds_50 : decode cX10_holds 50 = .ok (.iload_n 3, 1) := by decide +kernel
theorem dX10_holds_51 : decode cX10_holds 51 = .ok (.ireturn, 1) := by decide +kernel
theorem dX10_limit_0 : decode cX10_limit 0 = .ok (.iload_n 1, 1) := by decide +kernel
theorem dX10_limit_1 : decode cX10_limit 1 = .ok (.iconst 0, 1) := by decide +kernel
theorem dX10_limit_2 : decode cX10_limit 2 = .ok (.ldc 175, 2) := by decide +kernel
theorem dX10_limit_4 : decode cX10_limit 4 = .ok (.invokestatic 133, 3) := by decide +kernel
theorem dX10_limit_7 : decode cX10_limit 7 = .ok (.ifCond .ne 6, 3) := by decide +kernel
theorem dX10_limit_10 : decode cX10_limit 10 = .ok (.bipush (-3), 2) := by decide +kernel
theorem dX10_limit_12 : decode cX10_limit 12 = .ok (.ireturn, 1) := by decide +kernel
theorem dX10_limit_13 : decode cX10_limit 13 = .ok (.aload_n 0, 1) := by decide +kernel
theorem dX10_limit_14 : decode cX10_limit 14 = .ok (.getfield 84, 3) := by decide +kernel
theorem dX10_limit_17 : decode cX10_limit 17 = .ok (.istore_n 2, 1) := by decide +kernel
theorem dX10_limit_18 : decode cX10_limit 18 = .ok (.aload_n 0, 1) := by decide +kernel
theorem dX10_limit_19 : decode cX10_limit 19 = .ok (.iload_n 1, 1) := by decide +kernel
theorem dX10_limit_20 : decode cX10_limit 20 = .ok (.putfield 84, 3) := by decide +kernel
theorem dX10_limit_23 : decode cX10_limit 23 = .ok (.iload_n 2, 1) := by decide +kernel
theorem dX10_limit_24 : decode cX10_limit 24 = .ok (.ireturn, 1) := by decide +kernel
theorem dX10_mayPour_0 : decode cX10_mayPour 0 = .ok (.aload_n 0, 1) := by decide +kernel
theorem dX10_mayPour_1 : decode cX10_mayPour 1 = .ok (.getfield 63, 3) := by decide +kernel
theorem dX10_mayPour_4 : decode cX10_mayPour 4 = .ok (.iload_n 2, 1) := by decide +kernel
theorem dX10_mayPour_5 : decode cX10_mayPour 5 = .ok (.iaload, 1) := by decide +kernel
theorem dX10_mayPour_6 : decode cX10_mayPour 6 = .ok (.ifCond .ne 14, 3) := by decide +kernel
theorem dX10_mayPour_9 : decode cX10_mayPour 9 = .ok (.aload_n 0, 1) := by decide +kernel
theorem dX10_mayPour_10 : decode cX10_mayPour 10 = .ok (.getfield 66, 3) := by decide +kernel
theorem dX10_mayPour_13 : decode cX10_mayPour 13 = .ok (.iload_n 2, 1) := by decide +kernel
theorem dX10_mayPour_14 : decode cX10_mayPour 14 = .ok (.baload, 1) := by decide +kernel
theorem dX10_mayPour_15 : decode cX10_mayPour 15 = .ok (.ifCond .ne 5, 3) := by decide +kernel
theorem dX10_mayPour_18 : decode cX10_mayPour 18 = .ok (.iconst 1, 1) := by decide +kernel
theorem dX10_mayPour_19 : decode cX10_mayPour 19 = .ok (.ireturn, 1) := by decide +kernel
theorem dX10_mayPour_20 : decode cX10_mayPour 20 = .ok (.aload_n 0, 1) := by decide +kernel
theorem dX10_mayPour_21 : decode cX10_mayPour 21 = .ok (.getfield 63, 3) := by decide +kernel
theorem dX10_mayPour_24 : decode cX10_mayPour 24 = .ok (.iload_n 2, 1) := by decide +kernel
theorem dX10_mayPour_25 : decode cX10_mayPour 25 = .ok (.iaload, 1) := by decide +kernel
theorem dX10_mayPour_26 : decode cX10_mayPour 26 = .ok (.ifCond .le 14, 3) := by decide +kernel
theorem dX10_mayPour_29 : decode cX10_mayPour 29 = .ok (.aload_n 0, 1) := by decide +kernel
theorem dX10_mayPour_30 : decode cX10_mayPour 30 = .ok (.getfield 69, 3) := by decide +kernel
theorem dX10_mayPour_33 : decode cX10_mayPour 33 = .ok (.iload_n 2, 1) := by decide +kernel
theorem dX10_mayPour_34 : decode cX10_mayPour 34 = .ok (.baload, 1) := by decide +kernel
theorem dX10_mayPour_35 : decode cX10_mayPour 35 = .ok (.ifCond .eq 5, 3) := by decide +kernel
theorem dX10_mayPour_38 : decode cX10_mayPour 38 = .ok (.iconst 0, 1) := by decide +kernel
theorem dX10_mayPour_39 : decode cX10_mayPour 39 = .ok (.ireturn, 1) := by decide +kernel
theorem dX10_mayPour_40 : decode cX10_mayPour 40 = .ok (.iconst 1, 1) := by decide +kernel
theorem dX10_mayPour_41 : decode cX10_mayPour 41 = .ok (.istore_n 3, 1) := by decide +kernel
theorem dX10_mayPour_42 : decode cX10_mayPour 42 = .ok (.iconst 0, 1) := by decide +kernel
theorem dX10_mayPour_43 : decode cX10_mayPour 43 = .ok (.istore 4, 2) := by decide +kernel
theorem dX10_mayPour_45 : decode cX10_mayPour 45 = .ok (.iload 4, 2) := by decide +kernel
theorem dX10_mayPour_47 : decode cX10_mayPour 47 = .ok (.iconst 3, 1) := by decide +kernel
theorem dX10_mayPour_48 : decode cX10_mayPour 48 = .ok (.if_icmp .ge 124, 3) := by decide +kernel
theorem dX10_mayPour_51 : decode cX10_mayPour 51 = .ok (.aload_n 0, 1) := by decide +kernel
theorem dX10_mayPour_52 : decode cX10_mayPour 52 = .ok (.aload_n 0, 1) := by decide +kernel
theorem dX10_mayPour_53 : decode cX10_mayPour 53 = .ok (.getfield 44, 3) := by decide +kernel
theorem dX10_mayPour_56 : decode cX10_mayPour 56 = .ok (.bipush 8, 2) := by decide +kernel
theorem dX10_mayPour_58 : decode cX10_mayPour 58 = .ok (.iload_n 1, 1) := by decide +kernel
theorem dX10_mayPour_59 : decode cX10_mayPour 59 = .ok (.imul, 1) := by decide +kernel
theorem dX10_mayPour_60 : decode cX10_mayPour 60 = .ok (.aload_n 0, 1) := by decide +kernel
theorem dX10_mayPour_61 : decode cX10_mayPour 61 = .ok (.getfield 124, 3) := by decide +kernel
theorem dX10_mayPour_64 : decode cX10_mayPour 64 = .ok (.iload 4, 2) := by decide +kernel
theorem dX10_mayPour_66 : decode cX10_mayPour 66 = .ok (.invokevirtual 180, 3) := by decide +kernel
theorem dX10_mayPour_69 : decode cX10_mayPour 69 = .ok (.istore 5, 2) := by decide +kernel
theorem dX10_mayPour_71 : decode cX10_mayPour 71 = .ok (.aload_n 0, 1) := by decide +kernel
theorem dX10_mayPour_72 : decode cX10_mayPour 72 = .ok (.getfield 63, 3) := by decide +kernel
theorem dX10_mayPour_75 : decode cX10_mayPour 75 = .ok (.iload_n 2, 1) := by decide +kernel
theorem dX10_mayPour_76 : decode cX10_mayPour 76 = .ok (.iaload, 1) := by decide +kernel
theorem dX10_mayPour_77 : decode cX10_mayPour 77 = .ok (.ifCond .le 27, 3) := by decide +kernel
theorem dX10_mayPour_80 : decode cX10_mayPour 80 = .ok (.aload_n 0, 1) := by decide +kernel
theorem dX10_mayPour_81 : decode cX10_mayPour 81 = .ok (.aload_n 0, 1) := by decide +kernel
theorem dX10_mayPour_82 : decode cX10_mayPour 82 = .ok (.getfield 72, 3) := by decide +kernel
theorem dX10_mayPour_85 : decode cX10_mayPour 85 = .ok (.bipush 8, 2) := by decide +kernel
theorem dX10_mayPour_87 : decode cX10_mayPour 87 = .ok (.iload_n 2, 1) := by decide +kernel
theorem dX10_mayPour_88 : decode cX10_mayPour 88 = .ok (.imul, 1) := by decide +kernel
theorem dX10_mayPour_89 : decode cX10_mayPour 89 = .ok (.aload_n 0, 1) := by decide +kernel
theorem dX10_mayPour_90 : decode cX10_mayPour 90 = .ok (.getfield 124, 3) := by decide +kernel
theorem dX10_mayPour_93 : decode cX10_mayPour 93 = .ok (.iload 4, 2) := by decide +kernel
theorem dX10_mayPour_95 : decode cX10_mayPour 95 = .ok (.invokevirtual 180, 3) := by decide +kernel
theorem dX10_mayPour_98 : decode cX10_mayPour 98 = .ok (.iload 5, 2) := by decide +kernel
theorem dX10_mayPour_100 : decode cX10_mayPour 100 = .ok (.isub, 1) := by decide +kernel
theorem dX10_mayPour_101 : decode cX10_mayPour 101 = .ok (.goto 4, 3) := by decide +kernel
theorem dX10_mayPour_104 : decode cX10_mayPour 104 = .ok (.iconst 0, 1) := by decide +kernel
theorem dX10_mayPour_105 : decode cX10_mayPour 105 = .ok (.istore 6, 2) := by decide +kernel
theorem dX10_mayPour_107 : decode cX10_mayPour 107 = .ok (.iload 6, 2) := by decide +kernel
theorem dX10_mayPour_109 : decode cX10_mayPour 109 = .ok (.ifCond .ge 9, 3) := by decide +kernel
theorem dX10_mayPour_112 : decode cX10_mayPour 112 = .ok (.iload 6, 2) := by decide +kernel
theorem dX10_mayPour_114 : decode cX10_mayPour 114 = .ok (.ineg, 1) := by decide +kernel
theorem dX10_mayPour_115 : decode cX10_mayPour 115 = .ok (.goto 5, 3) := by decide +kernel
theorem dX10_mayPour_118 : decode cX10_mayPour 118 = .ok (.iload 6, 2) := by decide +kernel
theorem dX10_mayPour_120 : decode cX10_mayPour 120 = .ok (.istore 6, 2) := by decide +kernel
theorem dX10_mayPour_122 : decode cX10_mayPour 122 = .ok (.iload_n 3, 1) := by decide +kernel
theorem dX10_mayPour_123 : decode cX10_mayPour 123 = .ok (.ifCond .eq 41, 3) := by decide +kernel
theorem dX10_mayPour_126 : decode cX10_mayPour 126 = .ok (.iload 6, 2) := by decide +kernel
theorem dX10_mayPour_128 : decode cX10_mayPour 128 = .ok (.aload_n 0, 1) := by decide +kernel
theorem dX10_mayPour_129 : decode cX10_mayPour 129 = .ok (.getfield 84, 3) := by decide +kernel
theorem dX10_mayPour_132 : decode cX10_mayPour 132 = .ok (.if_icmp .gt 32, 3) := by decide +kernel
theorem dX10_mayPour_135 : decode cX10_mayPour 135 = .ok (.aload_n 0, 1) := by decide +kernel
theorem dX10_mayPour_136 : decode cX10_mayPour 136 = .ok (.getfield 63, 3) := by decide +kernel
theorem dX10_mayPour_139 : decode cX10_mayPour 139 = .ok (.iload_n 2, 1) := by decide +kernel
theorem dX10_mayPour_140 : decode cX10_mayPour 140 = .ok (.iaload, 1) := by decide +kernel
theorem dX10_mayPour_141 : decode cX10_mayPour 141 = .ok (.ifCond .gt 19, 3) := by decide +kernel
theorem dX10_mayPour_144 : decode cX10_mayPour 144 = .ok (.iload 5, 2) := by decide +kernel
theorem dX10_mayPour_146 : decode cX10_mayPour 146 = .ok (.aload_n 0, 1) := by decide +kernel
theorem dX10_mayPour_147 : decode cX10_mayPour 147 = .ok (.getfield 81, 3) := by decide +kernel
theorem dX10_mayPour_150 : decode cX10_mayPour 150 = .ok (.iconst 3, 1) := by decide +kernel
theorem dX10_mayPour_151 : decode cX10_mayPour 151 = .ok (.iload_n 2, 1) := by decide +kernel
theorem dX10_mayPour_152 : decode cX10_mayPour 152 = .ok (.imul, 1) := by decide +kernel
theorem dX10_mayPour_153 : decode cX10_mayPour 153 = .ok (.iload 4, 2) := by decide +kernel
theorem dX10_mayPour_155 : decode cX10_mayPour 155 = .ok (.iadd, 1) := by decide +kernel
theorem dX10_mayPour_156 : decode cX10_mayPour 156 = .ok (.iaload, 1) := by decide +kernel
theorem dX10_mayPour_157 : decode cX10_mayPour 157 = .ok (.if_icmp .lt 7, 3) := by decide +kernel
theorem dX10_mayPour_160 : decode cX10_mayPour 160 = .ok (.iconst 1, 1) := by decide +kernel
theorem dX10_mayPour_161 : decode cX10_mayPour 161 = .ok (.goto 4, 3) := by decide +kernel
theorem dX10_mayPour_164 : decode cX10_mayPour 164 = .ok (.iconst 0, 1) := by decide +kernel
theorem dX10_mayPour_165 : decode cX10_mayPour 165 = .ok (.istore_n 3, 1) := by decide +kernel
theorem dX10_mayPour_166 : decode cX10_mayPour 166 = .ok (.iinc 4 1, 3) := by decide +kernel
theorem dX10_mayPour_169 : decode cX10_mayPour 169 = .ok (.goto (-124), 3) := by decide +kernel
theorem dX10_mayPour_172 : decode cX10_mayPour 172 = .ok (.iload_n 3, 1) := by decide +kernel
theorem dX10_mayPour_173 : decode cX10_mayPour 173 = .ok (.ireturn, 1) := by decide +kernel
theorem dX10_pour_0 : decode cX10_pour 0 = .ok (.aload_n 0, 1) := by decide +kernel
theorem dX10_pour_1 : decode cX10_pour 1 = .ok (.iload_n 1, 1) := by decide +kernel
theorem dX10_pour_2 : decode cX10_pour 2 = .ok (.invokevirtual 165, 3) := by decide +kernel
theorem dX10_pour_5 : decode cX10_pour 5 = .ok (.ifCond .eq 10, 3) := by decide +kernel
theorem dX10_pour_8 : decode cX10_pour 8 = .ok (.iload_n 2, 1) := by decide +kernel
theorem dX10_pour_9 : decode cX10_pour 9 = .ok (.invokestatic 199, 3) := by decide +kernel
theorem dX10_pour_12 : decode cX10_pour 12 = .ok (.ifCond .ne 6, 3) := by decide +kernel
theorem dX10_pour_15 : decode cX10_pour 15 = .ok (.bipush (-2), 2) := by decide +kernel
theorem dX10_pour_17 : decode cX10_pour 17 = .ok (.ireturn, 1) := by decide +kernel
theorem dX10_pour_18 : decode cX10_pour 18 = .ok (.aload_n 0, 1) := by decide +kernel
theorem dX10_pour_19 : decode cX10_pour 19 = .ok (.iload_n 1, 1) := by decide +kernel
theorem dX10_pour_20 : decode cX10_pour 20 = .ok (.invokevirtual 168, 3) := by decide +kernel
theorem dX10_pour_23 : decode cX10_pour 23 = .ok (.istore_n 3, 1) := by decide +kernel
theorem dX10_pour_24 : decode cX10_pour 24 = .ok (.aload_n 0, 1) := by decide +kernel
theorem dX10_pour_25 : decode cX10_pour 25 = .ok (.getfield 51, 3) := by decide +kernel
theorem dX10_pour_28 : decode cX10_pour 28 = .ok (.iload_n 1, 1) := by decide +kernel
theorem dX10_pour_29 : decode cX10_pour 29 = .ok (.baload, 1) := by decide +kernel
theorem dX10_pour_30 : decode cX10_pour 30 = .ok (.ifCond .ne 16, 3) := by decide +kernel
theorem dX10_pour_33 : decode cX10_pour 33 = .ok (.iload_n 3, 1) := by decide +kernel
theorem dX10_pour_34 : decode cX10_pour 34 = .ok (.ifCond .eq 12, 3) := by decide +kernel
theorem dX10_pour_37 : decode cX10_pour 37 = .ok (.aload_n 0, 1) := by decide +kernel
theorem dX10_pour_38 : decode cX10_pour 38 = .ok (.iload_n 1, 1) := by decide +kernel
theorem dX10_pour_39 : decode cX10_pour 39 = .ok (.iload_n 2, 1) := by decide +kernel
theorem dX10_pour_40 : decode cX10_pour 40 = .ok (.invokevirtual 203, 3) := by decide +kernel
theorem dX10_pour_43 : decode cX10_pour 43 = .ok (.ifCond .ne 6, 3) := by decide +kernel
theorem dX10_pour_46 : decode cX10_pour 46 = .ok (.bipush (-4), 2) := by decide +kernel
theorem dX10_pour_48 : decode cX10_pour 48 = .ok (.ireturn, 1) := by decide +kernel
theorem dX10_pour_49 : decode cX10_pour 49 = .ok (.aload_n 0, 1) := by decide +kernel
theorem dX10_pour_50 : decode cX10_pour 50 = .ok (.getfield 63, 3) := by decide +kernel
theorem dX10_pour_53 : decode cX10_pour 53 = .ok (.iload_n 2, 1) := by decide +kernel
theorem dX10_pour_54 : decode cX10_pour 54 = .ok (.iaload, 1) := by decide +kernel
theorem dX10_pour_55 : decode cX10_pour 55 = .ok (.iload_n 3, 1) := by decide +kernel
theorem dX10_pour_56 : decode cX10_pour 56 = .ok (.iadd, 1) := by decide +kernel
theorem dX10_pour_57 : decode cX10_pour 57 = .ok (.aload_n 0, 1) := by decide +kernel
theorem dX10_pour_58 : decode cX10_pour 58 = .ok (.getfield 60, 3) := by decide +kernel
theorem dX10_pour_61 : decode cX10_pour 61 = .ok (.iload_n 2, 1) := by decide +kernel
theorem dX10_pour_62 : decode cX10_pour 62 = .ok (.iaload, 1) := by decide +kernel
theorem dX10_pour_63 : decode cX10_pour 63 = .ok (.if_icmp .le 6, 3) := by decide +kernel
theorem dX10_pour_66 : decode cX10_pour 66 = .ok (.bipush (-6), 2) := by decide +kernel
theorem dX10_pour_68 : decode cX10_pour 68 = .ok (.ireturn, 1) := by decide +kernel
theorem dX10_pour_69 : decode cX10_pour 69 = .ok (.aload_n 0, 1) := by decide +kernel
theorem dX10_pour_70 : decode cX10_pour 70 = .ok (.getfield 63, 3) := by decide +kernel
theorem dX10_pour_73 : decode cX10_pour 73 = .ok (.iload_n 2, 1) := by decide +kernel
theorem dX10_pour_74 : decode cX10_pour 74 = .ok (.iaload, 1) := by decide +kernel
theorem dX10_pour_75 : decode cX10_pour 75 = .ok (.ifCond .ne 24, 3) := by decide +kernel
theorem dX10_pour_78 : decode cX10_pour 78 = .ok (.aload_n 0, 1) := by decide +kernel
theorem dX10_pour_79 : decode cX10_pour 79 = .ok (.getfield 75, 3) := by decide +kernel
theorem dX10_pour_82 : decode cX10_pour 82 = .ok (.iload_n 2, 1) := by decide +kernel
theorem dX10_pour_83 : decode cX10_pour 83 = .ok (.lconst 0, 1) := by decide +kernel
theorem dX10_pour_84 : decode cX10_pour 84 = .ok (.lastore, 1) := by decide +kernel
theorem dX10_pour_85 : decode cX10_pour 85 = .ok (.aload_n 0, 1) := by decide +kernel
theorem dX10_pour_86 : decode cX10_pour 86 = .ok (.getfield 78, 3) := by decide +kernel
theorem dX10_pour_89 : decode cX10_pour 89 = .ok (.iload_n 2, 1) := by decide +kernel
theorem dX10_pour_90 : decode cX10_pour 90 = .ok (.iconst 0, 1) := by decide +kernel
theorem dX10_pour_91 : decode cX10_pour 91 = .ok (.iastore, 1) := by decide +kernel
theorem dX10_pour_92 : decode cX10_pour 92 = .ok (.aload_n 0, 1) := by decide +kernel
theorem dX10_pour_93 : decode cX10_pour 93 = .ok (.getfield 69, 3) := by decide +kernel
theorem dX10_pour_96 : decode cX10_pour 96 = .ok (.iload_n 2, 1) := by decide +kernel
theorem dX10_pour_97 : decode cX10_pour 97 = .ok (.iconst 0, 1) := by decide +kernel
theorem dX10_pour_98 : decode cX10_pour 98 = .ok (.bastore, 1) := by decide +kernel
theorem dX10_pour_99 : decode cX10_pour 99 = .ok (.iconst 0, 1) := by decide +kernel
theorem dX10_pour_100 : decode cX10_pour 100 = .ok (.istore 4, 2) := by decide +kernel
theorem dX10_pour_102 : decode cX10_pour 102 = .ok (.iload 4, 2) := by decide +kernel
theorem dX10_pour_104 : decode cX10_pour 104 = .ok (.bipush 8, 2) := by decide +kernel
theorem dX10_pour_106 : decode cX10_pour 106 = .ok (.if_icmp .ge 59, 3) := by decide +kernel
theorem dX10_pour_109 : decode cX10_pour 109 = .ok (.aload_n 0, 1) := by decide +kernel
theorem dX10_pour_110 : decode cX10_pour 110 = .ok (.getfield 72, 3) := by decide +kernel
theorem dX10_pour_113 : decode cX10_pour 113 = .ok (.bipush 8, 2) := by decide +kernel
theorem dX10_pour_115 : decode cX10_pour 115 = .ok (.iload_n 2, 1) := by decide +kernel
theorem dX10_pour_116 : decode cX10_pour 116 = .ok (.imul, 1) := by decide +kernel
theorem dX10_pour_117 : decode cX10_pour 117 = .ok (.iload 4, 2) := by decide +kernel
theorem dX10_pour_119 : decode cX10_pour 119 = .ok (.iadd, 1) := by decide +kernel
theorem dX10_pour_120 : decode cX10_pour 120 = .ok (.aload_n 0, 1) := by decide +kernel
theorem dX10_pour_121 : decode cX10_pour 121 = .ok (.getfield 63, 3) := by decide +kernel
theorem dX10_pour_124 : decode cX10_pour 124 = .ok (.iload_n 2, 1) := by decide +kernel
theorem dX10_pour_125 : decode cX10_pour 125 = .ok (.iaload, 1) := by decide +kernel
theorem dX10_pour_126 : decode cX10_pour 126 = .ok (.ifCond .ne 7, 3) := by decide +kernel
theorem dX10_pour_129 : decode cX10_pour 129 = .ok (.iconst 0, 1) := by decide +kernel
theorem dX10_pour_130 : decode cX10_pour 130 = .ok (.goto 15, 3) := by decide +kernel
theorem dX10_pour_133 : decode cX10_pour 133 = .ok (.aload_n 0, 1) := by decide +kernel
theorem dX10_pour_134 : decode cX10_pour 134 = .ok (.getfield 72, 3) := by decide +kernel
theorem dX10_pour_137 : decode cX10_pour 137 = .ok (.bipush 8, 2) := by decide +kernel
theorem dX10_pour_139 : decode cX10_pour 139 = .ok (.iload_n 2, 1) := by decide +kernel
theorem dX10_pour_140 : decode cX10_pour 140 = .ok (.imul, 1) := by decide +kernel
theorem dX10_pour_141 : decode cX10_pour 141 = .ok (.iload 4, 2) := by decide +kernel
theorem dX10_pour_143 : decode cX10_pour 143 = .ok (.iadd, 1) := by decide +kernel
theorem dX10_pour_144 : decode cX10_pour 144 = .ok (.iaload, 1) := by decide +kernel
theorem dX10_pour_145 : decode cX10_pour 145 = .ok (.aload_n 0, 1) := by decide +kernel
theorem dX10_pour_146 : decode cX10_pour 146 = .ok (.getfield 44, 3) := by decide +kernel
theorem dX10_pour_149 : decode cX10_pour 149 = .ok (.bipush 8, 2) := by decide +kernel
theorem dX10_pour_151 : decode cX10_pour 151 = .ok (.iload_n 1, 1) := by decide +kernel
theorem dX10_pour_152 : decode cX10_pour 152 = .ok (.imul, 1) := by decide +kernel
theorem dX10_pour_153 : decode cX10_pour 153 = .ok (.iload 4, 2) := by decide +kernel
theorem dX10_pour_155 : decode cX10_pour 155 = .ok (.iadd, 1) := by decide +kernel
theorem dX10_pour_156 : decode cX10_pour 156 = .ok (.iaload, 1) := by decide +kernel
theorem dX10_pour_157 : decode cX10_pour 157 = .ok (.iadd, 1) := by decide +kernel
theorem dX10_pour_158 : decode cX10_pour 158 = .ok (.iastore, 1) := by decide +kernel
theorem dX10_pour_159 : decode cX10_pour 159 = .ok (.iinc 4 1, 3) := by decide +kernel
theorem dX10_pour_162 : decode cX10_pour 162 = .ok (.goto (-60), 3) := by decide +kernel
theorem dX10_pour_165 : decode cX10_pour 165 = .ok (.aload_n 0, 1) := by decide +kernel
theorem dX10_pour_166 : decode cX10_pour 166 = .ok (.getfield 66, 3) := by decide +kernel
theorem dX10_pour_169 : decode cX10_pour 169 = .ok (.iload_n 2, 1) := by decide +kernel
theorem dX10_pour_170 : decode cX10_pour 170 = .ok (.iconst 0, 1) := by decide +kernel
theorem dX10_pour_171 : decode cX10_pour 171 = .ok (.bastore, 1) := by decide +kernel
theorem dX10_pour_172 : decode cX10_pour 172 = .ok (.aload_n 0, 1) := by decide +kernel
theorem dX10_pour_173 : decode cX10_pour 173 = .ok (.getfield 75, 3) := by decide +kernel
theorem dX10_pour_176 : decode cX10_pour 176 = .ok (.iload_n 2, 1) := by decide +kernel
theorem dX10_pour_177 : decode cX10_pour 177 = .ok (.aload_n 0, 1) := by decide +kernel
theorem dX10_pour_178 : decode cX10_pour 178 = .ok (.getfield 75, 3) := by decide +kernel
theorem dX10_pour_181 : decode cX10_pour 181 = .ok (.iload_n 2, 1) := by decide +kernel
theorem dX10_pour_182 : decode cX10_pour 182 = .ok (.laload, 1) := by decide +kernel
theorem dX10_pour_183 : decode cX10_pour 183 = .ok (.aload_n 0, 1) := by decide +kernel
theorem dX10_pour_184 : decode cX10_pour 184 = .ok (.getfield 47, 3) := by decide +kernel
theorem dX10_pour_187 : decode cX10_pour 187 = .ok (.iload_n 1, 1) := by decide +kernel
theorem dX10_pour_188 : decode cX10_pour 188 = .ok (.laload, 1) := by decide +kernel
theorem dX10_pour_189 : decode cX10_pour 189 = .ok (.lor, 1) := by decide +kernel
theorem dX10_pour_190 : decode cX10_pour 190 = .ok (.lastore, 1) := by decide +kernel
theorem dX10_pour_191 : decode cX10_pour 191 = .ok (.aload_n 0, 1) := by decide +kernel
theorem dX10_pour_192 : decode cX10_pour 192 = .ok (.getfield 78, 3) := by decide +kernel
theorem dX10_pour_195 : decode cX10_pour 195 = .ok (.iload_n 2, 1) := by decide +kernel
theorem dX10_pour_196 : decode cX10_pour 196 = .ok (.aload_n 0, 1) := by decide +kernel
theorem dX10_pour_197 : decode cX10_pour 197 = .ok (.getfield 78, 3) := by decide +kernel
theorem dX10_pour_200 : decode cX10_pour 200 = .ok (.iload_n 2, 1) := by decide +kernel
theorem dX10_pour_201 : decode cX10_pour 201 = .ok (.iaload, 1) := by decide +kernel
theorem dX10_pour_202 : decode cX10_pour 202 = .ok (.iconst 1, 1) := by decide +kernel
theorem dX10_pour_203 : decode cX10_pour 203 = .ok (.iload_n 1, 1) := by decide +kernel
theorem dX10_pour_204 : decode cX10_pour 204 = .ok (.ishl, 1) := by decide +kernel
theorem dX10_pour_205 : decode cX10_pour 205 = .ok (.ior, 1) := by decide +kernel
theorem dX10_pour_206 : decode cX10_pour 206 = .ok (.iastore, 1) := by decide +kernel
theorem dX10_pour_207 : decode cX10_pour 207 = .ok (.aload_n 0, 1) := by decide +kernel
theorem dX10_pour_208 : decode cX10_pour 208 = .ok (.getfield 63, 3) := by decide +kernel
theorem dX10_pour_211 : decode cX10_pour 211 = .ok (.iload_n 2, 1) := by decide +kernel
theorem dX10_pour_212 : decode cX10_pour 212 = .ok (.dup2, 1) := by decide +kernel
theorem dX10_pour_213 : decode cX10_pour 213 = .ok (.iaload, 1) := by decide +kernel
theorem dX10_pour_214 : decode cX10_pour 214 = .ok (.iload_n 3, 1) := by decide +kernel
theorem dX10_pour_215 : decode cX10_pour 215 = .ok (.iadd, 1) := by decide +kernel
theorem dX10_pour_216 : decode cX10_pour 216 = .ok (.iastore, 1) := by decide +kernel
theorem dX10_pour_217 : decode cX10_pour 217 = .ok (.aload_n 0, 1) := by decide +kernel
theorem dX10_pour_218 : decode cX10_pour 218 = .ok (.getfield 51, 3) := by decide +kernel
theorem dX10_pour_221 : decode cX10_pour 221 = .ok (.iload_n 1, 1) := by decide +kernel
theorem dX10_pour_222 : decode cX10_pour 222 = .ok (.iconst 1, 1) := by decide +kernel
theorem dX10_pour_223 : decode cX10_pour 223 = .ok (.bastore, 1) := by decide +kernel
theorem dX10_pour_224 : decode cX10_pour 224 = .ok (.aload_n 0, 1) := by decide +kernel
theorem dX10_pour_225 : decode cX10_pour 225 = .ok (.getfield 63, 3) := by decide +kernel
theorem dX10_pour_228 : decode cX10_pour 228 = .ok (.iload_n 2, 1) := by decide +kernel
theorem dX10_pour_229 : decode cX10_pour 229 = .ok (.iaload, 1) := by decide +kernel
theorem dX10_pour_230 : decode cX10_pour 230 = .ok (.ireturn, 1) := by decide +kernel
theorem dX10_clean_0 : decode cX10_clean 0 = .ok (.iload_n 1, 1) := by decide +kernel
theorem dX10_clean_1 : decode cX10_clean 1 = .ok (.invokestatic 199, 3) := by decide +kernel
theorem dX10_clean_4 : decode cX10_clean 4 = .ok (.ifCond .ne 6, 3) := by decide +kernel
theorem dX10_clean_7 : decode cX10_clean 7 = .ok (.bipush (-2), 2) := by decide +kernel
theorem dX10_clean_9 : decode cX10_clean 9 = .ok (.ireturn, 1) := by decide +kernel
theorem dX10_clean_10 : decode cX10_clean 10 = .ok (.aload_n 0, 1) := by decide +kernel
theorem dX10_clean_11 : decode cX10_clean 11 = .ok (.getfield 63, 3) := by decide +kernel
theorem dX10_clean_14 : decode cX10_clean 14 = .ok (.iload_n 1, 1) := by decide +kernel
theorem dX10_clean_15 : decode cX10_clean 15 = .ok (.iaload, 1) := by decide +kernel
theorem dX10_clean_16 : decode cX10_clean 16 = .ok (.ifCond .le 6, 3) := by decide +kernel
theorem dX10_clean_19 : decode cX10_clean 19 = .ok (.bipush (-4), 2) := by decide +kernel
theorem dX10_clean_21 : decode cX10_clean 21 = .ok (.ireturn, 1) := by decide +kernel
theorem dX10_clean_22 : decode cX10_clean 22 = .ok (.aload_n 0, 1) := by decide +kernel
theorem dX10_clean_23 : decode cX10_clean 23 = .ok (.getfield 66, 3) := by decide +kernel
theorem dX10_clean_26 : decode cX10_clean 26 = .ok (.iload_n 1, 1) := by decide +kernel
theorem dX10_clean_27 : decode cX10_clean 27 = .ok (.baload, 1) := by decide +kernel
theorem dX10_clean_28 : decode cX10_clean 28 = .ok (.ifCond .eq 7, 3) := by decide +kernel
theorem dX10_clean_31 : decode cX10_clean 31 = .ok (.iconst 1, 1) := by decide +kernel
theorem dX10_clean_32 : decode cX10_clean 32 = .ok (.goto 4, 3) := by decide +kernel
theorem dX10_clean_35 : decode cX10_clean 35 = .ok (.iconst 0, 1) := by decide +kernel
theorem dX10_clean_36 : decode cX10_clean 36 = .ok (.istore_n 2, 1) := by decide +kernel
theorem dX10_clean_37 : decode cX10_clean 37 = .ok (.aload_n 0, 1) := by decide +kernel
theorem dX10_clean_38 : decode cX10_clean 38 = .ok (.dup, 1) := by decide +kernel
theorem dX10_clean_39 : decode cX10_clean 39 = .ok (.getfield 206, 3) := by decide +kernel
theorem dX10_clean_42 : decode cX10_clean 42 = .ok (.iload_n 2, 1) := by decide +kernel
theorem dX10_clean_43 : decode cX10_clean 43 = .ok (.iadd, 1) := by decide +kernel
theorem dX10_clean_44 : decode cX10_clean 44 = .ok (.putfield 206, 3) := by decide +kernel
theorem dX10_clean_47 : decode cX10_clean 47 = .ok (.aload_n 0, 1) := by decide +kernel
theorem dX10_clean_48 : decode cX10_clean 48 = .ok (.getfield 66, 3) := by decide +kernel
theorem dX10_clean_51 : decode cX10_clean 51 = .ok (.iload_n 1, 1) := by decide +kernel
theorem dX10_clean_52 : decode cX10_clean 52 = .ok (.iconst 0, 1) := by decide +kernel
theorem dX10_clean_53 : decode cX10_clean 53 = .ok (.bastore, 1) := by decide +kernel
theorem dX10_clean_54 : decode cX10_clean 54 = .ok (.iload_n 2, 1) := by decide +kernel
theorem dX10_clean_55 : decode cX10_clean 55 = .ok (.ireturn, 1) := by decide +kernel
theorem dX10_fill_0 : decode cX10_fill 0 = .ok (.iload_n 1, 1) := by decide +kernel
theorem dX10_fill_1 : decode cX10_fill 1 = .ok (.invokestatic 199, 3) := by decide +kernel
theorem dX10_fill_4 : decode cX10_fill 4 = .ok (.ifCond .ne 6, 3) := by decide +kernel
theorem dX10_fill_7 : decode cX10_fill 7 = .ok (.bipush (-2), 2) := by decide +kernel
theorem dX10_fill_9 : decode cX10_fill 9 = .ok (.ireturn, 1) := by decide +kernel
theorem dX10_fill_10 : decode cX10_fill 10 = .ok (.iload_n 2, 1) := by decide +kernel
theorem dX10_fill_11 : decode cX10_fill 11 = .ok (.iconst 1, 1) := by decide +kernel
theorem dX10_fill_12 : decode cX10_fill 12 = .ok (.sipush 1000, 3) := by decide +kernel
theorem dX10_fill_15 : decode cX10_fill 15 = .ok (.invokestatic 133, 3) := by decide +kernel
theorem dX10_fill_18 : decode cX10_fill 18 = .ok (.ifCond .ne 6, 3) := by decide +kernel
theorem dX10_fill_21 : decode cX10_fill 21 = .ok (.bipush (-3), 2) := by decide +kernel
theorem dX10_fill_23 : decode cX10_fill 23 = .ok (.ireturn, 1) := by decide +kernel
theorem dX10_fill_24 : decode cX10_fill 24 = .ok (.aload_n 0, 1) := by decide +kernel
theorem dX10_fill_25 : decode cX10_fill 25 = .ok (.getfield 63, 3) := by decide +kernel
theorem dX10_fill_28 : decode cX10_fill 28 = .ok (.iload_n 1, 1) := by decide +kernel
theorem dX10_fill_29 : decode cX10_fill 29 = .ok (.iaload, 1) := by decide +kernel
theorem dX10_fill_30 : decode cX10_fill 30 = .ok (.iload_n 2, 1) := by decide +kernel
theorem dX10_fill_31 : decode cX10_fill 31 = .ok (.if_icmp .ge 6, 3) := by decide +kernel
theorem dX10_fill_34 : decode cX10_fill 34 = .ok (.bipush (-4), 2) := by decide +kernel
theorem dX10_fill_36 : decode cX10_fill 36 = .ok (.ireturn, 1) := by decide +kernel
theorem dX10_fill_37 : decode cX10_fill 37 = .ok (.aload_n 0, 1) := by decide +kernel
theorem dX10_fill_38 : decode cX10_fill 38 = .ok (.getfield 209, 3) := by decide +kernel
theorem dX10_fill_41 : decode cX10_fill 41 = .ok (.bipush 100, 2) := by decide +kernel
theorem dX10_fill_43 : decode cX10_fill 43 = .ok (.if_icmp .ne 6, 3) := by decide +kernel
theorem dX10_fill_46 : decode cX10_fill 46 = .ok (.bipush (-6), 2) := by decide +kernel
theorem dX10_fill_48 : decode cX10_fill 48 = .ok (.ireturn, 1) := by decide +kernel
theorem dX10_fill_49 : decode cX10_fill 49 = .ok (.aload_n 0, 1) := by decide +kernel
theorem dX10_fill_50 : decode cX10_fill 50 = .ok (.getfield 88, 3) := by decide +kernel
theorem dX10_fill_53 : decode cX10_fill 53 = .ok (.aload_n 0, 1) := by decide +kernel
theorem dX10_fill_54 : decode cX10_fill 54 = .ok (.getfield 209, 3) := by decide +kernel
theorem dX10_fill_57 : decode cX10_fill 57 = .ok (.iload_n 2, 1) := by decide +kernel
theorem dX10_fill_58 : decode cX10_fill 58 = .ok (.iastore, 1) := by decide +kernel
theorem dX10_fill_59 : decode cX10_fill 59 = .ok (.aload_n 0, 1) := by decide +kernel
theorem dX10_fill_60 : decode cX10_fill 60 = .ok (.getfield 91, 3) := by decide +kernel
theorem dX10_fill_63 : decode cX10_fill 63 = .ok (.aload_n 0, 1) := by decide +kernel
theorem dX10_fill_64 : decode cX10_fill 64 = .ok (.getfield 209, 3) := by decide +kernel
theorem dX10_fill_67 : decode cX10_fill 67 = .ok (.iload_n 1, 1) := by decide +kernel
theorem dX10_fill_68 : decode cX10_fill 68 = .ok (.iastore, 1) := by decide +kernel
theorem dX10_fill_69 : decode cX10_fill 69 = .ok (.aload_n 0, 1) := by decide +kernel
theorem dX10_fill_70 : decode cX10_fill 70 = .ok (.getfield 94, 3) := by decide +kernel
theorem dX10_fill_73 : decode cX10_fill 73 = .ok (.aload_n 0, 1) := by decide +kernel
theorem dX10_fill_74 : decode cX10_fill 74 = .ok (.getfield 209, 3) := by decide +kernel
theorem dX10_fill_77 : decode cX10_fill 77 = .ok (.aload_n 0, 1) := by decide +kernel
theorem dX10_fill_78 : decode cX10_fill 78 = .ok (.getfield 147, 3) := by decide +kernel
theorem dX10_fill_81 : decode cX10_fill 81 = .ok (.iastore, 1) := by decide +kernel
theorem dX10_fill_82 : decode cX10_fill 82 = .ok (.aload_n 0, 1) := by decide +kernel
theorem dX10_fill_83 : decode cX10_fill 83 = .ok (.getfield 97, 3) := by decide +kernel
theorem dX10_fill_86 : decode cX10_fill 86 = .ok (.aload_n 0, 1) := by decide +kernel
theorem dX10_fill_87 : decode cX10_fill 87 = .ok (.getfield 209, 3) := by decide +kernel
theorem dX10_fill_90 : decode cX10_fill 90 = .ok (.aload_n 0, 1) := by decide +kernel
theorem dX10_fill_91 : decode cX10_fill 91 = .ok (.getfield 75, 3) := by decide +kernel
theorem dX10_fill_94 : decode cX10_fill 94 = .ok (.iload_n 1, 1) := by decide +kernel
theorem dX10_fill_95 : decode cX10_fill 95 = .ok (.laload, 1) := by decide +kernel
theorem dX10_fill_96 : decode cX10_fill 96 = .ok (.lastore, 1) := by decide +kernel
theorem dX10_fill_97 : decode cX10_fill 97 = .ok (.aload_n 0, 1) := by decide +kernel
theorem dX10_fill_98 : decode cX10_fill 98 = .ok (.getfield 100, 3) := by decide +kernel
theorem dX10_fill_101 : decode cX10_fill 101 = .ok (.aload_n 0, 1) := by decide +kernel
theorem dX10_fill_102 : decode cX10_fill 102 = .ok (.getfield 209, 3) := by decide +kernel
theorem dX10_fill_105 : decode cX10_fill 105 = .ok (.aload_n 0, 1) := by decide +kernel
theorem dX10_fill_106 : decode cX10_fill 106 = .ok (.getfield 78, 3) := by decide +kernel
theorem dX10_fill_109 : decode cX10_fill 109 = .ok (.iload_n 1, 1) := by decide +kernel
theorem dX10_fill_110 : decode cX10_fill 110 = .ok (.iaload, 1) := by decide +kernel
theorem dX10_fill_111 : decode cX10_fill 111 = .ok (.iastore, 1) := by decide +kernel
theorem dX10_fill_112 : decode cX10_fill 112 = .ok (.aload_n 0, 1) := by decide +kernel
theorem dX10_fill_113 : decode cX10_fill 113 = .ok (.dup, 1) := by decide +kernel
theorem dX10_fill_114 : decode cX10_fill 114 = .ok (.getfield 209, 3) := by decide +kernel
theorem dX10_fill_117 : decode cX10_fill 117 = .ok (.iconst 1, 1) := by decide +kernel
theorem dX10_fill_118 : decode cX10_fill 118 = .ok (.iadd, 1) := by decide +kernel
theorem dX10_fill_119 : decode cX10_fill 119 = .ok (.putfield 209, 3) := by decide +kernel
theorem dX10_fill_122 : decode cX10_fill 122 = .ok (.aload_n 0, 1) := by decide +kernel
theorem dX10_fill_123 : decode cX10_fill 123 = .ok (.getfield 63, 3) := by decide +kernel
theorem dX10_fill_126 : decode cX10_fill 126 = .ok (.iload_n 1, 1) := by decide +kernel
theorem dX10_fill_127 : decode cX10_fill 127 = .ok (.dup2, 1) := by decide +kernel
theorem dX10_fill_128 : decode cX10_fill 128 = .ok (.iaload, 1) := by decide +kernel
theorem dX10_fill_129 : decode cX10_fill 129 = .ok (.iload_n 2, 1) := by decide +kernel
theorem dX10_fill_130 : decode cX10_fill 130 = .ok (.isub, 1) := by decide +kernel
theorem dX10_fill_131 : decode cX10_fill 131 = .ok (.iastore, 1) := by decide +kernel
theorem dX10_fill_132 : decode cX10_fill 132 = .ok (.aload_n 0, 1) := by decide +kernel
theorem dX10_fill_133 : decode cX10_fill 133 = .ok (.getfield 69, 3) := by decide +kernel
theorem dX10_fill_136 : decode cX10_fill 136 = .ok (.iload_n 1, 1) := by decide +kernel
theorem dX10_fill_137 : decode cX10_fill 137 = .ok (.iconst 1, 1) := by decide +kernel
theorem dX10_fill_138 : decode cX10_fill 138 = .ok (.bastore, 1) := by decide +kernel
theorem dX10_fill_139 : decode cX10_fill 139 = .ok (.aload_n 0, 1) := by decide +kernel
theorem dX10_fill_140 : decode cX10_fill 140 = .ok (.getfield 63, 3) := by decide +kernel
theorem dX10_fill_143 : decode cX10_fill 143 = .ok (.iload_n 1, 1) := by decide +kernel
theorem dX10_fill_144 : decode cX10_fill 144 = .ok (.iaload, 1) := by decide +kernel
theorem dX10_fill_145 : decode cX10_fill 145 = .ok (.ifCond .ne 50, 3) := by decide +kernel
theorem dX10_fill_148 : decode cX10_fill 148 = .ok (.aload_n 0, 1) := by decide +kernel
theorem dX10_fill_149 : decode cX10_fill 149 = .ok (.getfield 66, 3) := by decide +kernel
theorem dX10_fill_152 : decode cX10_fill 152 = .ok (.iload_n 1, 1) := by decide +kernel
theorem dX10_fill_153 : decode cX10_fill 153 = .ok (.iconst 1, 1) := by decide +kernel
theorem dX10_fill_154 : decode cX10_fill 154 = .ok (.bastore, 1) := by decide +kernel
theorem dX10_fill_155 : decode cX10_fill 155 = .ok (.iconst 0, 1) := by decide +kernel
theorem dX10_fill_156 : decode cX10_fill 156 = .ok (.istore_n 3, 1) := by decide +kernel
theorem dX10_fill_157 : decode cX10_fill 157 = .ok (.iload_n 3, 1) := by decide +kernel
theorem dX10_fill_158 : decode cX10_fill 158 = .ok (.iconst 3, 1) := by decide +kernel
theorem dX10_fill_159 : decode cX10_fill 159 = .ok (.if_icmp .ge 36, 3) := by decide +kernel
theorem dX10_fill_162 : decode cX10_fill 162 = .ok (.aload_n 0, 1) := by decide +kernel
theorem dX10_fill_163 : decode cX10_fill 163 = .ok (.getfield 81, 3) := by decide +kernel
theorem dX10_fill_166 : decode cX10_fill 166 = .ok (.iconst 3, 1) := by decide +kernel
theorem dX10_fill_167 : decode cX10_fill 167 = .ok (.iload_n 1, 1) := by decide +kernel
theorem dX10_fill_168 : decode cX10_fill 168 = .ok (.imul, 1) := by decide +kernel
theorem dX10_fill_169 : decode cX10_fill 169 = .ok (.iload_n 3, 1) := by decide +kernel
theorem dX10_fill_170 : decode cX10_fill 170 = .ok (.iadd, 1) := by decide +kernel
theorem dX10_fill_171 : decode cX10_fill 171 = .ok (.aload_n 0, 1) := by decide +kernel
theorem dX10_fill_172 : decode cX10_fill 172 = .ok (.aload_n 0, 1) := by decide +kernel
theorem dX10_fill_173 : decode cX10_fill 173 = .ok (.getfield 72, 3) := by decide +kernel
theorem dX10_fill_176 : decode cX10_fill 176 = .ok (.bipush 8, 2) := by decide +kernel
theorem dX10_fill_178 : decode cX10_fill 178 = .ok (.iload_n 1, 1) := by decide +kernel
theorem dX10_fill_179 : decode cX10_fill 179 = .ok (.imul, 1) := by decide +kernel
theorem dX10_fill_180 : decode cX10_fill 180 = .ok (.aload_n 0, 1) := by decide +kernel
theorem dX10_fill_181 : decode cX10_fill 181 = .ok (.getfield 124, 3) := by decide +kernel
theorem dX10_fill_184 : decode cX10_fill 184 = .ok (.iload_n 3, 1) := by decide +kernel
theorem dX10_fill_185 : decode cX10_fill 185 = .ok (.invokevirtual 180, 3) := by decide +kernel
theorem dX10_fill_188 : decode cX10_fill 188 = .ok (.iastore, 1) := by decide +kernel
theorem dX10_fill_189 : decode cX10_fill 189 = .ok (.iinc 3 1, 3) := by decide +kernel
theorem dX10_fill_192 : decode cX10_fill 192 = .ok (.goto (-35), 3) := by decide +kernel
theorem dX10_fill_195 : decode cX10_fill 195 = .ok (.aload_n 0, 1) := by decide +kernel
theorem dX10_fill_196 : decode cX10_fill 196 = .ok (.getfield 209, 3) := by decide +kernel
theorem dX10_fill_199 : decode cX10_fill 199 = .ok (.iconst 1, 1) := by decide +kernel
theorem dX10_fill_200 : decode cX10_fill 200 = .ok (.isub, 1) := by decide +kernel
theorem dX10_fill_201 : decode cX10_fill 201 = .ok (.ireturn, 1) := by decide +kernel
theorem dX10_tank_0 : decode cX10_tank 0 = .ok (.iload_n 1, 1) := by decide +kernel
theorem dX10_tank_1 : decode cX10_tank 1 = .ok (.invokestatic 199, 3) := by decide +kernel
theorem dX10_tank_4 : decode cX10_tank 4 = .ok (.ifCond .ne 6, 3) := by decide +kernel
theorem dX10_tank_7 : decode cX10_tank 7 = .ok (.bipush (-2), 2) := by decide +kernel
theorem dX10_tank_9 : decode cX10_tank 9 = .ok (.ireturn, 1) := by decide +kernel
theorem dX10_tank_10 : decode cX10_tank 10 = .ok (.iload_n 2, 1) := by decide +kernel
theorem dX10_tank_11 : decode cX10_tank 11 = .ok (.tableswitch 82 0 3 #[29, 36, 60, 75], 29) := by decide +kernel
theorem dX10_tank_40 : decode cX10_tank 40 = .ok (.aload_n 0, 1) := by decide +kernel
theorem dX10_tank_41 : decode cX10_tank 41 = .ok (.getfield 63, 3) := by decide +kernel
theorem dX10_tank_44 : decode cX10_tank 44 = .ok (.iload_n 1, 1) := by decide +kernel
theorem dX10_tank_45 : decode cX10_tank 45 = .ok (.iaload, 1) := by decide +kernel
theorem dX10_tank_46 : decode cX10_tank 46 = .ok (.ireturn, 1) := by decide +kernel
theorem dX10_tank_47 : decode cX10_tank 47 = .ok (.aload_n 0, 1) := by decide +kernel
theorem dX10_tank_48 : decode cX10_tank 48 = .ok (.getfield 63, 3) := by decide +kernel
theorem dX10_tank_51 : decode cX10_tank 51 = .ok (.iload_n 1, 1) := by decide +kernel
theorem dX10_tank_52 : decode cX10_tank 52 = .ok (.iaload, 1) := by decide +kernel
theorem dX10_tank_53 : decode cX10_tank 53 = .ok (.ifCond .ne 16, 3) := by decide +kernel
theorem dX10_tank_56 : decode cX10_tank 56 = .ok (.aload_n 0, 1) := by decide +kernel
theorem dX10_tank_57 : decode cX10_tank 57 = .ok (.getfield 66, 3) := by decide +kernel
theorem dX10_tank_60 : decode cX10_tank 60 = .ok (.iload_n 1, 1) := by decide +kernel
theorem dX10_tank_61 : decode cX10_tank 61 = .ok (.baload, 1) := by decide +kernel
theorem dX10_tank_62 : decode cX10_tank 62 = .ok (.ifCond .ne 7, 3) := by decide +kernel
theorem dX10_tank_65 : decode cX10_tank 65 = .ok (.iconst 1, 1) := by decide +kernel
theorem dX10_tank_66 : decode cX10_tank 66 = .ok (.goto 4, 3) := by decide +kernel
theorem dX10_tank_69 : decode cX10_tank 69 = .ok (.iconst 0, 1) := by decide +kernel
theorem dX10_tank_70 : decode cX10_tank 70 = .ok (.ireturn, 1) := by decide +kernel
theorem dX10_tank_71 : decode cX10_tank 71 = .ok (.aload_n 0, 1) := by decide +kernel
theorem dX10_tank_72 : decode cX10_tank 72 = .ok (.getfield 66, 3) := by decide +kernel
theorem dX10_tank_75 : decode cX10_tank 75 = .ok (.iload_n 1, 1) := by decide +kernel
theorem dX10_tank_76 : decode cX10_tank 76 = .ok (.baload, 1) := by decide +kernel
theorem dX10_tank_77 : decode cX10_tank 77 = .ok (.ifCond .eq 7, 3) := by decide +kernel
theorem dX10_tank_80 : decode cX10_tank 80 = .ok (.iconst 1, 1) := by decide +kernel
theorem dX10_tank_81 : decode cX10_tank 81 = .ok (.goto 4, 3) := by decide +kernel
theorem dX10_tank_84 : decode cX10_tank 84 = .ok (.iconst 0, 1) := by decide +kernel
theorem dX10_tank_85 : decode cX10_tank 85 = .ok (.ireturn, 1) := by decide +kernel
theorem dX10_tank_86 : decode cX10_tank 86 = .ok (.aload_n 0, 1) := by decide +kernel
theorem dX10_tank_87 : decode cX10_tank 87 = .ok (.getfield 60, 3) := by decide +kernel
theorem dX10_tank_90 : decode cX10_tank 90 = .ok (.iload_n 1, 1) := by decide +kernel
theorem dX10_tank_91 : decode cX10_tank 91 = .ok (.iaload, 1) := by decide +kernel
theorem dX10_tank_92 : decode cX10_tank 92 = .ok (.ireturn, 1) := by decide +kernel
theorem dX10_tank_93 : decode cX10_tank 93 = .ok (.bipush (-3), 2) := by decide +kernel
theorem dX10_tank_95 : decode cX10_tank 95 = .ok (.ireturn, 1) := by decide +kernel
theorem dX10_tankShade_0 : decode cX10_tankShade 0 = .ok (.iload_n 1, 1) := by decide +kernel
theorem dX10_tankShade_1 : decode cX10_tankShade 1 = .ok (.invokestatic 199, 3) := by decide +kernel
theorem dX10_tankShade_4 : decode cX10_tankShade 4 = .ok (.ifCond .eq 12, 3) := by decide +kernel
theorem dX10_tankShade_7 : decode cX10_tankShade 7 = .ok (.iload_n 2, 1) := by decide +kernel
theorem dX10_tankShade_8 : decode cX10_tankShade 8 = .ok (.iconst 0, 1) := by decide +kernel
theorem dX10_tankShade_9 : decode cX10_tankShade 9 = .ok (.iconst 2, 1) := by decide +kernel
theorem dX10_tankShade_10 : decode cX10_tankShade 10 = .ok (.invokestatic 133, 3) := by decide +kernel
theorem dX10_tankShade_13 : decode cX10_tankShade 13 = .ok (.ifCond .ne 6, 3) := by decide +kernel
theorem dX10_tankShade_16 : decode cX10_tankShade 16 = .ok (.bipush (-2), 2) := by decide +kernel
theorem dX10_tankShade_18 : decode cX10_tankShade 18 = .ok (.ireturn, 1) := by decide +kernel
theorem dX10_tankShade_19 : decode cX10_tankShade 19 = .ok (.aload_n 0, 1) := by decide +kernel
theorem dX10_tankShade_20 : decode cX10_tankShade 20 = .ok (.getfield 63, 3) := by decide +kernel
theorem dX10_tankShade_23 : decode cX10_tankShade 23 = .ok (.iload_n 1, 1) := by decide +kernel
theorem dX10_tankShade_24 : decode cX10_tankShade 24 = .ok (.iaload, 1) := by decide +kernel
theorem dX10_tankShade_25 : decode cX10_tankShade 25 = .ok (.ifCond .le 21, 3) := by decide +kernel
theorem dX10_tankShade_28 : decode cX10_tankShade 28 = .ok (.aload_n 0, 1) := by decide +kernel
theorem dX10_tankShade_29 : decode cX10_tankShade 29 = .ok (.aload_n 0, 1) := by decide +kernel
theorem dX10_tankShade_30 : decode cX10_tankShade 30 = .ok (.getfield 72, 3) := by decide +kernel
theorem dX10_tankShade_33 : decode cX10_tankShade 33 = .ok (.bipush 8, 2) := by decide +kernel
theorem dX10_tankShade_35 : decode cX10_tankShade 35 = .ok (.iload_n 1, 1) := by decide +kernel
theorem dX10_tankShade_36 : decode cX10_tankShade 36 = .ok (.imul, 1) := by decide +kernel
theorem dX10_tankShade_37 : decode cX10_tankShade 37 = .ok (.aload_n 0, 1) := by decide +kernel
theorem dX10_tankShade_38 : decode cX10_tankShade 38 = .ok (.getfield 124, 3) := by decide +kernel
theorem dX10_tankShade_41 : decode cX10_tankShade 41 = .ok (.iload_n 2, 1) := by decide +kernel
theorem dX10_tankShade_42 : decode cX10_tankShade 42 = .ok (.invokevirtual 180, 3) := by decide +kernel
theorem dX10_tankShade_45 : decode cX10_tankShade 45 = .ok (.ireturn, 1) := by decide +kernel
theorem dX10_tankShade_46 : decode cX10_tankShade 46 = .ok (.aload_n 0, 1) := by decide +kernel
theorem dX10_tankShade_47 : decode cX10_tankShade 47 = .ok (.getfield 66, 3) := by decide +kernel
theorem dX10_tankShade_50 : decode cX10_tankShade 50 = .ok (.iload_n 1, 1) := by decide +kernel
theorem dX10_tankShade_51 : decode cX10_tankShade 51 = .ok (.baload, 1) := by decide +kernel
theorem dX10_tankShade_52 : decode cX10_tankShade 52 = .ok (.ifCond .eq 16, 3) := by decide +kernel
theorem dX10_tankShade_55 : decode cX10_tankShade 55 = .ok (.aload_n 0, 1) := by decide +kernel
theorem dX10_tankShade_56 : decode cX10_tankShade 56 = .ok (.getfield 81, 3) := by decide +kernel
theorem dX10_tankShade_59 : decode cX10_tankShade 59 = .ok (.iconst 3, 1) := by decide +kernel
theorem dX10_tankShade_60 : decode cX10_tankShade 60 = .ok (.iload_n 1, 1) := by decide +kernel
theorem dX10_tankShade_61 : decode cX10_tankShade 61 = .ok (.imul, 1) := by decide +kernel
theorem dX10_tankShade_62 : decode cX10_tankShade 62 = .ok (.iload_n 2, 1) := by decide +kernel
theorem dX10_tankShade_63 : decode cX10_tankShade 63 = .ok (.iadd, 1) := by decide +kernel
theorem dX10_tankShade_64 : decode cX10_tankShade 64 = .ok (.iaload, 1) := by decide +kernel
theorem dX10_tankShade_65 : decode cX10_tankShade 65 = .ok (.goto 5, 3) := by decide +kernel
theorem dX10_tankShade_68 : decode cX10_tankShade 68 = .ok (.bipush (-4), 2) := by decide +kernel
theorem dX10_tankShade_70 : decode cX10_tankShade 70 = .ok (.ireturn, 1) := by decide +kernel
theorem dX10_many_0 : decode cX10_many 0 = .ok (.iconst 0, 1) := by decide +kernel
theorem dX10_many_1 : decode cX10_many 1 = .ok (.istore_n 2, 1) := by decide +kernel
theorem dX10_many_2 : decode cX10_many 2 = .ok (.iconst 0, 1) := by decide +kernel
theorem dX10_many_3 : decode cX10_many 3 = .ok (.istore_n 3, 1) := by decide +kernel
theorem dX10_many_4 : decode cX10_many 4 = .ok (.iload_n 3, 1) := by decide +kernel
theorem dX10_many_5 : decode cX10_many 5 = .ok (.bipush 40, 2) := by decide +kernel
theorem dX10_many_7 : decode cX10_many 7 = .ok (.if_icmp .ge 27, 3) := by decide +kernel
theorem dX10_many_10 : decode cX10_many 10 = .ok (.iload_n 2, 1) := by decide +kernel
theorem dX10_many_11 : decode cX10_many 11 = .ok (.lload_n 0, 1) := by decide +kernel
theorem dX10_many_12 : decode cX10_many 12 = .ok (.iload_n 3, 1) := by decide +kernel
theorem dX10_many_13 : decode cX10_many 13 = .ok (.lshr, 1) := by decide +kernel
theorem dX10_many_14 : decode cX10_many 14 = .ok (.lconst 1, 1) := by decide +kernel
theorem dX10_many_15 : decode cX10_many 15 = .ok (.land, 1) := by decide +kernel
theorem dX10_many_16 : decode cX10_many 16 = .ok (.lconst 1, 1) := by decide +kernel
theorem dX10_many_17 : decode cX10_many 17 = .ok (.lcmp, 1) := by decide +kernel
theorem dX10_many_18 : decode cX10_many 18 = .ok (.ifCond .ne 7, 3) := by decide +kernel
theorem dX10_many_21 : decode cX10_many 21 = .ok (.iconst 1, 1) := by decide +kernel
theorem dX10_many_22 : decode cX10_many 22 = .ok (.goto 4, 3) := by decide +kernel
theorem dX10_many_25 : decode cX10_many 25 = .ok (.iconst 0, 1) := by decide +kernel
theorem dX10_many_26 : decode cX10_many 26 = .ok (.iadd, 1) := by decide +kernel
theorem dX10_many_27 : decode cX10_many 27 = .ok (.istore_n 2, 1) := by decide +kernel
theorem dX10_many_28 : decode cX10_many 28 = .ok (.iinc 3 1, 3) := by decide +kernel
theorem dX10_many_31 : decode cX10_many 31 = .ok (.goto (-27), 3) := by decide +kernel
theorem dX10_many_34 : decode cX10_many 34 = .ok (.iload_n 2, 1) := by decide +kernel
theorem dX10_many_35 : decode cX10_many 35 = .ok (.ireturn, 1) := by decide +kernel
theorem dX10_drum_0 : decode cX10_drum 0 = .ok (.iload_n 1, 1) := by decide +kernel
theorem dX10_drum_1 : decode cX10_drum 1 = .ok (.iconst 0, 1) := by decide +kernel
theorem dX10_drum_2 : decode cX10_drum 2 = .ok (.aload_n 0, 1) := by decide +kernel
theorem dX10_drum_3 : decode cX10_drum 3 = .ok (.getfield 209, 3) := by decide +kernel
theorem dX10_drum_6 : decode cX10_drum 6 = .ok (.iconst 1, 1) := by decide +kernel
theorem dX10_drum_7 : decode cX10_drum 7 = .ok (.isub, 1) := by decide +kernel
theorem dX10_drum_8 : decode cX10_drum 8 = .ok (.invokestatic 133, 3) := by decide +kernel
theorem dX10_drum_11 : decode cX10_drum 11 = .ok (.ifCond .ne 6, 3) := by decide +kernel
theorem dX10_drum_14 : decode cX10_drum 14 = .ok (.bipush (-2), 2) := by decide +kernel
theorem dX10_drum_16 : decode cX10_drum 16 = .ok (.ireturn, 1) := by decide +kernel
theorem dX10_drum_17 : decode cX10_drum 17 = .ok (.iload_n 2, 1) := by decide +kernel
theorem dX10_drum_18 : decode cX10_drum 18 = .ok (.tableswitch 76 0 4 #[34, 41, 48, 55, 66], 34) := by decide +kernel
theorem dX10_drum_52 : decode cX10_drum 52 = .ok (.aload_n 0, 1) := by decide +kernel
theorem dX10_drum_53 : decode cX10_drum 53 = .ok (.getfield 88, 3) := by decide +kernel
theorem dX10_drum_56 : decode cX10_drum 56 = .ok (.iload_n 1, 1) := by decide +kernel
theorem dX10_drum_57 : decode cX10_drum 57 = .ok (.iaload, 1) := by decide +kernel
theorem dX10_drum_58 : decode cX10_drum 58 = .ok (.ireturn, 1) := by decide +kernel
theorem dX10_drum_59 : decode cX10_drum 59 = .ok (.aload_n 0, 1) := by decide +kernel
theorem dX10_drum_60 : decode cX10_drum 60 = .ok (.getfield 91, 3) := by decide +kernel
theorem dX10_drum_63 : decode cX10_drum 63 = .ok (.iload_n 1, 1) := by decide +kernel
theorem dX10_drum_64 : decode cX10_drum 64 = .ok (.iaload, 1) := by decide +kernel
theorem dX10_drum_65 : decode cX10_drum 65 = .ok (.ireturn, 1) := by decide +kernel
theorem dX10_drum_66 : decode cX10_drum 66 = .ok (.aload_n 0, 1) := by decide +kernel
theorem dX10_drum_67 : decode cX10_drum 67 = .ok (.getfield 94, 3) := by decide +kernel
theorem dX10_drum_70 : decode cX10_drum 70 = .ok (.iload_n 1, 1) := by decide +kernel
theorem dX10_drum_71 : decode cX10_drum 71 = .ok (.iaload, 1) := by decide +kernel
theorem dX10_drum_72 : decode cX10_drum 72 = .ok (.ireturn, 1) := by decide +kernel
theorem dX10_drum_73 : decode cX10_drum 73 = .ok (.aload_n 0, 1) := by decide +kernel
theorem dX10_drum_74 : decode cX10_drum 74 = .ok (.getfield 100, 3) := by decide +kernel
theorem dX10_drum_77 : decode cX10_drum 77 = .ok (.iload_n 1, 1) := by decide +kernel
theorem dX10_drum_78 : decode cX10_drum 78 = .ok (.iaload, 1) := by decide +kernel
theorem dX10_drum_79 : decode cX10_drum 79 = .ok (.i2l, 1) := by decide +kernel
theorem dX10_drum_80 : decode cX10_drum 80 = .ok (.invokestatic 212, 3) := by decide +kernel
theorem dX10_drum_83 : decode cX10_drum 83 = .ok (.ireturn, 1) := by decide +kernel
theorem dX10_drum_84 : decode cX10_drum 84 = .ok (.aload_n 0, 1) := by decide +kernel
theorem dX10_drum_85 : decode cX10_drum 85 = .ok (.getfield 97, 3) := by decide +kernel
theorem dX10_drum_88 : decode cX10_drum 88 = .ok (.iload_n 1, 1) := by decide +kernel
theorem dX10_drum_89 : decode cX10_drum 89 = .ok (.laload, 1) := by decide +kernel
theorem dX10_drum_90 : decode cX10_drum 90 = .ok (.invokestatic 212, 3) := by decide +kernel
theorem dX10_drum_93 : decode cX10_drum 93 = .ok (.ireturn, 1) := by decide +kernel
theorem dX10_drum_94 : decode cX10_drum 94 = .ok (.bipush (-3), 2) := by decide +kernel
theorem dX10_drum_96 : decode cX10_drum 96 = .ok (.ireturn, 1) := by decide +kernel
theorem dX10_inDrum_0 : decode cX10_inDrum 0 = .ok (.iload_n 1, 1) := by decide +kernel
theorem dX10_inDrum_1 : decode cX10_inDrum 1 = .ok (.iconst 0, 1) := by decide +kernel
theorem dX10_inDrum_2 : decode cX10_inDrum 2 = .ok (.aload_n 0, 1) := by decide +kernel
theorem dX10_inDrum_3 : decode cX10_inDrum 3 = .ok (.getfield 209, 3) := by decide +kernel
theorem dX10_inDrum_6 : decode cX10_inDrum 6 = .ok (.iconst 1, 1) := by decide +kernel
theorem dX10_inDrum_7 : decode cX10_inDrum 7 = .ok (.isub, 1) := by decide +kernel
theorem dX10_inDrum_8 : decode cX10_inDrum 8 = .ok (.invokestatic 133, 3) := by decide +kernel
theorem dX10_inDrum_11 : decode cX10_inDrum 11 = .ok (.ifCond .eq 32, 3) := by decide +kernel
theorem dX10_inDrum_14 : decode cX10_inDrum 14 = .ok (.iload_n 2, 1) := by decide +kernel
theorem dX10_inDrum_15 : decode cX10_inDrum 15 = .ok (.ifCond .eq 20, 3) := by decide +kernel
theorem dX10_inDrum_18 : decode cX10_inDrum 18 = .ok (.iload_n 3, 1) := by decide +kernel
theorem dX10_inDrum_19 : decode cX10_inDrum 19 = .ok (.iconst 0, 1) := by decide +kernel
theorem dX10_inDrum_20 : decode cX10_inDrum 20 = .ok (.aload_n 0, 1) := by decide +kernel
theorem dX10_inDrum_21 : decode cX10_inDrum 21 = .ok (.getfield 144, 3) := by decide +kernel
theorem dX10_inDrum_24 : decode cX10_inDrum 24 = .ok (.iconst 1, 1) := by decide +kernel
theorem dX10_inDrum_25 : decode cX10_inDrum 25 = .ok (.isub, 1) := by decide +kernel
theorem dX10_inDrum_26 : decode cX10_inDrum 26 = .ok (.invokestatic 133, 3) := by decide +kernel
theorem dX10_inDrum_29 : decode cX10_inDrum 29 = .ok (.ifCond .ne 17, 3) := by decide +kernel
theorem dX10_inDrum_32 : decode cX10_inDrum 32 = .ok (.goto 11, 3) := by decide +kernel
theorem dX10_inDrum_35 : decode cX10_inDrum 35 = .ok (.aload_n 0, 1) := by decide +kernel
theorem dX10_inDrum_36 : decode cX10_inDrum 36 = .ok (.iload_n 3, 1) := by decide +kernel
theorem dX10_inDrum_37 : decode cX10_inDrum 37 = .ok (.invokevirtual 165, 3) := by decide +kernel
theorem dX10_inDrum_40 : decode cX10_inDrum 40 = .ok (.ifCond .ne 6, 3) := by decide +kernel
theorem dX10_inDrum_43 : decode cX10_inDrum 43 = .ok (.bipush (-2), 2) := by decide +kernel
theorem dX10_inDrum_45 : decode cX10_inDrum 45 = .ok (.ireturn, 1) := by decide +kernel
theorem dX10_inDrum_46 : decode cX10_inDrum 46 = .ok (.iload_n 2, 1) := by decide +kernel
theorem dX10_inDrum_47 : decode cX10_inDrum 47 = .ok (.ifCond .eq 17, 3) := by decide +kernel
theorem dX10_inDrum_50 : decode cX10_inDrum 50 = .ok (.aload_n 0, 1) := by decide +kernel
theorem dX10_inDrum_51 : decode cX10_inDrum 51 = .ok (.getfield 97, 3) := by decide +kernel
theorem dX10_inDrum_54 : decode cX10_inDrum 54 = .ok (.iload_n 1, 1) := by decide +kernel
theorem dX10_inDrum_55 : decode cX10_inDrum 55 = .ok (.laload, 1) := by decide +kernel
theorem dX10_inDrum_56 : decode cX10_inDrum 56 = .ok (.iload_n 3, 1) := by decide +kernel
theorem dX10_inDrum_57 : decode cX10_inDrum 57 = .ok (.lshr, 1) := by decide +kernel
theorem dX10_inDrum_58 : decode cX10_inDrum 58 = .ok (.lconst 1, 1) := by decide +kernel
theorem dX10_inDrum_59 : decode cX10_inDrum 59 = .ok (.land, 1) := by decide +kernel
theorem dX10_inDrum_60 : decode cX10_inDrum 60 = .ok (.l2i, 1) := by decide +kernel
theorem dX10_inDrum_61 : decode cX10_inDrum 61 = .ok (.goto 13, 3) := by decide +kernel
theorem dX10_inDrum_64 : decode cX10_inDrum 64 = .ok (.aload_n 0, 1) := by decide +kernel
theorem dX10_inDrum_65 : decode cX10_inDrum 65 = .ok (.getfield 100, 3) := by decide +kernel
theorem dX10_inDrum_68 : decode cX10_inDrum 68 = .ok (.iload_n 1, 1) := by decide +kernel
theorem dX10_inDrum_69 : decode cX10_inDrum 69 = .ok (.iaload, 1) := by decide +kernel
theorem dX10_inDrum_70 : decode cX10_inDrum 70 = .ok (.iload_n 3, 1) := by decide +kernel
theorem dX10_inDrum_71 : decode cX10_inDrum 71 = .ok (.ishr, 1) := by decide +kernel
theorem dX10_inDrum_72 : decode cX10_inDrum 72 = .ok (.iconst 1, 1) := by decide +kernel
theorem dX10_inDrum_73 : decode cX10_inDrum 73 = .ok (.iand, 1) := by decide +kernel
theorem dX10_inDrum_74 : decode cX10_inDrum 74 = .ok (.ireturn, 1) := by decide +kernel
theorem dX10_recall_0 : decode cX10_recall 0 = .ok (.iload_n 1, 1) := by decide +kernel
theorem dX10_recall_1 : decode cX10_recall 1 = .ok (.iconst 0, 1) := by decide +kernel
theorem dX10_recall_2 : decode cX10_recall 2 = .ok (.aload_n 0, 1) := by decide +kernel
theorem dX10_recall_3 : decode cX10_recall 3 = .ok (.getfield 144, 3) := by decide +kernel
theorem dX10_recall_6 : decode cX10_recall 6 = .ok (.iconst 1, 1) := by decide +kernel
theorem dX10_recall_7 : decode cX10_recall 7 = .ok (.isub, 1) := by decide +kernel
theorem dX10_recall_8 : decode cX10_recall 8 = .ok (.invokestatic 133, 3) := by decide +kernel
theorem dX10_recall_11 : decode cX10_recall 11 = .ok (.ifCond .ne 6, 3) := by decide +kernel
theorem dX10_recall_14 : decode cX10_recall 14 = .ok (.bipush (-2), 2) := by decide +kernel
theorem dX10_recall_16 : decode cX10_recall 16 = .ok (.ireturn, 1) := by decide +kernel
theorem dX10_recall_17 : decode cX10_recall 17 = .ok (.iload_n 2, 1) := by decide +kernel
theorem dX10_recall_18 : decode cX10_recall 18 = .ok (.iconst 0, 1) := by decide +kernel
theorem dX10_recall_19 : decode cX10_recall 19 = .ok (.iconst 2, 1) := by decide +kernel
theorem dX10_recall_20 : decode cX10_recall 20 = .ok (.invokestatic 133, 3) := by decide +kernel
theorem dX10_recall_23 : decode cX10_recall 23 = .ok (.ifCond .ne 6, 3) := by decide +kernel
theorem dX10_recall_26 : decode cX10_recall 26 = .ok (.bipush (-3), 2) := by decide +kernel
theorem dX10_recall_28 : decode cX10_recall 28 = .ok (.ireturn, 1) := by decide +kernel
theorem dX10_recall_29 : decode cX10_recall 29 = .ok (.iconst 0, 1) := by decide +kernel
theorem dX10_recall_30 : decode cX10_recall 30 = .ok (.istore_n 3, 1) := by decide +kernel
theorem dX10_recall_31 : decode cX10_recall 31 = .ok (.iconst 0, 1) := by decide +kernel
theorem dX10_recall_32 : decode cX10_recall 32 = .ok (.istore 4, 2) := by decide +kernel
theorem dX10_recall_34 : decode cX10_recall 34 = .ok (.iload 4, 2) := by decide +kernel
theorem dX10_recall_36 : decode cX10_recall 36 = .ok (.aload_n 0, 1) := by decide +kernel
theorem dX10_recall_37 : decode cX10_recall 37 = .ok (.getfield 209, 3) := by decide +kernel
theorem dX10_recall_40 : decode cX10_recall 40 = .ok (.if_icmp .ge 28, 3) := by decide +kernel
theorem dX10_recall_43 : decode cX10_recall 43 = .ok (.iload_n 2, 1) := by decide +kernel
theorem dX10_recall_44 : decode cX10_recall 44 = .ok (.ifCond .ne 24, 3) := by decide +kernel
theorem dX10_recall_47 : decode cX10_recall 47 = .ok (.iload_n 3, 1) := by decide +kernel
theorem dX10_recall_48 : decode cX10_recall 48 = .ok (.aload_n 0, 1) := by decide +kernel
theorem dX10_recall_49 : decode cX10_recall 49 = .ok (.getfield 97, 3) := by decide +kernel
theorem dX10_recall_52 : decode cX10_recall 52 = .ok (.iload 4, 2) := by decide +kernel
theorem dX10_recall_54 : decode cX10_recall 54 = .ok (.laload, 1) := by decide +kernel
theorem dX10_recall_55 : decode cX10_recall 55 = .ok (.iload_n 1, 1) := by decide +kernel
theorem dX10_recall_56 : decode cX10_recall 56 = .ok (.lshr, 1) := by decide +kernel
theorem dX10_recall_57 : decode cX10_recall 57 = .ok (.lconst 1, 1) := by decide +kernel
theorem dX10_recall_58 : decode cX10_recall 58 = .ok (.land, 1) := by decide +kernel
theorem dX10_recall_59 : decode cX10_recall 59 = .ok (.l2i, 1) := by decide +kernel
theorem dX10_recall_60 : decode cX10_recall 60 = .ok (.iadd, 1) := by decide +kernel
theorem dX10_recall_61 : decode cX10_recall 61 = .ok (.istore_n 3, 1) := by decide +kernel
theorem dX10_recall_62 : decode cX10_recall 62 = .ok (.iinc 4 1, 3) := by decide +kernel
theorem dX10_recall_65 : decode cX10_recall 65 = .ok (.goto (-31), 3) := by decide +kernel
theorem dX10_recall_68 : decode cX10_recall 68 = .ok (.iconst 0, 1) := by decide +kernel
theorem dX10_recall_69 : decode cX10_recall 69 = .ok (.istore 4, 2) := by decide +kernel
theorem dX10_recall_71 : decode cX10_recall 71 = .ok (.iload 4, 2) := by decide +kernel
theorem dX10_recall_73 : decode cX10_recall 73 = .ok (.aload_n 0, 1) := by decide +kernel
theorem dX10_recall_74 : decode cX10_recall 74 = .ok (.getfield 137, 3) := by decide +kernel
theorem dX10_recall_77 : decode cX10_recall 77 = .ok (.if_icmp .ge 43, 3) := by decide +kernel
theorem dX10_recall_80 : decode cX10_recall 80 = .ok (.iload_n 2, 1) := by decide +kernel
theorem dX10_recall_81 : decode cX10_recall 81 = .ok (.iconst 1, 1) := by decide +kernel
theorem dX10_recall_82 : decode cX10_recall 82 = .ok (.if_icmp .ne 38, 3) := by decide +kernel
theorem dX10_recall_85 : decode cX10_recall 85 = .ok (.iload_n 3, 1) := by decide +kernel
theorem dX10_recall_86 : decode cX10_recall 86 = .ok (.aload_n 0, 1) := by decide +kernel
theorem dX10_recall_87 : decode cX10_recall 87 = .ok (.getfield 51, 3) := by decide +kernel
theorem dX10_recall_90 : decode cX10_recall 90 = .ok (.iload 4, 2) := by decide +kernel
theorem dX10_recall_92 : decode cX10_recall 92 = .ok (.baload, 1) := by decide +kernel
theorem dX10_recall_93 : decode cX10_recall 93 = .ok (.ifCond .eq 7, 3) := by decide +kernel
theorem dX10_recall_96 : decode cX10_recall 96 = .ok (.iconst 0, 1) := by decide +kernel
theorem dX10_recall_97 : decode cX10_recall 97 = .ok (.goto 15, 3) := by decide +kernel
theorem dX10_recall_100 : decode cX10_recall 100 = .ok (.aload_n 0, 1) := by decide +kernel
theorem dX10_recall_101 : decode cX10_recall 101 = .ok (.getfield 47, 3) := by decide +kernel
theorem dX10_recall_104 : decode cX10_recall 104 = .ok (.iload 4, 2) := by decide +kernel
theorem dX10_recall_106 : decode cX10_recall 106 = .ok (.laload, 1) := by decide +kernel
theorem dX10_recall_107 : decode cX10_recall 107 = .ok (.iload_n 1, 1) := by decide +kernel
theorem dX10_recall_108 : decode cX10_recall 108 = .ok (.lshr, 1) := by decide +kernel
theorem dX10_recall_109 : decode cX10_recall 109 = .ok (.lconst 1, 1) := by decide +kernel
theorem dX10_recall_110 : decode cX10_recall 110 = .ok (.land, 1) := by decide +kernel
theorem dX10_recall_111 : decode cX10_recall 111 = .ok (.l2i, 1) := by decide +kernel
theorem dX10_recall_112 : decode cX10_recall 112 = .ok (.iadd, 1) := by decide +kernel
theorem dX10_recall_113 : decode cX10_recall 113 = .ok (.istore_n 3, 1) := by decide +kernel
theorem dX10_recall_114 : decode cX10_recall 114 = .ok (.iinc 4 1, 3) := by decide +kernel
theorem dX10_recall_117 : decode cX10_recall 117 = .ok (.goto (-46), 3) := by decide +kernel
theorem dX10_recall_120 : decode cX10_recall 120 = .ok (.iconst 0, 1) := by decide +kernel
theorem dX10_recall_121 : decode cX10_recall 121 = .ok (.istore 4, 2) := by decide +kernel
theorem dX10_recall_123 : decode cX10_recall 123 = .ok (.iload 4, 2) := by decide +kernel
theorem dX10_recall_125 : decode cX10_recall 125 = .ok (.iconst 5, 1) := by decide +kernel
theorem dX10_recall_126 : decode cX10_recall 126 = .ok (.if_icmp .ge 43, 3) := by decide +kernel
theorem dX10_recall_129 : decode cX10_recall 129 = .ok (.iload_n 2, 1) := by decide +kernel
theorem dX10_recall_130 : decode cX10_recall 130 = .ok (.iconst 2, 1) := by decide +kernel
theorem dX10_recall_131 : decode cX10_recall 131 = .ok (.if_icmp .ne 38, 3) := by decide +kernel
theorem dX10_recall_134 : decode cX10_recall 134 = .ok (.iload_n 3, 1) := by decide +kernel
theorem dX10_recall_135 : decode cX10_recall 135 = .ok (.aload_n 0, 1) := by decide +kernel
theorem dX10_recall_136 : decode cX10_recall 136 = .ok (.getfield 63, 3) := by decide +kernel
theorem dX10_recall_139 : decode cX10_recall 139 = .ok (.iload 4, 2) := by decide +kernel
theorem dX10_recall_141 : decode cX10_recall 141 = .ok (.iaload, 1) := by decide +kernel
theorem dX10_recall_142 : decode cX10_recall 142 = .ok (.ifCond .ne 7, 3) := by decide +kernel
theorem dX10_recall_145 : decode cX10_recall 145 = .ok (.iconst 0, 1) := by decide +kernel
theorem dX10_recall_146 : decode cX10_recall 146 = .ok (.goto 15, 3) := by decide +kernel
theorem dX10_recall_149 : decode cX10_recall 149 = .ok (.aload_n 0, 1) := by decide +kernel
theorem dX10_recall_150 : decode cX10_recall 150 = .ok (.getfield 75, 3) := by decide +kernel
theorem dX10_recall_153 : decode cX10_recall 153 = .ok (.iload 4, 2) := by decide +kernel
theorem dX10_recall_155 : decode cX10_recall 155 = .ok (.laload, 1) := by decide +kernel
theorem dX10_recall_156 : decode cX10_recall 156 = .ok (.iload_n 1, 1) := by decide +kernel
theorem dX10_recall_157 : decode cX10_recall 157 = .ok (.lshr, 1) := by decide +kernel
theorem dX10_recall_158 : decode cX10_recall 158 = .ok (.lconst 1, 1) := by decide +kernel
theorem dX10_recall_159 : decode cX10_recall 159 = .ok (.land, 1) := by decide +kernel
theorem dX10_recall_160 : decode cX10_recall 160 = .ok (.l2i, 1) := by decide +kernel
theorem dX10_recall_161 : decode cX10_recall 161 = .ok (.iadd, 1) := by decide +kernel
theorem dX10_recall_162 : decode cX10_recall 162 = .ok (.istore_n 3, 1) := by decide +kernel
theorem dX10_recall_163 : decode cX10_recall 163 = .ok (.iinc 4 1, 3) := by decide +kernel
theorem dX10_recall_166 : decode cX10_recall 166 = .ok (.goto (-43), 3) := by decide +kernel
theorem dX10_recall_169 : decode cX10_recall 169 = .ok (.iload_n 3, 1) := by decide +kernel
theorem dX10_recall_170 : decode cX10_recall 170 = .ok (.ireturn, 1) := by decide +kernel
theorem dX10_isHue_0 : decode cX10_isHue 0 = .ok (.iload_n 0, 1) := by decide +kernel
theorem dX10_isHue_1 : decode cX10_isHue 1 = .ok (.iconst 0, 1) := by decide +kernel
theorem dX10_isHue_2 : decode cX10_isHue 2 = .ok (.iconst 5, 1) := by decide +kernel
theorem dX10_isHue_3 : decode cX10_isHue 3 = .ok (.invokestatic 133, 3) := by decide +kernel
theorem dX10_isHue_6 : decode cX10_isHue 6 = .ok (.ireturn, 1) := by decide +kernel
theorem dX10_job_0 : decode cX10_job 0 = .ok (.iload_n 1, 1) := by decide +kernel
theorem dX10_job_1 : decode cX10_job 1 = .ok (.invokestatic 216, 3) := by decide +kernel
theorem dX10_job_4 : decode cX10_job 4 = .ok (.ifCond .ne 6, 3) := by decide +kernel
theorem dX10_job_7 : decode cX10_job 7 = .ok (.bipush (-2), 2) := by decide +kernel
theorem dX10_job_9 : decode cX10_job 9 = .ok (.ireturn, 1) := by decide +kernel
theorem dX10_job_10 : decode cX10_job 10 = .ok (.iload_n 2, 1) := by decide +kernel
theorem dX10_job_11 : decode cX10_job 11 = .ok (.iconst 1, 1) := by decide +kernel
theorem dX10_job_12 : decode cX10_job 12 = .ok (.bipush 100, 2) := by decide +kernel
theorem dX10_job_14 : decode cX10_job 14 = .ok (.invokestatic 133, 3) := by decide +kernel
theorem dX10_job_17 : decode cX10_job 17 = .ok (.ifCond .eq 25, 3) := by decide +kernel
theorem dX10_job_20 : decode cX10_job 20 = .ok (.iload_n 3, 1) := by decide +kernel
theorem dX10_job_21 : decode cX10_job 21 = .ok (.iconst 0, 1) := by decide +kernel
theorem dX10_job_22 : decode cX10_job 22 = .ok (.sipush 1000, 3) := by decide +kernel
theorem dX10_job_25 : decode cX10_job 25 = .ok (.invokestatic 133, 3) := by decide +kernel
theorem dX10_job_28 : decode cX10_job 28 = .ok (.ifCond .eq 14, 3) := by decide +kernel
theorem dX10_job_31 : decode cX10_job 31 = .ok (.iload 4, 2) := by decide +kernel
theorem dX10_job_33 : decode cX10_job 33 = .ok (.iconst 0, 1) := by decide +kernel
theorem dX10_job_34 : decode cX10_job 34 = .ok (.bipush 100, 2) := by decide +kernel
theorem dX10_job_36 : decode cX10_job 36 = .ok (.invokestatic 133, 3) := by decide +kernel
theorem dX10_job_39 : decode cX10_job 39 = .ok (.ifCond .ne 6, 3) := by decide +kernel
theorem dX10_job_42 : decode cX10_job 42 = .ok (.bipush (-3), 2) := by decide +kernel
theorem dX10_job_44 : decode cX10_job 44 = .ok (.ireturn, 1) := by decide +kernel
theorem dX10_job_45 : decode cX10_job 45 = .ok (.aload_n 0, 1) := by decide +kernel
theorem dX10_job_46 : decode cX10_job 46 = .ok (.getfield 219, 3) := by decide +kernel
theorem dX10_job_49 : decode cX10_job 49 = .ok (.bipush 8, 2) := by decide +kernel
theorem dX10_job_51 : decode cX10_job 51 = .ok (.if_icmp .ne 6, 3) := by decide +kernel
theorem dX10_job_54 : decode cX10_job 54 = .ok (.bipush (-6), 2) := by decide +kernel
theorem dX10_job_56 : decode cX10_job 56 = .ok (.ireturn, 1) := by decide +kernel
theorem dX10_job_57 : decode cX10_job 57 = .ok (.aload_n 0, 1) := by decide +kernel
theorem dX10_job_58 : decode cX10_job 58 = .ok (.getfield 103, 3) := by decide +kernel
theorem dX10_job_61 : decode cX10_job 61 = .ok (.aload_n 0, 1) := by decide +kernel
theorem dX10_job_62 : decode cX10_job 62 = .ok (.getfield 219, 3) := by decide +kernel
theorem dX10_job_65 : decode cX10_job 65 = .ok (.iload_n 1, 1) := by decide +kernel
theorem dX10_job_66 : decode cX10_job 66 = .ok (.iastore, 1) := by decide +kernel
theorem dX10_job_67 : decode cX10_job 67 = .ok (.aload_n 0, 1) := by decide +kernel
theorem dX10_job_68 : decode cX10_job 68 = .ok (.getfield 106, 3) := by decide +kernel
theorem dX10_job_71 : decode cX10_job 71 = .ok (.aload_n 0, 1) := by decide +kernel
theorem dX10_job_72 : decode cX10_job 72 = .ok (.getfield 219, 3) := by decide +kernel
theorem dX10_job_75 : decode cX10_job 75 = .ok (.iload_n 2, 1) := by decide +kernel
theorem dX10_job_76 : decode cX10_job 76 = .ok (.iastore, 1) := by decide +kernel
theorem dX10_job_77 : decode cX10_job 77 = .ok (.aload_n 0, 1) := by decide +kernel
theorem dX10_job_78 : decode cX10_job 78 = .ok (.getfield 109, 3) := by decide +kernel
theorem dX10_job_81 : decode cX10_job 81 = .ok (.aload_n 0, 1) := by decide +kernel
theorem dX10_job_82 : decode cX10_job 82 = .ok (.getfield 219, 3) := by decide +kernel
theorem dX10_job_85 : decode cX10_job 85 = .ok (.iload_n 3, 1) := by decide +kernel
theorem dX10_job_86 : decode cX10_job 86 = .ok (.iastore, 1) := by decide +kernel
theorem dX10_job_87 : decode cX10_job 87 = .ok (.aload_n 0, 1) := by decide +kernel
theorem dX10_job_88 : decode cX10_job 88 = .ok (.getfield 112, 3) := by decide +kernel
theorem dX10_job_91 : decode cX10_job 91 = .ok (.aload_n 0, 1) := by decide +kernel
theorem dX10_job_92 : decode cX10_job 92 = .ok (.getfield 219, 3) := by decide +kernel
theorem dX10_job_95 : decode cX10_job 95 = .ok (.iload 4, 2) := by decide +kernel
theorem dX10_job_97 : decode cX10_job 97 = .ok (.iastore, 1) := by decide +kernel
theorem dX10_job_98 : decode cX10_job 98 = .ok (.aload_n 0, 1) := by decide +kernel
theorem dX10_job_99 : decode cX10_job 99 = .ok (.dup, 1) := by decide +kernel
theorem dX10_job_100 : decode cX10_job 100 = .ok (.getfield 219, 3) := by decide +kernel
theorem dX10_job_103 : decode cX10_job 103 = .ok (.iconst 1, 1) := by decide +kernel
theorem dX10_job_104 : decode cX10_job 104 = .ok (.iadd, 1) := by decide +kernel
theorem dX10_job_105 : decode cX10_job 105 = .ok (.putfield 219, 3) := by decide +kernel
theorem dX10_job_108 : decode cX10_job 108 = .ok (.aload_n 0, 1) := by decide +kernel
theorem dX10_job_109 : decode cX10_job 109 = .ok (.getfield 219, 3) := by decide +kernel
theorem dX10_job_112 : decode cX10_job 112 = .ok (.iconst 1, 1) := by decide +kernel
theorem dX10_job_113 : decode cX10_job 113 = .ok (.isub, 1) := by decide +kernel
theorem dX10_job_114 : decode cX10_job 114 = .ok (.ireturn, 1) := by decide +kernel
theorem dX10_cleaning_0 : decode cX10_cleaning 0 = .ok (.iload_n 1, 1) := by decide +kernel
theorem dX10_cleaning_1 : decode cX10_cleaning 1 = .ok (.invokestatic 216, 3) := by decide +kernel
theorem dX10_cleaning_4 : decode cX10_cleaning 4 = .ok (.ifCond .eq 10, 3) := by decide +kernel
theorem dX10_cleaning_7 : decode cX10_cleaning 7 = .ok (.iload_n 2, 1) := by decide +kernel
theorem dX10_cleaning_8 : decode cX10_cleaning 8 = .ok (.invokestatic 216, 3) := by decide +kernel
theorem dX10_cleaning_11 : decode cX10_cleaning 11 = .ok (.ifCond .ne 6, 3) := by decide +kernel
theorem dX10_cleaning_14 : decode cX10_cleaning 14 = .ok (.bipush (-2), 2) := by decide +kernel
theorem dX10_cleaning_16 : decode cX10_cleaning 16 = .ok (.ireturn, 1) := by decide +kernel
theorem dX10_cleaning_17 : decode cX10_cleaning 17 = .ok (.iload_n 3, 1) := by decide +kernel
theorem dX10_cleaning_18 : decode cX10_cleaning 18 = .ok (.iconst 0, 1) := by decide +kernel
theorem dX10_cleaning_19 : decode cX10_cleaning 19 = .ok (.sipush 1000, 3) := by decide +kernel
theorem dX10_cleaning_22 : decode cX10_cleaning 22 = .ok (.invokestatic 133, 3) := by decide +kernel
theorem dX10_cleaning_25 : decode cX10_cleaning 25 = .ok (.ifCond .ne 6, 3) := by decide +kernel
theorem dX10_cleaning_28 : decode cX10_cleaning 28 = .ok (.bipush (-3), 2) := by decide +kernel
theorem dX10_cleaning_30 : decode cX10_cleaning 30 = .ok (.ireturn, 1) := by decide +kernel
theorem dX10_cleaning_31 : decode cX10_cleaning 31 = .ok (.aload_n 0, 1) := by decide +kernel
theorem dX10_cleaning_32 : decode cX10_cleaning 32 = .ok (.getfield 115, 3) := by decide +kernel
theorem dX10_cleaning_35 : decode cX10_cleaning 35 = .ok (.bipush 6, 2) := by decide +kernel
theorem dX10_cleaning_37 : decode cX10_cleaning 37 = .ok (.iload_n 1, 1) := by decide +kernel
theorem dX10_cleaning_38 : decode cX10_cleaning 38 = .ok (.imul, 1) := by decide +kernel
theorem dX10_cleaning_39 : decode cX10_cleaning 39 = .ok (.iload_n 2, 1) := by decide +kernel
theorem dX10_cleaning_40 : decode cX10_cleaning 40 = .ok (.iadd, 1) := by decide +kernel
theorem dX10_cleaning_41 : decode cX10_cleaning 41 = .ok (.iaload, 1) := by decide +kernel
theorem dX10_cleaning_42 : decode cX10_cleaning 42 = .ok (.istore 4, 2) := by decide +kernel
theorem dX10_cleaning_44 : decode cX10_cleaning 44 = .ok (.aload_n 0, 1) := by decide +kernel
theorem dX10_cleaning_45 : decode cX10_cleaning 45 = .ok (.getfield 115, 3) := by decide +kernel
theorem dX10_cleaning_48 : decode cX10_cleaning 48 = .ok (.bipush 6, 2) := by decide +kernel
theorem dX10_cleaning_50 : decode cX10_cleaning 50 = .ok (.iload_n 1, 1) := by decide +kernel
theorem dX10_cleaning_51 : decode cX10_cleaning 51 = .ok (.imul, 1) := by decide +kernel
theorem dX10_cleaning_52 : decode cX10_cleaning 52 = .ok (.iload_n 2, 1) := by decide +kernel
theorem dX10_cleaning_53 : decode cX10_cleaning 53 = .ok (.iadd, 1) := by decide +kernel
theorem dX10_cleaning_54 : decode cX10_cleaning 54 = .ok (.iload_n 3, 1) := by decide +kernel
theorem dX10_cleaning_55 : decode cX10_cleaning 55 = .ok (.iastore, 1) := by decide +kernel
theorem dX10_cleaning_56 : decode cX10_cleaning 56 = .ok (.iload 4, 2) := by decide +kernel
theorem dX10_cleaning_58 : decode cX10_cleaning 58 = .ok (.ireturn, 1) := by decide +kernel
theorem dX10_through_0 : decode cX10_through 0 = .ok (.aload_n 0, 1) := by decide +kernel
theorem dX10_through_1 : decode cX10_through 1 = .ok (.getfield 106, 3) := by decide +kernel
theorem dX10_through_4 : decode cX10_through 4 = .ok (.iload_n 3, 1) := by decide +kernel
theorem dX10_through_5 : decode cX10_through 5 = .ok (.iaload, 1) := by decide +kernel
theorem dX10_through_6 : decode cX10_through 6 = .ok (.istore 4, 2) := by decide +kernel
theorem dX10_through_8 : decode cX10_through 8 = .ok (.iconst 0, 1) := by decide +kernel
theorem dX10_through_9 : decode cX10_through 9 = .ok (.istore 5, 2) := by decide +kernel
theorem dX10_through_11 : decode cX10_through 11 = .ok (.iload 5, 2) := by decide +kernel
theorem dX10_through_13 : decode cX10_through 13 = .ok (.aload_n 0, 1) := by decide +kernel
theorem dX10_through_14 : decode cX10_through 14 = .ok (.getfield 219, 3) := by decide +kernel
theorem dX10_through_17 : decode cX10_through 17 = .ok (.if_icmp .ge 35, 3) := by decide +kernel
theorem dX10_through_20 : decode cX10_through 20 = .ok (.iload 4, 2) := by decide +kernel
theorem dX10_through_22 : decode cX10_through 22 = .ok (.iload_n 1, 1) := by decide +kernel
theorem dX10_through_23 : decode cX10_through 23 = .ok (.iload 5, 2) := by decide +kernel
theorem dX10_through_25 : decode cX10_through 25 = .ok (.ishr, 1) := by decide +kernel
theorem dX10_through_26 : decode cX10_through 26 = .ok (.iconst 1, 1) := by decide +kernel
theorem dX10_through_27 : decode cX10_through 27 = .ok (.iand, 1) := by decide +kernel
theorem dX10_through_28 : decode cX10_through 28 = .ok (.iconst 1, 1) := by decide +kernel
theorem dX10_through_29 : decode cX10_through 29 = .ok (.if_icmp .ne 13, 3) := by decide +kernel
theorem dX10_through_32 : decode cX10_through 32 = .ok (.aload_n 0, 1) := by decide +kernel
theorem dX10_through_33 : decode cX10_through 33 = .ok (.getfield 106, 3) := by decide +kernel
theorem dX10_through_36 : decode cX10_through 36 = .ok (.iload 5, 2) := by decide +kernel
theorem dX10_through_38 : decode cX10_through 38 = .ok (.iaload, 1) := by decide +kernel
theorem dX10_through_39 : decode cX10_through 39 = .ok (.goto 4, 3) := by decide +kernel
theorem dX10_through_42 : decode cX10_through 42 = .ok (.iconst 0, 1) := by decide +kernel
theorem dX10_through_43 : decode cX10_through 43 = .ok (.iadd, 1) := by decide +kernel
theorem dX10_through_44 : decode cX10_through 44 = .ok (.istore 4, 2) := by decide +kernel
theorem dX10_through_46 : decode cX10_through 46 = .ok (.iinc 5 1, 3) := by decide +kernel
theorem dX10_through_49 : decode cX10_through 49 = .ok (.goto (-38), 3) := by decide +kernel
theorem dX10_through_52 : decode cX10_through 52 = .ok (.iload 4, 2) := by decide +kernel
theorem dX10_through_54 : decode cX10_through 54 = .ok (.aload_n 0, 1) := by decide +kernel
theorem dX10_through_55 : decode cX10_through 55 = .ok (.getfield 109, 3) := by decide +kernel
theorem dX10_through_58 : decode cX10_through 58 = .ok (.iload_n 3, 1) := by decide +kernel
theorem dX10_through_59 : decode cX10_through 59 = .ok (.iaload, 1) := by decide +kernel
theorem dX10_through_60 : decode cX10_through 60 = .ok (.if_icmp .le 15, 3) := by decide +kernel
theorem dX10_through_63 : decode cX10_through 63 = .ok (.iload 4, 2) := by decide +kernel
theorem dX10_through_65 : decode cX10_through 65 = .ok (.aload_n 0, 1) := by decide +kernel
theorem dX10_through_66 : decode cX10_through 66 = .ok (.getfield 109, 3) := by decide +kernel
theorem dX10_through_69 : decode cX10_through 69 = .ok (.iload_n 3, 1) := by decide +kernel
theorem dX10_through_70 : decode cX10_through 70 = .ok (.iaload, 1) := by decide +kernel
theorem dX10_through_71 : decode cX10_through 71 = .ok (.isub, 1) := by decide +kernel
theorem dX10_through_72 : decode cX10_through 72 = .ok (.goto 4, 3) := by decide +kernel
theorem dX10_through_75 : decode cX10_through 75 = .ok (.iconst 0, 1) := by decide +kernel
theorem dX10_through_76 : decode cX10_through 76 = .ok (.istore 5, 2) := by decide +kernel
theorem dX10_through_78 : decode cX10_through 78 = .ok (.aload_n 0, 1) := by decide +kernel
theorem dX10_through_79 : decode cX10_through 79 = .ok (.getfield 115, 3) := by decide +kernel
theorem dX10_through_82 : decode cX10_through 82 = .ok (.bipush 6, 2) := by decide +kernel
theorem dX10_through_84 : decode cX10_through 84 = .ok (.iload_n 2, 1) := by decide +kernel
theorem dX10_through_85 : decode cX10_through 85 = .ok (.imul, 1) := by decide +kernel
theorem dX10_through_86 : decode cX10_through 86 = .ok (.aload_n 0, 1) := by decide +kernel
theorem dX10_through_87 : decode cX10_through 87 = .ok (.getfield 103, 3) := by decide +kernel
theorem dX10_through_90 : decode cX10_through 90 = .ok (.iload_n 3, 1) := by decide +kernel
theorem dX10_through_91 : decode cX10_through 91 = .ok (.iaload, 1) := by decide +kernel
theorem dX10_through_92 : decode cX10_through 92 = .ok (.iadd, 1) := by decide +kernel
theorem dX10_through_93 : decode cX10_through 93 = .ok (.iaload, 1) := by decide +kernel
theorem dX10_through_94 : decode cX10_through 94 = .ok (.aload_n 0, 1) := by decide +kernel
theorem dX10_through_95 : decode cX10_through 95 = .ok (.getfield 112, 3) := by decide +kernel
theorem dX10_through_98 : decode cX10_through 98 = .ok (.iload_n 3, 1) := by decide +kernel
theorem dX10_through_99 : decode cX10_through 99 = .ok (.iaload, 1) := by decide +kernel
theorem dX10_through_100 : decode cX10_through 100 = .ok (.iload 5, 2) := by decide +kernel
theorem dX10_through_102 : decode cX10_through 102 = .ok (.imul, 1) := by decide +kernel
theorem dX10_through_103 : decode cX10_through 103 = .ok (.iadd, 1) := by decide +kernel
theorem dX10_through_104 : decode cX10_through 104 = .ok (.aload_n 0, 1) := by decide +kernel
theorem dX10_through_105 : decode cX10_through 105 = .ok (.getfield 121, 3) := by decide +kernel
theorem dX10_through_108 : decode cX10_through 108 = .ok (.bipush 9, 2) := by decide +kernel
theorem dX10_through_110 : decode cX10_through 110 = .ok (.iload_n 1, 1) := by decide +kernel
theorem dX10_through_111 : decode cX10_through 111 = .ok (.iconst 1, 1) := by decide +kernel
theorem dX10_through_112 : decode cX10_through 112 = .ok (.iload_n 3, 1) := by decide +kernel
theorem dX10_through_113 : decode cX10_through 113 = .ok (.ishl, 1) := by decide +kernel
theorem dX10_through_114 : decode cX10_through 114 = .ok (.ior, 1) := by decide +kernel
theorem dX10_through_115 : decode cX10_through 115 = .ok (.imul, 1) := by decide +kernel
theorem dX10_through_116 : decode cX10_through 116 = .ok (.iload_n 3, 1) := by decide +kernel
theorem dX10_through_117 : decode cX10_through 117 = .ok (.iadd, 1) := by decide +kernel
theorem dX10_through_118 : decode cX10_through 118 = .ok (.iaload, 1) := by decide +kernel
theorem dX10_through_119 : decode cX10_through 119 = .ok (.iadd, 1) := by decide +kernel
theorem dX10_through_120 : decode cX10_through 120 = .ok (.ireturn, 1) := by decide +kernel
theorem dX10_bestNext_0 : decode cX10_bestNext 0 = .ok (.iconst (-1), 1) := by decide +kernel
theorem dX10_bestNext_1 : decode cX10_bestNext 1 = .ok (.istore_n 3, 1) := by decide +kernel
theorem dX10_bestNext_2 : decode cX10_bestNext 2 = .ok (.iconst 0, 1) := by decide +kernel
theorem dX10_bestNext_3 : decode cX10_bestNext 3 = .ok (.istore 4, 2) := by decide +kernel
theorem dX10_bestNext_5 : decode cX10_bestNext 5 = .ok (.iload 4, 2) := by decide +kernel
theorem dX10_bestNext_7 : decode cX10_bestNext 7 = .ok (.aload_n 0, 1) := by decide +kernel
theorem dX10_bestNext_8 : decode cX10_bestNext 8 = .ok (.getfield 219, 3) := by decide +kernel
theorem dX10_bestNext_11 : decode cX10_bestNext 11 = .ok (.if_icmp .ge 44, 3) := by decide +kernel
theorem dX10_bestNext_14 : decode cX10_bestNext 14 = .ok (.iload_n 1, 1) := by decide +kernel
theorem dX10_bestNext_15 : decode cX10_bestNext 15 = .ok (.iload 4, 2) := by decide +kernel
theorem dX10_bestNext_17 : decode cX10_bestNext 17 = .ok (.ishr, 1) := by decide +kernel
theorem dX10_bestNext_18 : decode cX10_bestNext 18 = .ok (.iconst 1, 1) := by decide +kernel
theorem dX10_bestNext_19 : decode cX10_bestNext 19 = .ok (.iand, 1) := by decide +kernel
theorem dX10_bestNext_20 : decode cX10_bestNext 20 = .ok (.ifCond .ne 29, 3) := by decide +kernel
theorem dX10_bestNext_23 : decode cX10_bestNext 23 = .ok (.iload_n 3, 1) := by decide +kernel
theorem dX10_bestNext_24 : decode cX10_bestNext 24 = .ok (.iconst (-1), 1) := by decide +kernel
theorem dX10_bestNext_25 : decode cX10_bestNext 25 = .ok (.if_icmp .eq 21, 3) := by decide +kernel
theorem dX10_bestNext_28 : decode cX10_bestNext 28 = .ok (.aload_n 0, 1) := by decide +kernel
theorem dX10_bestNext_29 : decode cX10_bestNext 29 = .ok (.iload_n 1, 1) := by decide +kernel
theorem dX10_bestNext_30 : decode cX10_bestNext 30 = .ok (.iload_n 2, 1) := by decide +kernel
theorem dX10_bestNext_31 : decode cX10_bestNext 31 = .ok (.iload 4, 2) := by decide +kernel
theorem dX10_bestNext_33 : decode cX10_bestNext 33 = .ok (.invokevirtual 222, 3) := by decide +kernel
theorem dX10_bestNext_36 : decode cX10_bestNext 36 = .ok (.aload_n 0, 1) := by decide +kernel
theorem dX10_bestNext_37 : decode cX10_bestNext 37 = .ok (.iload_n 1, 1) := by decide +kernel
theorem dX10_bestNext_38 : decode cX10_bestNext 38 = .ok (.iload_n 2, 1) := by decide +kernel
theorem dX10_bestNext_39 : decode cX10_bestNext 39 = .ok (.iload_n 3, 1) := by decide +kernel
theorem dX10_bestNext_40 : decode cX10_bestNext 40 = .ok (.invokevirtual 222, 3) := by decide +kernel
theorem dX10_bestNext_43 : decode cX10_bestNext 43 = .ok (.if_icmp .ge 6, 3) := by decide +kernel
theorem dX10_bestNext_46 : decode cX10_bestNext 46 = .ok (.iload 4, 2) := by decide +kernel
theorem dX10_bestNext_48 : decode cX10_bestNext 48 = .ok (.istore_n 3, 1) := by decide +kernel
theorem dX10_bestNext_49 : decode cX10_bestNext 49 = .ok (.iinc 4 1, 3) := by decide +kernel
theorem dX10_bestNext_52 : decode cX10_bestNext 52 = .ok (.goto (-47), 3) := by decide +kernel
theorem dX10_bestNext_55 : decode cX10_bestNext 55 = .ok (.iload_n 3, 1) := by decide +kernel
theorem dX10_bestNext_56 : decode cX10_bestNext 56 = .ok (.ireturn, 1) := by decide +kernel
theorem dX10_plan_0 : decode cX10_plan 0 = .ok (.iload_n 1, 1) := by decide +kernel
theorem dX10_plan_1 : decode cX10_plan 1 = .ok (.invokestatic 216, 3) := by decide +kernel
theorem dX10_plan_4 : decode cX10_plan 4 = .ok (.ifCond .ne 6, 3) := by decide +kernel
theorem dX10_plan_7 : decode cX10_plan 7 = .ok (.bipush (-2), 2) := by decide +kernel
theorem dX10_plan_9 : decode cX10_plan 9 = .ok (.ireturn, 1) := by decide +kernel
theorem dX10_plan_10 : decode cX10_plan 10 = .ok (.iconst 1, 1) := by decide +kernel
theorem dX10_plan_11 : decode cX10_plan 11 = .ok (.aload_n 0, 1) := by decide +kernel
theorem dX10_plan_12 : decode cX10_plan 12 = .ok (.getfield 219, 3) := by decide +kernel
theorem dX10_plan_15 : decode cX10_plan 15 = .ok (.ishl, 1) := by decide +kernel
theorem dX10_plan_16 : decode cX10_plan 16 = .ok (.iconst 1, 1) := by decide +kernel
theorem dX10_plan_17 : decode cX10_plan 17 = .ok (.isub, 1) := by decide +kernel
theorem dX10_plan_18 : decode cX10_plan 18 = .ok (.istore_n 2, 1) := by decide +kernel
theorem dX10_plan_19 : decode cX10_plan 19 = .ok (.iload_n 2, 1) := by decide +kernel
theorem dX10_plan_20 : decode cX10_plan 20 = .ok (.istore_n 3, 1) := by decide +kernel
theorem dX10_plan_21 : decode cX10_plan 21 = .ok (.iload_n 3, 1) := by decide +kernel
theorem dX10_plan_22 : decode cX10_plan 22 = .ok (.ifCond .lt 91, 3) := by decide +kernel
theorem dX10_plan_25 : decode cX10_plan 25 = .ok (.iconst 0, 1) := by decide +kernel
theorem dX10_plan_26 : decode cX10_plan 26 = .ok (.istore 4, 2) := by decide +kernel
theorem dX10_plan_28 : decode cX10_plan 28 = .ok (.iload 4, 2) := by decide +kernel
theorem dX10_plan_30 : decode cX10_plan 30 = .ok (.aload_n 0, 1) := by decide +kernel
theorem dX10_plan_31 : decode cX10_plan 31 = .ok (.getfield 219, 3) := by decide +kernel
theorem dX10_plan_34 : decode cX10_plan 34 = .ok (.if_icmp .ge 73, 3) := by decide +kernel
theorem dX10_plan_37 : decode cX10_plan 37 = .ok (.iload_n 3, 1) := by decide +kernel
theorem dX10_plan_38 : decode cX10_plan 38 = .ok (.iload 4, 2) := by decide +kernel
theorem dX10_plan_40 : decode cX10_plan 40 = .ok (.ishr, 1) := by decide +kernel
theorem dX10_plan_41 : decode cX10_plan 41 = .ok (.iconst 1, 1) := by decide +kernel
theorem dX10_plan_42 : decode cX10_plan 42 = .ok (.iand, 1) := by decide +kernel
theorem dX10_plan_43 : decode cX10_plan 43 = .ok (.iconst 1, 1) := by decide +kernel
theorem dX10_plan_44 : decode cX10_plan 44 = .ok (.if_icmp .ne 18, 3) := by decide +kernel
theorem dX10_plan_47 : decode cX10_plan 47 = .ok (.aload_n 0, 1) := by decide +kernel
theorem dX10_plan_48 : decode cX10_plan 48 = .ok (.iload_n 3, 1) := by decide +kernel
theorem dX10_plan_49 : decode cX10_plan 49 = .ok (.aload_n 0, 1) := by decide +kernel
theorem dX10_plan_50 : decode cX10_plan 50 = .ok (.getfield 103, 3) := by decide +kernel
theorem dX10_plan_53 : decode cX10_plan 53 = .ok (.iload 4, 2) := by decide +kernel
theorem dX10_plan_55 : decode cX10_plan 55 = .ok (.iaload, 1) := by decide +kernel
theorem dX10_plan_56 : decode cX10_plan 56 = .ok (.invokevirtual 226, 3) := by decide +kernel
theorem dX10_plan_59 : decode cX10_plan 59 = .ok (.goto 4, 3) := by decide +kernel
theorem dX10_plan_62 : decode cX10_plan 62 = .ok (.iconst (-1), 1) := by decide +kernel
theorem dX10_plan_63 : decode cX10_plan 63 = .ok (.istore 5, 2) := by decide +kernel
theorem dX10_plan_65 : decode cX10_plan 65 = .ok (.aload_n 0, 1) := by decide +kernel
theorem dX10_plan_66 : decode cX10_plan 66 = .ok (.getfield 121, 3) := by decide +kernel
theorem dX10_plan_69 : decode cX10_plan 69 = .ok (.bipush 9, 2) := by decide +kernel
theorem dX10_plan_71 : decode cX10_plan 71 = .ok (.iload_n 3, 1) := by decide +kernel
theorem dX10_plan_72 : decode cX10_plan 72 = .ok (.imul, 1) := by decide +kernel
theorem dX10_plan_73 : decode cX10_plan 73 = .ok (.iload 4, 2) := by decide +kernel
theorem dX10_plan_75 : decode cX10_plan 75 = .ok (.iadd, 1) := by decide +kernel
theorem dX10_plan_76 : decode cX10_plan 76 = .ok (.iload 5, 2) := by decide +kernel
theorem dX10_plan_78 : decode cX10_plan 78 = .ok (.iconst (-1), 1) := by decide +kernel
theorem dX10_plan_79 : decode cX10_plan 79 = .ok (.if_icmp .ne 7, 3) := by decide +kernel
theorem dX10_plan_82 : decode cX10_plan 82 = .ok (.iconst 0, 1) := by decide +kernel
theorem dX10_plan_83 : decode cX10_plan 83 = .ok (.goto 17, 3) := by decide +kernel
theorem dX10_plan_86 : decode cX10_plan 86 = .ok (.aload_n 0, 1) := by decide +kernel
theorem dX10_plan_87 : decode cX10_plan 87 = .ok (.iload_n 3, 1) := by decide +kernel
theorem dX10_plan_88 : decode cX10_plan 88 = .ok (.aload_n 0, 1) := by decide +kernel
theorem dX10_plan_89 : decode cX10_plan 89 = .ok (.getfield 103, 3) := by decide +kernel
theorem dX10_plan_92 : decode cX10_plan 92 = .ok (.iload 4, 2) := by decide +kernel
theorem dX10_plan_94 : decode cX10_plan 94 = .ok (.iaload, 1) := by decide +kernel
theorem dX10_plan_95 : decode cX10_plan 95 = .ok (.iload 5, 2) := by decide +kernel
theorem dX10_plan_97 : decode cX10_plan 97 = .ok (.invokevirtual 222, 3) := by decide +kernel
theorem dX10_plan_100 : decode cX10_plan 100 = .ok (.iastore, 1) := by decide +kernel
theorem dX10_plan_101 : decode cX10_plan 101 = .ok (.iinc 4 1, 3) := by decide +kernel
theorem dX10_plan_104 : decode cX10_plan 104 = .ok (.goto (-76), 3) := by decide +kernel
theorem dX10_plan_107 : decode cX10_plan 107 = .ok (.iinc 3 (-1), 3) := by decide +kernel
theorem dX10_plan_110 : decode cX10_plan 110 = .ok (.goto (-89), 3) := by decide +kernel
theorem dX10_plan_113 : decode cX10_plan 113 = .ok (.iconst 0, 1) := by decide +kernel
theorem dX10_plan_114 : decode cX10_plan 114 = .ok (.istore_n 3, 1) := by decide +kernel
theorem dX10_plan_115 : decode cX10_plan 115 = .ok (.iload_n 1, 1) := by decide +kernel
theorem dX10_plan_116 : decode cX10_plan 116 = .ok (.istore 4, 2) := by decide +kernel
theorem dX10_plan_118 : decode cX10_plan 118 = .ok (.aload_n 0, 1) := by decide +kernel
theorem dX10_plan_119 : decode cX10_plan 119 = .ok (.getfield 219, 3) := by decide +kernel
theorem dX10_plan_122 : decode cX10_plan 122 = .ok (.ifCond .ne 7, 3) := by decide +kernel
theorem dX10_plan_125 : decode cX10_plan 125 = .ok (.iconst 0, 1) := by decide +kernel
theorem dX10_plan_126 : decode cX10_plan 126 = .ok (.goto 15, 3) := by decide +kernel
theorem dX10_plan_129 : decode cX10_plan 129 = .ok (.aload_n 0, 1) := by decide +kernel
theorem dX10_plan_130 : decode cX10_plan 130 = .ok (.iconst 0, 1) := by decide +kernel
theorem dX10_plan_131 : decode cX10_plan 131 = .ok (.iload_n 1, 1) := by decide +kernel
theorem dX10_plan_132 : decode cX10_plan 132 = .ok (.aload_n 0, 1) := by decide +kernel
theorem dX10_plan_133 : decode cX10_plan 133 = .ok (.iconst 0, 1) := by decide +kernel
theorem dX10_plan_134 : decode cX10_plan 134 = .ok (.iload_n 1, 1) := by decide +kernel
theorem dX10_plan_135 : decode cX10_plan 135 = .ok (.invokevirtual 226, 3) := by decide +kernel
theorem dX10_plan_138 : decode cX10_plan 138 = .ok (.invokevirtual 222, 3) := by decide +kernel
theorem dX10_plan_141 : decode cX10_plan 141 = .ok (.istore 5, 2) := by decide +kernel
theorem dX10_plan_143 : decode cX10_plan 143 = .ok (.iconst 0, 1) := by decide +kernel
theorem dX10_plan_144 : decode cX10_plan 144 = .ok (.istore 6, 2) := by decide +kernel
theorem dX10_plan_146 : decode cX10_plan 146 = .ok (.iload 6, 2) := by decide +kernel
theorem dX10_plan_148 : decode cX10_plan 148 = .ok (.aload_n 0, 1) := by decide +kernel
theorem dX10_plan_149 : decode cX10_plan 149 = .ok (.getfield 219, 3) := by decide +kernel
theorem dX10_plan_152 : decode cX10_plan 152 = .ok (.if_icmp .ge 43, 3) := by decide +kernel
theorem dX10_plan_155 : decode cX10_plan 155 = .ok (.aload_n 0, 1) := by decide +kernel
theorem dX10_plan_156 : decode cX10_plan 156 = .ok (.iload_n 3, 1) := by decide +kernel
theorem dX10_plan_157 : decode cX10_plan 157 = .ok (.iload 4, 2) := by decide +kernel
theorem dX10_plan_159 : decode cX10_plan 159 = .ok (.invokevirtual 226, 3) := by decide +kernel
theorem dX10_plan_162 : decode cX10_plan 162 = .ok (.istore 7, 2) := by decide +kernel
theorem dX10_plan_164 : decode cX10_plan 164 = .ok (.aload_n 0, 1) := by decide +kernel
theorem dX10_plan_165 : decode cX10_plan 165 = .ok (.getfield 118, 3) := by decide +kernel
theorem dX10_plan_168 : decode cX10_plan 168 = .ok (.iload 6, 2) := by decide +kernel
theorem dX10_plan_170 : decode cX10_plan 170 = .ok (.iload 7, 2) := by decide +kernel
theorem dX10_plan_172 : decode cX10_plan 172 = .ok (.iastore, 1) := by decide +kernel
theorem dX10_plan_173 : decode cX10_plan 173 = .ok (.iload_n 3, 1) := by decide +kernel
theorem dX10_plan_174 : decode cX10_plan 174 = .ok (.iconst 1, 1) := by decide +kernel
theorem dX10_plan_175 : decode cX10_plan 175 = .ok (.iload 7, 2) := by decide +kernel
theorem dX10_plan_177 : decode cX10_plan 177 = .ok (.ishl, 1) := by decide +kernel
theorem dX10_plan_178 : decode cX10_plan 178 = .ok (.ior, 1) := by decide +kernel
theorem dX10_plan_179 : decode cX10_plan 179 = .ok (.istore_n 3, 1) := by decide +kernel
theorem dX10_plan_180 : decode cX10_plan 180 = .ok (.aload_n 0, 1) := by decide +kernel
theorem dX10_plan_181 : decode cX10_plan 181 = .ok (.getfield 103, 3) := by decide +kernel
theorem dX10_plan_184 : decode cX10_plan 184 = .ok (.iload 7, 2) := by decide +kernel
theorem dX10_plan_186 : decode cX10_plan 186 = .ok (.iaload, 1) := by decide +kernel
theorem dX10_plan_187 : decode cX10_plan 187 = .ok (.istore 4, 2) := by decide +kernel
theorem dX10_plan_189 : decode cX10_plan 189 = .ok (.iinc 6 1, 3) := by decide +kernel
theorem dX10_plan_192 : decode cX10_plan 192 = .ok (.goto (-46), 3) := by decide +kernel
theorem dX10_plan_195 : decode cX10_plan 195 = .ok (.aload_n 0, 1) := by decide +kernel
theorem dX10_plan_196 : decode cX10_plan 196 = .ok (.aload_n 0, 1) := by decide +kernel
theorem dX10_plan_197 : decode cX10_plan 197 = .ok (.getfield 219, 3) := by decide +kernel
theorem dX10_plan_200 : decode cX10_plan 200 = .ok (.putfield 230, 3) := by decide +kernel
theorem dX10_plan_203 : decode cX10_plan 203 = .ok (.iload 5, 2) := by decide +kernel
theorem dX10_plan_205 : decode cX10_plan 205 = .ok (.ireturn, 1) := by decide +kernel
theorem dX10_planned_0 : decode cX10_planned 0 = .ok (.iload_n 1, 1) := by decide +kernel
theorem dX10_planned_1 : decode cX10_planned 1 = .ok (.iconst 0, 1) := by decide +kernel
theorem dX10_planned_2 : decode cX10_planned 2 = .ok (.aload_n 0, 1) := by decide +kernel
theorem dX10_planned_3 : decode cX10_planned 3 = .ok (.getfield 230, 3) := by decide +kernel
theorem dX10_planned_6 : decode cX10_planned 6 = .ok (.iconst 1, 1) := by decide +kernel
theorem dX10_planned_7 : decode cX10_planned 7 = .ok (.isub, 1) := by decide +kernel
theorem dX10_planned_8 : decode cX10_planned 8 = .ok (.invokestatic 133, 3) := by decide +kernel
theorem dX10_planned_11 : decode cX10_planned 11 = .ok (.ifCond .eq 12, 3) := by decide +kernel
theorem dX10_planned_14 : decode cX10_planned 14 = .ok (.aload_n 0, 1) := by decide +kernel
theorem dX10_planned_15 : decode cX10_planned 15 = .ok (.getfield 118, 3) := by decide +kernel
theorem dX10_planned_18 : decode cX10_planned 18 = .ok (.iload_n 1, 1) := by decide +kernel
theorem dX10_planned_19 : decode cX10_planned 19 = .ok (.iaload, 1) := by decide +kernel
theorem dX10_planned_20 : decode cX10_planned 20 = .ok (.goto 5, 3) := by decide +kernel
theorem dX10_planned_23 : decode cX10_planned 23 = .ok (.bipush (-2), 2) := by decide +kernel
theorem dX10_planned_25 : decode cX10_planned 25 = .ok (.ireturn, 1) := by decide +kernel
theorem dX10_idle_0 : decode cX10_idle 0 = .ok (.aload_n 0, 1) := by decide +kernel
theorem dX10_idle_1 : decode cX10_idle 1 = .ok (.getfield 219, 3) := by decide +kernel
theorem dX10_idle_4 : decode cX10_idle 4 = .ok (.istore_n 1, 1) := by decide +kernel
theorem dX10_idle_5 : decode cX10_idle 5 = .ok (.aload_n 0, 1) := by decide +kernel
theorem dX10_idle_6 : decode cX10_idle 6 = .ok (.iconst 0, 1) := by decide +kernel
theorem dX10_idle_7 : decode cX10_idle 7 = .ok (.putfield 219, 3) := by decide +kernel
theorem dX10_idle_10 : decode cX10_idle 10 = .ok (.iload_n 1, 1) := by decide +kernel
theorem dX10_idle_11 : decode cX10_idle 11 = .ok (.ireturn, 1) := by decide +kernel
theorem dX10_count_0 : decode cX10_count 0 = .ok (.iload_n 1, 1) := by decide +kernel
theorem dX10_count_1 : decode cX10_count 1 = .ok (.tableswitch 87 0 7 #[47, 52, 57, 62, 67, 72, 77, 82], 47) := by decide +kernel
theorem dX10_count_48 : decode cX10_count 48 = .ok (.aload_n 0, 1) := by decide +kernel
theorem dX10_count_49 : decode cX10_count 49 = .ok (.getfield 130, 3) := by decide +kernel
theorem dX10_count_52 : decode cX10_count 52 = .ok (.ireturn, 1) := by decide +kernel
theorem dX10_count_53 : decode cX10_count 53 = .ok (.aload_n 0, 1) := by decide +kernel
theorem dX10_count_54 : decode cX10_count 54 = .ok (.getfield 144, 3) := by decide +kernel
theorem dX10_count_57 : decode cX10_count 57 = .ok (.ireturn, 1) := by decide +kernel
theorem dX10_count_58 : decode cX10_count 58 = .ok (.aload_n 0, 1) := by decide +kernel
theorem dX10_count_59 : decode cX10_count 59 = .ok (.getfield 158, 3) := by decide +kernel
theorem dX10_count_62 : decode cX10_count 62 = .ok (.ireturn, 1) := by decide +kernel
theorem dX10_count_63 : decode cX10_count 63 = .ok (.aload_n 0, 1) := by decide +kernel
theorem dX10_count_64 : decode cX10_count 64 = .ok (.getfield 137, 3) := by decide +kernel
theorem dX10_count_67 : decode cX10_count 67 = .ok (.ireturn, 1) := by decide +kernel
theorem dX10_count_68 : decode cX10_count 68 = .ok (.aload_n 0, 1) := by decide +kernel
theorem dX10_count_69 : decode cX10_count 69 = .ok (.getfield 209, 3) := by decide +kernel
theorem dX10_count_72 : decode cX10_count 72 = .ok (.ireturn, 1) := by decide +kernel
theorem dX10_count_73 : decode cX10_count 73 = .ok (.aload_n 0, 1) := by decide +kernel
theorem dX10_count_74 : decode cX10_count 74 = .ok (.getfield 219, 3) := by decide +kernel
theorem dX10_count_77 : decode cX10_count 77 = .ok (.ireturn, 1) := by decide +kernel
theorem dX10_count_78 : decode cX10_count 78 = .ok (.aload_n 0, 1) := by decide +kernel
theorem dX10_count_79 : decode cX10_count 79 = .ok (.getfield 147, 3) := by decide +kernel
theorem dX10_count_82 : decode cX10_count 82 = .ok (.ireturn, 1) := by decide +kernel
theorem dX10_count_83 : decode cX10_count 83 = .ok (.aload_n 0, 1) := by decide +kernel
theorem dX10_count_84 : decode cX10_count 84 = .ok (.getfield 206, 3) := by decide +kernel
theorem dX10_count_87 : decode cX10_count 87 = .ok (.ireturn, 1) := by decide +kernel
theorem dX10_count_88 : decode cX10_count 88 = .ok (.bipush (-3), 2) := by decide +kernel
theorem dX10_count_90 : decode cX10_count 90 = .ok (.ireturn, 1) := by decide +kernel
