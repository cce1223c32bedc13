theorem dX0_init_0 : decode cX0_init 0 = .ok (.aload_n 0, 1) := by decide +kernel
theorem dX0_init_1 : decode cX0_init 1 = .ok (.invokespecial 1, 3) := by decide +kernel
theorem dX0_init_4 : decode cX0_init 4 = .ok (.aload_n 0, 1) := by decide +kernel
theorem dX0_init_5 : decode cX0_init 5 = .ok (.new 7, 3) := by decide +kernel
theorem dX0_init_8 : decode cX0_init 8 = .ok (.dup, 1) := by decide +kernel
theorem dX0_init_9 : decode cX0_init 9 = .ok (.invokespecial 9, 3) := by decide +kernel
theorem dX0_init_12 : decode cX0_init 12 = .ok (.putfield 10, 3) := by decide +kernel
theorem dX0_init_15 : decode cX0_init 15 = .ok (.aload_n 0, 1) := by decide +kernel
theorem dX0_init_16 : decode cX0_init 16 = .ok (.iconst 0, 1) := by decide +kernel
theorem dX0_init_17 : decode cX0_init 17 = .ok (.putfield 16, 3) := by decide +kernel
theorem dX0_init_20 : decode cX0_init 20 = .ok (.return_, 1) := by decide +kernel
theorem dX1_init_0 : decode cX1_init 0 = .ok (.aload_n 0, 1) := by decide +kernel
theorem dX1_init_1 : decode cX1_init 1 = .ok (.invokespecial 3, 3) := by decide +kernel
theorem dX1_init_4 : decode cX1_init 4 = .ok (.aload_n 0, 1) := by decide +kernel
theorem dX1_init_5 : decode cX1_init 5 = .ok (.bipush 72, 2) := by decide +kernel
theorem dX1_init_7 : decode cX1_init 7 = .ok (.newarray .boolean, 2) := by decide +kernel
theorem dX1_init_9 : decode cX1_init 9 = .ok (.putfield 9, 3) := by decide +kernel
theorem dX1_init_12 : decode cX1_init 12 = .ok (.aload_n 0, 1) := by decide +kernel
theorem dX1_init_13 : decode cX1_init 13 = .ok (.bipush 72, 2) := by decide +kernel
theorem dX1_init_15 : decode cX1_init 15 = .ok (.newarray .int, 2) := by decide +kernel
theorem dX1_init_17 : decode cX1_init 17 = .ok (.putfield 15, 3) := by decide +kernel
theorem dX1_init_20 : decode cX1_init 20 = .ok (.aload_n 0, 1) := by decide +kernel
theorem dX1_init_21 : decode cX1_init 21 = .ok (.bipush 72, 2) := by decide +kernel
theorem dX1_init_23 : decode cX1_init 23 = .ok (.newarray .int, 2) := by decide +kernel
theorem dX1_init_25 : decode cX1_init 25 = .ok (.putfield 19, 3) := by decide +kernel
theorem dX1_init_28 : decode cX1_init 28 = .ok (.aload_n 0, 1) := by decide +kernel
theorem dX1_init_29 : decode cX1_init 29 = .ok (.bipush 12, 2) := by decide +kernel
theorem dX1_init_31 : decode cX1_init 31 = .ok (.newarray .int, 2) := by decide +kernel
theorem dX1_init_33 : decode cX1_init 33 = .ok (.putfield 22, 3) := by decide +kernel
theorem dX1_init_36 : decode cX1_init 36 = .ok (.aload_n 0, 1) := by decide +kernel
theorem dX1_init_37 : decode cX1_init 37 = .ok (.bipush 96, 2) := by decide +kernel
theorem dX1_init_39 : decode cX1_init 39 = .ok (.newarray .int, 2) := by decide +kernel
theorem dX1_init_41 : decode cX1_init 41 = .ok (.putfield 25, 3) := by decide +kernel
theorem dX1_init_44 : decode cX1_init 44 = .ok (.aload_n 0, 1) := by decide +kernel
theorem dX1_init_45 : decode cX1_init 45 = .ok (.bipush 96, 2) := by decide +kernel
theorem dX1_init_47 : decode cX1_init 47 = .ok (.newarray .int, 2) := by decide +kernel
theorem dX1_init_49 : decode cX1_init 49 = .ok (.putfield 28, 3) := by decide +kernel
theorem dX1_init_52 : decode cX1_init 52 = .ok (.aload_n 0, 1) := by decide +kernel
theorem dX1_init_53 : decode cX1_init 53 = .ok (.iconst 0, 1) := by decide +kernel
theorem dX1_init_54 : decode cX1_init 54 = .ok (.putfield 31, 3) := by decide +kernel
theorem dX1_init_57 : decode cX1_init 57 = .ok (.return_, 1) := by decide +kernel
theorem dX1_has_0 : decode cX1_has 0 = .ok (.iload_n 1, 1) := by decide +kernel
theorem dX1_has_1 : decode cX1_has 1 = .ok (.ifCond .lt 15, 3) := by decide +kernel
theorem dX1_has_4 : decode cX1_has 4 = .ok (.iload_n 1, 1) := by decide +kernel
theorem dX1_has_5 : decode cX1_has 5 = .ok (.aload_n 0, 1) := by decide +kernel
theorem dX1_has_6 : decode cX1_has 6 = .ok (.getfield 31, 3) := by decide +kernel
theorem dX1_has_9 : decode cX1_has 9 = .ok (.if_icmp .ge 7, 3) := by decide +kernel
theorem dX1_has_12 : decode cX1_has 12 = .ok (.iconst 1, 1) := by decide +kernel
theorem dX1_has_13 : decode cX1_has 13 = .ok (.goto 4, 3) := by decide +kernel
theorem dX1_has_16 : decode cX1_has 16 = .ok (.iconst 0, 1) := by decide +kernel
theorem dX1_has_17 : decode cX1_has 17 = .ok (.ireturn, 1) := by decide +kernel
theorem dX1_add_0 : decode cX1_add 0 = .ok (.aload_n 0, 1) := by decide +kernel
theorem dX1_add_1 : decode cX1_add 1 = .ok (.getfield 31, 3) := by decide +kernel
theorem dX1_add_4 : decode cX1_add 4 = .ok (.bipush 12, 2) := by decide +kernel
theorem dX1_add_6 : decode cX1_add 6 = .ok (.if_icmp .lt 6, 3) := by decide +kernel
theorem dX1_add_9 : decode cX1_add 9 = .ok (.bipush (-6), 2) := by decide +kernel
theorem dX1_add_11 : decode cX1_add 11 = .ok (.ireturn, 1) := by decide +kernel
theorem dX1_add_12 : decode cX1_add 12 = .ok (.aload_n 0, 1) := by decide +kernel
theorem dX1_add_13 : decode cX1_add 13 = .ok (.dup, 1) := by decide +kernel
theorem dX1_add_14 : decode cX1_add 14 = .ok (.getfield 31, 3) := by decide +kernel
theorem dX1_add_17 : decode cX1_add 17 = .ok (.iconst 1, 1) := by decide +kernel
theorem dX1_add_18 : decode cX1_add 18 = .ok (.iadd, 1) := by decide +kernel
theorem dX1_add_19 : decode cX1_add 19 = .ok (.putfield 31, 3) := by decide +kernel
theorem dX1_add_22 : decode cX1_add 22 = .ok (.aload_n 0, 1) := by decide +kernel
theorem dX1_add_23 : decode cX1_add 23 = .ok (.getfield 31, 3) := by decide +kernel
theorem dX1_add_26 : decode cX1_add 26 = .ok (.iconst 1, 1) := by decide +kernel
theorem dX1_add_27 : decode cX1_add 27 = .ok (.isub, 1) := by decide +kernel
theorem dX1_add_28 : decode cX1_add 28 = .ok (.ireturn, 1) := by decide +kernel
theorem dX1_need_0 : decode cX1_need 0 = .ok (.aload_n 0, 1) := by decide +kernel
theorem dX1_need_1 : decode cX1_need 1 = .ok (.getfield 25, 3) := by decide +kernel
theorem dX1_need_4 : decode cX1_need 4 = .ok (.iload_n 1, 1) := by decide +kernel
theorem dX1_need_5 : decode cX1_need 5 = .ok (.bipush 8, 2) := by decide +kernel
theorem dX1_need_7 : decode cX1_need 7 = .ok (.imul, 1) := by decide +kernel
theorem dX1_need_8 : decode cX1_need 8 = .ok (.iload_n 2, 1) := by decide +kernel
theorem dX1_need_9 : decode cX1_need 9 = .ok (.iadd, 1) := by decide +kernel
theorem dX1_need_10 : decode cX1_need 10 = .ok (.iaload, 1) := by decide +kernel
theorem dX1_need_11 : decode cX1_need 11 = .ok (.ireturn, 1) := by decide +kernel
theorem dX1_addPart_0 : decode cX1_addPart 0 = .ok (.aload_n 0, 1) := by decide +kernel
theorem dX1_addPart_1 : decode cX1_addPart 1 = .ok (.getfield 22, 3) := by decide +kernel
theorem dX1_addPart_4 : decode cX1_addPart 4 = .ok (.iload_n 1, 1) := by decide +kernel
theorem dX1_addPart_5 : decode cX1_addPart 5 = .ok (.iaload, 1) := by decide +kernel
theorem dX1_addPart_6 : decode cX1_addPart 6 = .ok (.bipush 6, 2) := by decide +kernel
theorem dX1_addPart_8 : decode cX1_addPart 8 = .ok (.if_icmp .lt 6, 3) := by decide +kernel
theorem dX1_addPart_11 : decode cX1_addPart 11 = .ok (.bipush (-6), 2) := by decide +kernel
theorem dX1_addPart_13 : decode cX1_addPart 13 = .ok (.ireturn, 1) := by decide +kernel
theorem dX1_addPart_14 : decode cX1_addPart 14 = .ok (.iload_n 1, 1) := by decide +kernel
theorem dX1_addPart_15 : decode cX1_addPart 15 = .ok (.bipush 6, 2) := by decide +kernel
theorem dX1_addPart_17 : decode cX1_addPart 17 = .ok (.imul, 1) := by decide +kernel
theorem dX1_addPart_18 : decode cX1_addPart 18 = .ok (.aload_n 0, 1) := by decide +kernel
theorem dX1_addPart_19 : decode cX1_addPart 19 = .ok (.getfield 22, 3) := by decide +kernel
theorem dX1_addPart_22 : decode cX1_addPart 22 = .ok (.iload_n 1, 1) := by decide +kernel
theorem dX1_addPart_23 : decode cX1_addPart 23 = .ok (.iaload, 1) := by decide +kernel
theorem dX1_addPart_24 : decode cX1_addPart 24 = .ok (.iadd, 1) := by decide +kernel
theorem dX1_addPart_25 : decode cX1_addPart 25 = .ok (.istore 5, 2) := by decide +kernel
theorem dX1_addPart_27 : decode cX1_addPart 27 = .ok (.aload_n 0, 1) := by decide +kernel
theorem dX1_addPart_28 : decode cX1_addPart 28 = .ok (.getfield 9, 3) := by decide +kernel
theorem dX1_addPart_31 : decode cX1_addPart 31 = .ok (.iload 5, 2) := by decide +kernel
theorem dX1_addPart_33 : decode cX1_addPart 33 = .ok (.iload_n 2, 1) := by decide +kernel
theorem dX1_addPart_34 : decode cX1_addPart 34 = .ok (.bastore, 1) := by decide +kernel
theorem dX1_addPart_35 : decode cX1_addPart 35 = .ok (.aload_n 0, 1) := by decide +kernel
theorem dX1_addPart_36 : decode cX1_addPart 36 = .ok (.getfield 15, 3) := by decide +kernel
theorem dX1_addPart_39 : decode cX1_addPart 39 = .ok (.iload 5, 2) := by decide +kernel
theorem dX1_addPart_41 : decode cX1_addPart 41 = .ok (.iload_n 3, 1) := by decide +kernel
theorem dX1_addPart_42 : decode cX1_addPart 42 = .ok (.iastore, 1) := by decide +kernel
theorem dX1_addPart_43 : decode cX1_addPart 43 = .ok (.aload_n 0, 1) := by decide +kernel
theorem dX1_addPart_44 : decode cX1_addPart 44 = .ok (.getfield 19, 3) := by decide +kernel
theorem dX1_addPart_47 : decode cX1_addPart 47 = .ok (.iload 5, 2) := by decide +kernel
theorem dX1_addPart_49 : decode cX1_addPart 49 = .ok (.iload 4, 2) := by decide +kernel
theorem dX1_addPart_51 : decode cX1_addPart 51 = .ok (.iastore, 1) := by decide +kernel
theorem dX1_addPart_52 : decode cX1_addPart 52 = .ok (.aload_n 0, 1) := by decide +kernel
theorem dX1_addPart_53 : decode cX1_addPart 53 = .ok (.getfield 22, 3) := by decide +kernel
theorem dX1_addPart_56 : decode cX1_addPart 56 = .ok (.iload_n 1, 1) := by decide +kernel
theorem dX1_addPart_57 : decode cX1_addPart 57 = .ok (.dup2, 1) := by decide +kernel
theorem dX1_addPart_58 : decode cX1_addPart 58 = .ok (.iaload, 1) := by decide +kernel
theorem dX1_addPart_59 : decode cX1_addPart 59 = .ok (.iconst 1, 1) := by decide +kernel
theorem dX1_addPart_60 : decode cX1_addPart 60 = .ok (.iadd, 1) := by decide +kernel
theorem dX1_addPart_61 : decode cX1_addPart 61 = .ok (.iastore, 1) := by decide +kernel
theorem dX1_addPart_62 : decode cX1_addPart 62 = .ok (.aload_n 0, 1) := by decide +kernel
theorem dX1_addPart_63 : decode cX1_addPart 63 = .ok (.invokevirtual 35, 3) := by decide +kernel
theorem dX1_addPart_66 : decode cX1_addPart 66 = .ok (.ifCond .ne 16, 3) := by decide +kernel
theorem dX1_addPart_69 : decode cX1_addPart 69 = .ok (.aload_n 0, 1) := by decide +kernel
theorem dX1_addPart_70 : decode cX1_addPart 70 = .ok (.getfield 22, 3) := by decide +kernel
theorem dX1_addPart_73 : decode cX1_addPart 73 = .ok (.iload_n 1, 1) := by decide +kernel
theorem dX1_addPart_74 : decode cX1_addPart 74 = .ok (.dup2, 1) := by decide +kernel
theorem dX1_addPart_75 : decode cX1_addPart 75 = .ok (.iaload, 1) := by decide +kernel
theorem dX1_addPart_76 : decode cX1_addPart 76 = .ok (.iconst 1, 1) := by decide +kernel
theorem dX1_addPart_77 : decode cX1_addPart 77 = .ok (.isub, 1) := by decide +kernel
theorem dX1_addPart_78 : decode cX1_addPart 78 = .ok (.iastore, 1) := by decide +kernel
theorem dX1_addPart_79 : decode cX1_addPart 79 = .ok (.bipush (-6), 2) := by decide +kernel
theorem dX1_addPart_81 : decode cX1_addPart 81 = .ok (.ireturn, 1) := by decide +kernel
theorem dX1_addPart_82 : decode cX1_addPart 82 = .ok (.aload_n 0, 1) := by decide +kernel
theorem dX1_addPart_83 : decode cX1_addPart 83 = .ok (.getfield 28, 3) := by decide +kernel
theorem dX1_addPart_86 : decode cX1_addPart 86 = .ok (.iconst 0, 1) := by decide +kernel
theorem dX1_addPart_87 : decode cX1_addPart 87 = .ok (.aload_n 0, 1) := by decide +kernel
theorem dX1_addPart_88 : decode cX1_addPart 88 = .ok (.getfield 25, 3) := by decide +kernel
theorem dX1_addPart_91 : decode cX1_addPart 91 = .ok (.iconst 0, 1) := by decide +kernel
theorem dX1_addPart_92 : decode cX1_addPart 92 = .ok (.aload_n 0, 1) := by decide +kernel
theorem dX1_addPart_93 : decode cX1_addPart 93 = .ok (.getfield 25, 3) := by decide +kernel
theorem dX1_addPart_96 : decode cX1_addPart 96 = .ok (.arraylength, 1) := by decide +kernel
theorem dX1_addPart_97 : decode cX1_addPart 97 = .ok (.invokestatic 39, 3) := by decide +kernel
theorem dX1_addPart_100 : decode cX1_addPart 100 = .ok (.aload_n 0, 1) := by decide +kernel
theorem dX1_addPart_101 : decode cX1_addPart 101 = .ok (.getfield 22, 3) := by decide +kernel
theorem dX1_addPart_104 : decode cX1_addPart 104 = .ok (.iload_n 1, 1) := by decide +kernel
theorem dX1_addPart_105 : decode cX1_addPart 105 = .ok (.iaload, 1) := by decide +kernel
theorem dX1_addPart_106 : decode cX1_addPart 106 = .ok (.ireturn, 1) := by decide +kernel
theorem dX1_resolveAll_0 : decode cX1_resolveAll 0 = .ok (.aload_n 0, 1) := by decide +kernel
theorem dX1_resolveAll_1 : decode cX1_resolveAll 1 = .ok (.getfield 28, 3) := by decide +kernel
theorem dX1_resolveAll_4 : decode cX1_resolveAll 4 = .ok (.iconst 0, 1) := by decide +kernel
theorem dX1_resolveAll_5 : decode cX1_resolveAll 5 = .ok (.invokestatic 45, 3) := by decide +kernel
theorem dX1_resolveAll_8 : decode cX1_resolveAll 8 = .ok (.iconst 0, 1) := by decide +kernel
theorem dX1_resolveAll_9 : decode cX1_resolveAll 9 = .ok (.istore_n 1, 1) := by decide +kernel
theorem dX1_resolveAll_10 : decode cX1_resolveAll 10 = .ok (.iload_n 1, 1) := by decide +kernel
theorem dX1_resolveAll_11 : decode cX1_resolveAll 11 = .ok (.aload_n 0, 1) := by decide +kernel
theorem dX1_resolveAll_12 : decode cX1_resolveAll 12 = .ok (.getfield 31, 3) := by decide +kernel
theorem dX1_resolveAll_15 : decode cX1_resolveAll 15 = .ok (.if_icmp .ge 22, 3) := by decide +kernel
theorem dX1_resolveAll_18 : decode cX1_resolveAll 18 = .ok (.aload_n 0, 1) := by decide +kernel
theorem dX1_resolveAll_19 : decode cX1_resolveAll 19 = .ok (.iload_n 1, 1) := by decide +kernel
theorem dX1_resolveAll_20 : decode cX1_resolveAll 20 = .ok (.invokevirtual 51, 3) := by decide +kernel
theorem dX1_resolveAll_23 : decode cX1_resolveAll 23 = .ok (.sipush 20000, 3) := by decide +kernel
theorem dX1_resolveAll_26 : decode cX1_resolveAll 26 = .ok (.if_icmp .le 5, 3) := by decide +kernel
theorem dX1_resolveAll_29 : decode cX1_resolveAll 29 = .ok (.iconst 0, 1) := by decide +kernel
theorem dX1_resolveAll_30 : decode cX1_resolveAll 30 = .ok (.ireturn, 1) := by decide +kernel
theorem dX1_resolveAll_31 : decode cX1_resolveAll 31 = .ok (.iinc 1 1, 3) := by decide +kernel
theorem dX1_resolveAll_34 : decode cX1_resolveAll 34 = .ok (.goto (-24), 3) := by decide +kernel
theorem dX1_resolveAll_37 : decode cX1_resolveAll 37 = .ok (.iconst 1, 1) := by decide +kernel
theorem dX1_resolveAll_38 : decode cX1_resolveAll 38 = .ok (.ireturn, 1) := by decide +kernel
theorem dX1_resolveInTrial_0 : decode cX1_resolveInTrial 0 = .ok (.iconst 0, 1) := by decide +kernel
theorem dX1_resolveInTrial_1 : decode cX1_resolveInTrial 1 = .ok (.istore_n 2, 1) := by decide +kernel
theorem dX1_resolveInTrial_2 : decode cX1_resolveInTrial 2 = .ok (.iload_n 2, 1) := by decide +kernel
theorem dX1_resolveInTrial_3 : decode cX1_resolveInTrial 3 = .ok (.aload_n 0, 1) := by decide +kernel
theorem dX1_resolveInTrial_4 : decode cX1_resolveInTrial 4 = .ok (.getfield 22, 3) := by decide +kernel
theorem dX1_resolveInTrial_7 : decode cX1_resolveInTrial 7 = .ok (.iload_n 1, 1) := by decide +kernel
theorem dX1_resolveInTrial_8 : decode cX1_resolveInTrial 8 = .ok (.iaload, 1) := by decide +kernel
theorem dX1_resolveInTrial_9 : decode cX1_resolveInTrial 9 = .ok (.if_icmp .ge 20, 3) := by decide +kernel
theorem dX1_resolveInTrial_12 : decode cX1_resolveInTrial 12 = .ok (.aload_n 0, 1) := by decide +kernel
theorem dX1_resolveInTrial_13 : decode cX1_resolveInTrial 13 = .ok (.iload_n 1, 1) := by decide +kernel
theorem dX1_resolveInTrial_14 : decode cX1_resolveInTrial 14 = .ok (.iload_n 1, 1) := by decide +kernel
theorem dX1_resolveInTrial_15 : decode cX1_resolveInTrial 15 = .ok (.bipush 6, 2) := by decide +kernel
theorem dX1_resolveInTrial_17 : decode cX1_resolveInTrial 17 = .ok (.imul, 1) := by decide +kernel
theorem dX1_resolveInTrial_18 : decode cX1_resolveInTrial 18 = .ok (.iload_n 2, 1) := by decide +kernel
theorem dX1_resolveInTrial_19 : decode cX1_resolveInTrial 19 = .ok (.iadd, 1) := by decide +kernel
theorem dX1_resolveInTrial_20 : decode cX1_resolveInTrial 20 = .ok (.invokevirtual 55, 3) := by decide +kernel
theorem dX1_resolveInTrial_23 : decode cX1_resolveInTrial 23 = .ok (.iinc 2 1, 3) := by decide +kernel
theorem dX1_resolveInTrial_26 : decode cX1_resolveInTrial 26 = .ok (.goto (-24), 3) := by decide +kernel
theorem dX1_resolveInTrial_29 : decode cX1_resolveInTrial 29 = .ok (.iconst 0, 1) := by decide +kernel
theorem dX1_resolveInTrial_30 : decode cX1_resolveInTrial 30 = .ok (.istore_n 2, 1) := by decide +kernel
theorem dX1_resolveInTrial_31 : decode cX1_resolveInTrial 31 = .ok (.iconst 0, 1) := by decide +kernel
theorem dX1_resolveInTrial_32 : decode cX1_resolveInTrial 32 = .ok (.istore_n 3, 1) := by decide +kernel
theorem dX1_resolveInTrial_33 : decode cX1_resolveInTrial 33 = .ok (.iload_n 3, 1) := by decide +kernel
theorem dX1_resolveInTrial_34 : decode cX1_resolveInTrial 34 = .ok (.bipush 8, 2) := by decide +kernel
theorem dX1_resolveInTrial_36 : decode cX1_resolveInTrial 36 = .ok (.if_icmp .ge 23, 3) := by decide +kernel
theorem dX1_resolveInTrial_39 : decode cX1_resolveInTrial 39 = .ok (.iload_n 2, 1) := by decide +kernel
theorem dX1_resolveInTrial_40 : decode cX1_resolveInTrial 40 = .ok (.aload_n 0, 1) := by decide +kernel
theorem dX1_resolveInTrial_41 : decode cX1_resolveInTrial 41 = .ok (.getfield 28, 3) := by decide +kernel
theorem dX1_resolveInTrial_44 : decode cX1_resolveInTrial 44 = .ok (.iload_n 1, 1) := by decide +kernel
theorem dX1_resolveInTrial_45 : decode cX1_resolveInTrial 45 = .ok (.bipush 8, 2) := by decide +kernel
theorem dX1_resolveInTrial_47 : decode cX1_resolveInTrial 47 = .ok (.imul, 1) := by decide +kernel
theorem dX1_resolveInTrial_48 : decode cX1_resolveInTrial 48 = .ok (.iload_n 3, 1) := by decide +kernel
theorem dX1_resolveInTrial_49 : decode cX1_resolveInTrial 49 = .ok (.iadd, 1) := by decide +kernel
theorem dX1_resolveInTrial_50 : decode cX1_resolveInTrial 50 = .ok (.iaload, 1) := by decide +kernel
theorem dX1_resolveInTrial_51 : decode cX1_resolveInTrial 51 = .ok (.iadd, 1) := by decide +kernel
theorem dX1_resolveInTrial_52 : decode cX1_resolveInTrial 52 = .ok (.istore_n 2, 1) := by decide +kernel
theorem dX1_resolveInTrial_53 : decode cX1_resolveInTrial 53 = .ok (.iinc 3 1, 3) := by decide +kernel
theorem dX1_resolveInTrial_56 : decode cX1_resolveInTrial 56 = .ok (.goto (-23), 3) := by decide +kernel
theorem dX1_resolveInTrial_59 : decode cX1_resolveInTrial 59 = .ok (.iload_n 2, 1) := by decide +kernel
theorem dX1_resolveInTrial_60 : decode cX1_resolveInTrial 60 = .ok (.ireturn, 1) := by decide +kernel
theorem dX1_addPartToTrial_0 : decode cX1_addPartToTrial 0 = .ok (.iload_n 1, 1) := by decide +kernel
theorem dX1_addPartToTrial_1 : decode cX1_addPartToTrial 1 = .ok (.bipush 8, 2) := by decide +kernel
theorem dX1_addPartToTrial_3 : decode cX1_addPartToTrial 3 = .ok (.imul, 1) := by decide +kernel
theorem dX1_addPartToTrial_4 : decode cX1_addPartToTrial 4 = .ok (.istore_n 3, 1) := by decide +kernel
theorem dX1_addPartToTrial_5 : decode cX1_addPartToTrial 5 = .ok (.aload_n 0, 1) := by decide +kernel
theorem dX1_addPartToTrial_6 : decode cX1_addPartToTrial 6 = .ok (.getfield 9, 3) := by decide +kernel
theorem dX1_addPartToTrial_9 : decode cX1_addPartToTrial 9 = .ok (.iload_n 2, 1) := by decide +kernel
theorem dX1_addPartToTrial_10 : decode cX1_addPartToTrial 10 = .ok (.baload, 1) := by decide +kernel
theorem dX1_addPartToTrial_11 : decode cX1_addPartToTrial 11 = .ok (.ifCond .ne 26, 3) := by decide +kernel
theorem dX1_addPartToTrial_14 : decode cX1_addPartToTrial 14 = .ok (.aload_n 0, 1) := by decide +kernel
theorem dX1_addPartToTrial_15 : decode cX1_addPartToTrial 15 = .ok (.getfield 28, 3) := by decide +kernel
theorem dX1_addPartToTrial_18 : decode cX1_addPartToTrial 18 = .ok (.iload_n 3, 1) := by decide +kernel
theorem dX1_addPartToTrial_19 : decode cX1_addPartToTrial 19 = .ok (.aload_n 0, 1) := by decide +kernel
theorem dX1_addPartToTrial_20 : decode cX1_addPartToTrial 20 = .ok (.getfield 15, 3) := by decide +kernel
theorem dX1_addPartToTrial_23 : decode cX1_addPartToTrial 23 = .ok (.iload_n 2, 1) := by decide +kernel
theorem dX1_addPartToTrial_24 : decode cX1_addPartToTrial 24 = .ok (.iaload, 1) := by decide +kernel
theorem dX1_addPartToTrial_25 : decode cX1_addPartToTrial 25 = .ok (.iadd, 1) := by decide +kernel
theorem dX1_addPartToTrial_26 : decode cX1_addPartToTrial 26 = .ok (.dup2, 1) := by decide +kernel
theorem dX1_addPartToTrial_27 : decode cX1_addPartToTrial 27 = .ok (.iaload, 1) := by decide +kernel
theorem dX1_addPartToTrial_28 : decode cX1_addPartToTrial 28 = .ok (.aload_n 0, 1) := by decide +kernel
theorem dX1_addPartToTrial_29 : decode cX1_addPartToTrial 29 = .ok (.getfield 19, 3) := by decide +kernel
theorem dX1_addPartToTrial_32 : decode cX1_addPartToTrial 32 = .ok (.iload_n 2, 1) := by decide +kernel
theorem dX1_addPartToTrial_33 : decode cX1_addPartToTrial 33 = .ok (.iaload, 1) := by decide +kernel
theorem dX1_addPartToTrial_34 : decode cX1_addPartToTrial 34 = .ok (.iadd, 1) := by decide +kernel
theorem dX1_addPartToTrial_35 : decode cX1_addPartToTrial 35 = .ok (.iastore, 1) := by decide +kernel
theorem dX1_addPartToTrial_36 : decode cX1_addPartToTrial 36 = .ok (.return_, 1) := by decide +kernel
theorem dX1_addPartToTrial_37 : decode cX1_addPartToTrial 37 = .ok (.iconst 0, 1) := by decide +kernel
theorem dX1_addPartToTrial_38 : decode cX1_addPartToTrial 38 = .ok (.istore 4, 2) := by decide +kernel
theorem dX1_addPartToTrial_40 : decode cX1_addPartToTrial 40 = .ok (.iload 4, 2) := by decide +kernel
theorem dX1_addPartToTrial_42 : decode cX1_addPartToTrial 42 = .ok (.bipush 8, 2) := by decide +kernel
theorem dX1_addPartToTrial_44 : decode cX1_addPartToTrial 44 = .ok (.if_icmp .ge 45, 3) := by decide +kernel
theorem dX1_addPartToTrial_47 : decode cX1_addPartToTrial 47 = .ok (.aload_n 0, 1) := by decide +kernel
theorem dX1_addPartToTrial_48 : decode cX1_addPartToTrial 48 = .ok (.getfield 28, 3) := by decide +kernel
theorem dX1_addPartToTrial_51 : decode cX1_addPartToTrial 51 = .ok (.iload_n 3, 1) := by decide +kernel
theorem dX1_addPartToTrial_52 : decode cX1_addPartToTrial 52 = .ok (.iload 4, 2) := by decide +kernel
theorem dX1_addPartToTrial_54 : decode cX1_addPartToTrial 54 = .ok (.iadd, 1) := by decide +kernel
theorem dX1_addPartToTrial_55 : decode cX1_addPartToTrial 55 = .ok (.dup2, 1) := by decide +kernel
theorem dX1_addPartToTrial_56 : decode cX1_addPartToTrial 56 = .ok (.iaload, 1) := by decide +kernel
theorem dX1_addPartToTrial_57 : decode cX1_addPartToTrial 57 = .ok (.aload_n 0, 1) := by decide +kernel
theorem dX1_addPartToTrial_58 : decode cX1_addPartToTrial 58 = .ok (.getfield 19, 3) := by decide +kernel
theorem dX1_addPartToTrial_61 : decode cX1_addPartToTrial 61 = .ok (.iload_n 2, 1) := by decide +kernel
theorem dX1_addPartToTrial_62 : decode cX1_addPartToTrial 62 = .ok (.iaload, 1) := by decide +kernel
theorem dX1_addPartToTrial_63 : decode cX1_addPartToTrial 63 = .ok (.aload_n 0, 1) := by decide +kernel
theorem dX1_addPartToTrial_64 : decode cX1_addPartToTrial 64 = .ok (.getfield 28, 3) := by decide +kernel
theorem dX1_addPartToTrial_67 : decode cX1_addPartToTrial 67 = .ok (.aload_n 0, 1) := by decide +kernel
theorem dX1_addPartToTrial_68 : decode cX1_addPartToTrial 68 = .ok (.getfield 15, 3) := by decide +kernel
theorem dX1_addPartToTrial_71 : decode cX1_addPartToTrial 71 = .ok (.iload_n 2, 1) := by decide +kernel
theorem dX1_addPartToTrial_72 : decode cX1_addPartToTrial 72 = .ok (.iaload, 1) := by decide +kernel
theorem dX1_addPartToTrial_73 : decode cX1_addPartToTrial 73 = .ok (.bipush 8, 2) := by decide +kernel
theorem dX1_addPartToTrial_75 : decode cX1_addPartToTrial 75 = .ok (.imul, 1) := by decide +kernel
theorem dX1_addPartToTrial_76 : decode cX1_addPartToTrial 76 = .ok (.iload 4, 2) := by decide +kernel
theorem dX1_addPartToTrial_78 : decode cX1_addPartToTrial 78 = .ok (.iadd, 1) := by decide +kernel
theorem dX1_addPartToTrial_79 : decode cX1_addPartToTrial 79 = .ok (.iaload, 1) := by decide +kernel
theorem dX1_addPartToTrial_80 : decode cX1_addPartToTrial 80 = .ok (.imul, 1) := by decide +kernel
theorem dX1_addPartToTrial_81 : decode cX1_addPartToTrial 81 = .ok (.iadd, 1) := by decide +kernel
theorem dX1_addPartToTrial_82 : decode cX1_addPartToTrial 82 = .ok (.iastore, 1) := by decide +kernel
theorem dX1_addPartToTrial_83 : decode cX1_addPartToTrial 83 = .ok (.iinc 4 1, 3) := by decide +kernel
theorem dX1_addPartToTrial_86 : decode cX1_addPartToTrial 86 = .ok (.goto (-46), 3) := by decide +kernel
theorem dX1_addPartToTrial_89 : decode cX1_addPartToTrial 89 = .ok (.return_, 1) := by decide +kernel
theorem dX2_init_0 : decode cX2_init 0 = .ok (.aload_n 0, 1) := by decide +kernel
theorem dX2_init_1 : decode cX2_init 1 = .ok (.invokespecial 3, 3) := by decide +kernel
theorem dX2_init_4 : decode cX2_init 4 = .ok (.aload_n 0, 1) := by decide +kernel
theorem dX2_init_5 : decode cX2_init 5 = .ok (.bipush 8, 2) := by decide +kernel
theorem dX2_init_7 : decode cX2_init 7 = .ok (.newarray .int, 2) := by decide +kernel
theorem dX2_init_9 : decode cX2_init 9 = .ok (.putfield 9, 3) := by decide +kernel
theorem dX2_init_12 : decode cX2_init 12 = .ok (.aload_n 0, 1) := by decide +kernel
theorem dX2_init_13 : decode cX2_init 13 = .ok (.iconst 0, 1) := by decide +kernel
theorem dX2_init_14 : decode cX2_init 14 = .ok (.putfield 15, 3) := by decide +kernel
theorem dX2_init_17 : decode cX2_init 17 = .ok (.aload_n 0, 1) := by decide +kernel
theorem dX2_init_18 : decode cX2_init 18 = .ok (.iconst 0, 1) := by decide +kernel
theorem dX2_init_19 : decode cX2_init 19 = .ok (.putfield 19, 3) := by decide +kernel
theorem dX2_init_22 : decode cX2_init 22 = .ok (.aload_n 0, 1) := by decide +kernel
theorem dX2_init_23 : decode cX2_init 23 = .ok (.iconst 0, 1) := by decide +kernel
theorem dX2_init_24 : decode cX2_init 24 = .ok (.putfield 23, 3) := by decide +kernel
theorem dX2_init_27 : decode cX2_init 27 = .ok (.aload_n 0, 1) := by decide +kernel
theorem dX2_init_28 : decode cX2_init 28 = .ok (.iconst 3, 1) := by decide +kernel
theorem dX2_init_29 : decode cX2_init 29 = .ok (.newarray .int, 2) := by decide +kernel
theorem dX2_init_31 : decode cX2_init 31 = .ok (.putfield 26, 3) := by decide +kernel
theorem dX2_init_34 : decode cX2_init 34 = .ok (.aload_n 0, 1) := by decide +kernel
theorem dX2_init_35 : decode cX2_init 35 = .ok (.bipush 8, 2) := by decide +kernel
theorem dX2_init_37 : decode cX2_init 37 = .ok (.newarray .int, 2) := by decide +kernel
theorem dX2_init_39 : decode cX2_init 39 = .ok (.putfield 29, 3) := by decide +kernel
theorem dX2_init_42 : decode cX2_init 42 = .ok (.aload_n 0, 1) := by decide +kernel
theorem dX2_init_43 : decode cX2_init 43 = .ok (.bipush 8, 2) := by decide +kernel
theorem dX2_init_45 : decode cX2_init 45 = .ok (.newarray .int, 2) := by decide +kernel
theorem dX2_init_47 : decode cX2_init 47 = .ok (.putfield 32, 3) := by decide +kernel
theorem dX2_init_50 : decode cX2_init 50 = .ok (.aload_n 0, 1) := by decide +kernel
theorem dX2_init_51 : decode cX2_init 51 = .ok (.iconst 0, 1) := by decide +kernel
theorem dX2_init_52 : decode cX2_init 52 = .ok (.putfield 35, 3) := by decide +kernel
theorem dX2_init_55 : decode cX2_init 55 = .ok (.aload_n 0, 1) := by decide +kernel
theorem dX2_init_56 : decode cX2_init 56 = .ok (.iconst 0, 1) := by decide +kernel
theorem dX2_init_57 : decode cX2_init 57 = .ok (.putfield 38, 3) := by decide +kernel
theorem dX2_init_60 : decode cX2_init 60 = .ok (.aload_n 0, 1) := by decide +kernel
theorem dX2_init_61 : decode cX2_init 61 = .ok (.iconst 3, 1) := by decide +kernel
theorem dX2_init_62 : decode cX2_init 62 = .ok (.newarray .long, 2) := by decide +kernel
theorem dX2_init_64 : decode cX2_init 64 = .ok (.putfield 41, 3) := by decide +kernel
theorem dX2_init_67 : decode cX2_init 67 = .ok (.aload_n 0, 1) := by decide +kernel
theorem dX2_init_68 : decode cX2_init 68 = .ok (.iconst 3, 1) := by decide +kernel
theorem dX2_init_69 : decode cX2_init 69 = .ok (.newarray .long, 2) := by decide +kernel
theorem dX2_init_71 : decode cX2_init 71 = .ok (.putfield 45, 3) := by decide +kernel
theorem dX2_init_74 : decode cX2_init 74 = .ok (.return_, 1) := by decide +kernel
theorem dX2_aimAt_0 : decode cX2_aimAt 0 = .ok (.aload_n 0, 1) := by decide +kernel
theorem dX2_aimAt_1 : decode cX2_aimAt 1 = .ok (.getfield 26, 3) := by decide +kernel
theorem dX2_aimAt_4 : decode cX2_aimAt 4 = .ok (.iconst 0, 1) := by decide +kernel
theorem dX2_aimAt_5 : decode cX2_aimAt 5 = .ok (.iload_n 1, 1) := by decide +kernel
theorem dX2_aimAt_6 : decode cX2_aimAt 6 = .ok (.iastore, 1) := by decide +kernel
theorem dX2_aimAt_7 : decode cX2_aimAt 7 = .ok (.aload_n 0, 1) := by decide +kernel
theorem dX2_aimAt_8 : decode cX2_aimAt 8 = .ok (.getfield 26, 3) := by decide +kernel
theorem dX2_aimAt_11 : decode cX2_aimAt 11 = .ok (.iconst 1, 1) := by decide +kernel
theorem dX2_aimAt_12 : decode cX2_aimAt 12 = .ok (.iload_n 2, 1) := by decide +kernel
theorem dX2_aimAt_13 : decode cX2_aimAt 13 = .ok (.iastore, 1) := by decide +kernel
theorem dX2_aimAt_14 : decode cX2_aimAt 14 = .ok (.aload_n 0, 1) := by decide +kernel
theorem dX2_aimAt_15 : decode cX2_aimAt 15 = .ok (.getfield 26, 3) := by decide +kernel
theorem dX2_aimAt_18 : decode cX2_aimAt 18 = .ok (.iconst 2, 1) := by decide +kernel
theorem dX2_aimAt_19 : decode cX2_aimAt 19 = .ok (.iload_n 3, 1) := by decide +kernel
theorem dX2_aimAt_20 : decode cX2_aimAt 20 = .ok (.iastore, 1) := by decide +kernel
theorem dX2_aimAt_21 : decode cX2_aimAt 21 = .ok (.return_, 1) := by decide +kernel
theorem dX2_start_0 : decode cX2_start 0 = .ok (.aload_n 0, 1) := by decide +kernel
theorem dX2_start_1 : decode cX2_start 1 = .ok (.iload_n 2, 1) := by decide +kernel
theorem dX2_start_2 : decode cX2_start 2 = .ok (.sipush 20000, 3) := by decide +kernel
theorem dX2_start_5 : decode cX2_start 5 = .ok (.aload_n 1, 1) := by decide +kernel
theorem dX2_start_6 : decode cX2_start 6 = .ok (.getfield 48, 3) := by decide +kernel
theorem dX2_start_9 : decode cX2_start 9 = .ok (.isub, 1) := by decide +kernel
theorem dX2_start_10 : decode cX2_start 10 = .ok (.invokestatic 53, 3) := by decide +kernel
theorem dX2_start_13 : decode cX2_start 13 = .ok (.putfield 38, 3) := by decide +kernel
theorem dX2_start_16 : decode cX2_start 16 = .ok (.aload_n 0, 1) := by decide +kernel
theorem dX2_start_17 : decode cX2_start 17 = .ok (.iconst 0, 1) := by decide +kernel
theorem dX2_start_18 : decode cX2_start 18 = .ok (.putfield 35, 3) := by decide +kernel
theorem dX2_start_21 : decode cX2_start 21 = .ok (.iconst 0, 1) := by decide +kernel
theorem dX2_start_22 : decode cX2_start 22 = .ok (.istore 5, 2) := by decide +kernel
theorem dX2_start_24 : decode cX2_start 24 = .ok (.iload 5, 2) := by decide +kernel
theorem dX2_start_26 : decode cX2_start 26 = .ok (.bipush 8, 2) := by decide +kernel
theorem dX2_start_28 : decode cX2_start 28 = .ok (.if_icmp .ge 31, 3) := by decide +kernel
theorem dX2_start_31 : decode cX2_start 31 = .ok (.aload_n 0, 1) := by decide +kernel
theorem dX2_start_32 : decode cX2_start 32 = .ok (.getfield 32, 3) := by decide +kernel
theorem dX2_start_35 : decode cX2_start 35 = .ok (.iload 5, 2) := by decide +kernel
theorem dX2_start_37 : decode cX2_start 37 = .ok (.iconst 0, 1) := by decide +kernel
theorem dX2_start_38 : decode cX2_start 38 = .ok (.iastore, 1) := by decide +kernel
theorem dX2_start_39 : decode cX2_start 39 = .ok (.aload_n 0, 1) := by decide +kernel
theorem dX2_start_40 : decode cX2_start 40 = .ok (.getfield 29, 3) := by decide +kernel
theorem dX2_start_43 : decode cX2_start 43 = .ok (.iload 5, 2) := by decide +kernel
theorem dX2_start_45 : decode cX2_start 45 = .ok (.aload 4, 2) := by decide +kernel
theorem dX2_start_47 : decode cX2_start 47 = .ok (.iload 5, 2) := by decide +kernel
theorem dX2_start_49 : decode cX2_start 49 = .ok (.invokevirtual 59, 3) := by decide +kernel
theorem dX2_start_52 : decode cX2_start 52 = .ok (.iastore, 1) := by decide +kernel
theorem dX2_start_53 : decode cX2_start 53 = .ok (.iinc 5 1, 3) := by decide +kernel
theorem dX2_start_56 : decode cX2_start 56 = .ok (.goto (-32), 3) := by decide +kernel
theorem dX2_start_59 : decode cX2_start 59 = .ok (.iconst 0, 1) := by decide +kernel
theorem dX2_start_60 : decode cX2_start 60 = .ok (.istore 5, 2) := by decide +kernel
theorem dX2_start_62 : decode cX2_start 62 = .ok (.iload 5, 2) := by decide +kernel
theorem dX2_start_64 : decode cX2_start 64 = .ok (.iconst 3, 1) := by decide +kernel
theorem dX2_start_65 : decode cX2_start 65 = .ok (.if_icmp .ge 37, 3) := by decide +kernel
theorem dX2_start_68 : decode cX2_start 68 = .ok (.aload_n 0, 1) := by decide +kernel
theorem dX2_start_69 : decode cX2_start 69 = .ok (.getfield 41, 3) := by decide +kernel
theorem dX2_start_72 : decode cX2_start 72 = .ok (.iload 5, 2) := by decide +kernel
theorem dX2_start_74 : decode cX2_start 74 = .ok (.aload_n 3, 1) := by decide +kernel
theorem dX2_start_75 : decode cX2_start 75 = .ok (.aload_n 1, 1) := by decide +kernel
theorem dX2_start_76 : decode cX2_start 76 = .ok (.iload 5, 2) := by decide +kernel
theorem dX2_start_78 : decode cX2_start 78 = .ok (.invokevirtual 65, 3) := by decide +kernel
theorem dX2_start_81 : decode cX2_start 81 = .ok (.lastore, 1) := by decide +kernel
theorem dX2_start_82 : decode cX2_start 82 = .ok (.aload_n 0, 1) := by decide +kernel
theorem dX2_start_83 : decode cX2_start 83 = .ok (.getfield 45, 3) := by decide +kernel
theorem dX2_start_86 : decode cX2_start 86 = .ok (.iload 5, 2) := by decide +kernel
theorem dX2_start_88 : decode cX2_start 88 = .ok (.aload_n 3, 1) := by decide +kernel
theorem dX2_start_89 : decode cX2_start 89 = .ok (.aload_n 1, 1) := by decide +kernel
theorem dX2_start_90 : decode cX2_start 90 = .ok (.iload 5, 2) := by decide +kernel
theorem dX2_start_92 : decode cX2_start 92 = .ok (.invokevirtual 70, 3) := by decide +kernel
theorem dX2_start_95 : decode cX2_start 95 = .ok (.lastore, 1) := by decide +kernel
theorem dX2_start_96 : decode cX2_start 96 = .ok (.iinc 5 1, 3) := by decide +kernel
theorem dX2_start_99 : decode cX2_start 99 = .ok (.goto (-37), 3) := by decide +kernel
theorem dX2_start_102 : decode cX2_start 102 = .ok (.return_, 1) := by decide +kernel
theorem dX2_run_0 : decode cX2_run 0 = .ok (.aload_n 0, 1) := by decide +kernel
theorem dX2_run_1 : decode cX2_run 1 = .ok (.iconst 1, 1) := by decide +kernel
theorem dX2_run_2 : decode cX2_run 2 = .ok (.putfield 15, 3) := by decide +kernel
theorem dX2_run_5 : decode cX2_run 5 = .ok (.aload_n 0, 1) := by decide +kernel
theorem dX2_run_6 : decode cX2_run 6 = .ok (.ldc 72, 2) := by decide +kernel
theorem dX2_run_8 : decode cX2_run 8 = .ok (.putfield 19, 3) := by decide +kernel
theorem dX2_run_11 : decode cX2_run 11 = .ok (.iconst 0, 1) := by decide +kernel
theorem dX2_run_12 : decode cX2_run 12 = .ok (.istore_n 2, 1) := by decide +kernel
theorem dX2_run_13 : decode cX2_run 13 = .ok (.iload_n 2, 1) := by decide +kernel
theorem dX2_run_14 : decode cX2_run 14 = .ok (.sipush 12870, 3) := by decide +kernel
theorem dX2_run_17 : decode cX2_run 17 = .ok (.if_icmp .ge 24, 3) := by decide +kernel
theorem dX2_run_20 : decode cX2_run 20 = .ok (.aload_n 0, 1) := by decide +kernel
theorem dX2_run_21 : decode cX2_run 21 = .ok (.invokevirtual 73, 3) := by decide +kernel
theorem dX2_run_24 : decode cX2_run 24 = .ok (.aload_n 0, 1) := by decide +kernel
theorem dX2_run_25 : decode cX2_run 25 = .ok (.aload_n 1, 1) := by decide +kernel
theorem dX2_run_26 : decode cX2_run 26 = .ok (.invokevirtual 76, 3) := by decide +kernel
theorem dX2_run_29 : decode cX2_run 29 = .ok (.ifCond .ne 6, 3) := by decide +kernel
theorem dX2_run_32 : decode cX2_run 32 = .ok (.goto 9, 3) := by decide +kernel
theorem dX2_run_35 : decode cX2_run 35 = .ok (.iinc 2 1, 3) := by decide +kernel
theorem dX2_run_38 : decode cX2_run 38 = .ok (.goto (-25), 3) := by decide +kernel
theorem dX2_run_41 : decode cX2_run 41 = .ok (.aload_n 0, 1) := by decide +kernel
theorem dX2_run_42 : decode cX2_run 42 = .ok (.getfield 19, 3) := by decide +kernel
theorem dX2_run_45 : decode cX2_run 45 = .ok (.ireturn, 1) := by decide +kernel
theorem dX2_judge_0 : decode cX2_judge 0 = .ok (.aload_n 0, 1) := by decide +kernel
theorem dX2_judge_1 : decode cX2_judge 1 = .ok (.invokevirtual 80, 3) := by decide +kernel
theorem dX2_judge_4 : decode cX2_judge 4 = .ok (.istore_n 1, 1) := by decide +kernel
theorem dX2_judge_5 : decode cX2_judge 5 = .ok (.iload_n 1, 1) := by decide +kernel
theorem dX2_judge_6 : decode cX2_judge 6 = .ok (.aload_n 0, 1) := by decide +kernel
theorem dX2_judge_7 : decode cX2_judge 7 = .ok (.getfield 19, 3) := by decide +kernel
theorem dX2_judge_10 : decode cX2_judge 10 = .ok (.if_icmp .lt 22, 3) := by decide +kernel
theorem dX2_judge_13 : decode cX2_judge 13 = .ok (.iload_n 1, 1) := by decide +kernel
theorem dX2_judge_14 : decode cX2_judge 14 = .ok (.aload_n 0, 1) := by decide +kernel
theorem dX2_judge_15 : decode cX2_judge 15 = .ok (.getfield 19, 3) := by decide +kernel
theorem dX2_judge_18 : decode cX2_judge 18 = .ok (.if_icmp .ne 42, 3) := by decide +kernel
theorem dX2_judge_21 : decode cX2_judge 21 = .ok (.aload_n 0, 1) := by decide +kernel
theorem dX2_judge_22 : decode cX2_judge 22 = .ok (.getfield 35, 3) := by decide +kernel
theorem dX2_judge_25 : decode cX2_judge 25 = .ok (.aload_n 0, 1) := by decide +kernel
theorem dX2_judge_26 : decode cX2_judge 26 = .ok (.getfield 23, 3) := by decide +kernel
theorem dX2_judge_29 : decode cX2_judge 29 = .ok (.if_icmp .ge 31, 3) := by decide +kernel
theorem dX2_judge_32 : decode cX2_judge 32 = .ok (.aload_n 0, 1) := by decide +kernel
theorem dX2_judge_33 : decode cX2_judge 33 = .ok (.iload_n 1, 1) := by decide +kernel
theorem dX2_judge_34 : decode cX2_judge 34 = .ok (.putfield 19, 3) := by decide +kernel
theorem dX2_judge_37 : decode cX2_judge 37 = .ok (.aload_n 0, 1) := by decide +kernel
theorem dX2_judge_38 : decode cX2_judge 38 = .ok (.aload_n 0, 1) := by decide +kernel
theorem dX2_judge_39 : decode cX2_judge 39 = .ok (.getfield 35, 3) := by decide +kernel
theorem dX2_judge_42 : decode cX2_judge 42 = .ok (.putfield 23, 3) := by decide +kernel
theorem dX2_judge_45 : decode cX2_judge 45 = .ok (.aload_n 0, 1) := by decide +kernel
theorem dX2_judge_46 : decode cX2_judge 46 = .ok (.getfield 32, 3) := by decide +kernel
theorem dX2_judge_49 : decode cX2_judge 49 = .ok (.iconst 0, 1) := by decide +kernel
theorem dX2_judge_50 : decode cX2_judge 50 = .ok (.aload_n 0, 1) := by decide +kernel
theorem dX2_judge_51 : decode cX2_judge 51 = .ok (.getfield 9, 3) := by decide +kernel
theorem dX2_judge_54 : decode cX2_judge 54 = .ok (.iconst 0, 1) := by decide +kernel
theorem dX2_judge_55 : decode cX2_judge 55 = .ok (.bipush 8, 2) := by decide +kernel
theorem dX2_judge_57 : decode cX2_judge 57 = .ok (.invokestatic 84, 3) := by decide +kernel
theorem dX2_judge_60 : decode cX2_judge 60 = .ok (.return_, 1) := by decide +kernel
theorem dX2_missOfTrial_0 : decode cX2_missOfTrial 0 = .ok (.iconst 0, 1) := by decide +kernel
theorem dX2_missOfTrial_1 : decode cX2_missOfTrial 1 = .ok (.istore_n 1, 1) := by decide +kernel
theorem dX2_missOfTrial_2 : decode cX2_missOfTrial 2 = .ok (.iconst 0, 1) := by decide +kernel
theorem dX2_missOfTrial_3 : decode cX2_missOfTrial 3 = .ok (.istore_n 2, 1) := by decide +kernel
theorem dX2_missOfTrial_4 : decode cX2_missOfTrial 4 = .ok (.iload_n 2, 1) := by decide +kernel
theorem dX2_missOfTrial_5 : decode cX2_missOfTrial 5 = .ok (.iconst 3, 1) := by decide +kernel
theorem dX2_missOfTrial_6 : decode cX2_missOfTrial 6 = .ok (.if_icmp .ge 49, 3) := by decide +kernel
theorem dX2_missOfTrial_9 : decode cX2_missOfTrial 9 = .ok (.iload_n 1, 1) := by decide +kernel
theorem dX2_missOfTrial_10 : decode cX2_missOfTrial 10 = .ok (.aload_n 0, 1) := by decide +kernel
theorem dX2_missOfTrial_11 : decode cX2_missOfTrial 11 = .ok (.getfield 19, 3) := by decide +kernel
theorem dX2_missOfTrial_14 : decode cX2_missOfTrial 14 = .ok (.if_icmp .gt 41, 3) := by decide +kernel
theorem dX2_missOfTrial_17 : decode cX2_missOfTrial 17 = .ok (.aload_n 0, 1) := by decide +kernel
theorem dX2_missOfTrial_18 : decode cX2_missOfTrial 18 = .ok (.getfield 41, 3) := by decide +kernel
theorem dX2_missOfTrial_21 : decode cX2_missOfTrial 21 = .ok (.iload_n 2, 1) := by decide +kernel
theorem dX2_missOfTrial_22 : decode cX2_missOfTrial 22 = .ok (.laload, 1) := by decide +kernel
theorem dX2_missOfTrial_23 : decode cX2_missOfTrial 23 = .ok (.aload_n 0, 1) := by decide +kernel
theorem dX2_missOfTrial_24 : decode cX2_missOfTrial 24 = .ok (.getfield 45, 3) := by decide +kernel
theorem dX2_missOfTrial_27 : decode cX2_missOfTrial 27 = .ok (.iload_n 2, 1) := by decide +kernel
theorem dX2_missOfTrial_28 : decode cX2_missOfTrial 28 = .ok (.laload, 1) := by decide +kernel
theorem dX2_missOfTrial_29 : decode cX2_missOfTrial 29 = .ok (.invokestatic 90, 3) := by decide +kernel
theorem dX2_missOfTrial_32 : decode cX2_missOfTrial 32 = .ok (.aload_n 0, 1) := by decide +kernel
theorem dX2_missOfTrial_33 : decode cX2_missOfTrial 33 = .ok (.getfield 26, 3) := by decide +kernel
theorem dX2_missOfTrial_36 : decode cX2_missOfTrial 36 = .ok (.iload_n 2, 1) := by decide +kernel
theorem dX2_missOfTrial_37 : decode cX2_missOfTrial 37 = .ok (.iaload, 1) := by decide +kernel
theorem dX2_missOfTrial_38 : decode cX2_missOfTrial 38 = .ok (.isub, 1) := by decide +kernel
theorem dX2_missOfTrial_39 : decode cX2_missOfTrial 39 = .ok (.invokestatic 94, 3) := by decide +kernel
theorem dX2_missOfTrial_42 : decode cX2_missOfTrial 42 = .ok (.istore_n 3, 1) := by decide +kernel
theorem dX2_missOfTrial_43 : decode cX2_missOfTrial 43 = .ok (.iload_n 1, 1) := by decide +kernel
theorem dX2_missOfTrial_44 : decode cX2_missOfTrial 44 = .ok (.iload_n 3, 1) := by decide +kernel
theorem dX2_missOfTrial_45 : decode cX2_missOfTrial 45 = .ok (.invokestatic 97, 3) := by decide +kernel
theorem dX2_missOfTrial_48 : decode cX2_missOfTrial 48 = .ok (.istore_n 1, 1) := by decide +kernel
theorem dX2_missOfTrial_49 : decode cX2_missOfTrial 49 = .ok (.iinc 2 1, 3) := by decide +kernel
theorem dX2_missOfTrial_52 : decode cX2_missOfTrial 52 = .ok (.goto (-48), 3) := by decide +kernel
theorem dX2_missOfTrial_55 : decode cX2_missOfTrial 55 = .ok (.iload_n 1, 1) := by decide +kernel
theorem dX2_missOfTrial_56 : decode cX2_missOfTrial 56 = .ok (.ireturn, 1) := by decide +kernel
theorem dX2_advance_0 : decode cX2_advance 0 = .ok (.aload_n 1, 1) := by decide +kernel
theorem dX2_advance_1 : decode cX2_advance 1 = .ok (.getfield 100, 3) := by decide +kernel
theorem dX2_advance_4 : decode cX2_advance 4 = .ok (.iconst 1, 1) := by decide +kernel
theorem dX2_advance_5 : decode cX2_advance 5 = .ok (.isub, 1) := by decide +kernel
theorem dX2_advance_6 : decode cX2_advance 6 = .ok (.istore_n 2, 1) := by decide +kernel
theorem dX2_advance_7 : decode cX2_advance 7 = .ok (.iload_n 2, 1) := by decide +kernel
theorem dX2_advance_8 : decode cX2_advance 8 = .ok (.ifCond .lt 66, 3) := by decide +kernel
theorem dX2_advance_11 : decode cX2_advance 11 = .ok (.aload_n 0, 1) := by decide +kernel
theorem dX2_advance_12 : decode cX2_advance 12 = .ok (.getfield 35, 3) := by decide +kernel
theorem dX2_advance_15 : decode cX2_advance 15 = .ok (.aload_n 0, 1) := by decide +kernel
theorem dX2_advance_16 : decode cX2_advance 16 = .ok (.getfield 38, 3) := by decide +kernel
theorem dX2_advance_19 : decode cX2_advance 19 = .ok (.if_icmp .ge 27, 3) := by decide +kernel
theorem dX2_advance_22 : decode cX2_advance 22 = .ok (.aload_n 0, 1) := by decide +kernel
theorem dX2_advance_23 : decode cX2_advance 23 = .ok (.getfield 32, 3) := by decide +kernel
theorem dX2_advance_26 : decode cX2_advance 26 = .ok (.iload_n 2, 1) := by decide +kernel
theorem dX2_advance_27 : decode cX2_advance 27 = .ok (.iaload, 1) := by decide +kernel
theorem dX2_advance_28 : decode cX2_advance 28 = .ok (.aload_n 0, 1) := by decide +kernel
theorem dX2_advance_29 : decode cX2_advance 29 = .ok (.getfield 29, 3) := by decide +kernel
theorem dX2_advance_32 : decode cX2_advance 32 = .ok (.iload_n 2, 1) := by decide +kernel
theorem dX2_advance_33 : decode cX2_advance 33 = .ok (.iaload, 1) := by decide +kernel
theorem dX2_advance_34 : decode cX2_advance 34 = .ok (.if_icmp .ge 12, 3) := by decide +kernel
theorem dX2_advance_37 : decode cX2_advance 37 = .ok (.aload_n 0, 1) := by decide +kernel
theorem dX2_advance_38 : decode cX2_advance 38 = .ok (.iload_n 2, 1) := by decide +kernel
theorem dX2_advance_39 : decode cX2_advance 39 = .ok (.iconst 1, 1) := by decide +kernel
theorem dX2_advance_40 : decode cX2_advance 40 = .ok (.aload_n 1, 1) := by decide +kernel
theorem dX2_advance_41 : decode cX2_advance 41 = .ok (.invokevirtual 103, 3) := by decide +kernel
theorem dX2_advance_44 : decode cX2_advance 44 = .ok (.iconst 1, 1) := by decide +kernel
theorem dX2_advance_45 : decode cX2_advance 45 = .ok (.ireturn, 1) := by decide +kernel
theorem dX2_advance_46 : decode cX2_advance 46 = .ok (.aload_n 0, 1) := by decide +kernel
theorem dX2_advance_47 : decode cX2_advance 47 = .ok (.getfield 32, 3) := by decide +kernel
theorem dX2_advance_50 : decode cX2_advance 50 = .ok (.iload_n 2, 1) := by decide +kernel
theorem dX2_advance_51 : decode cX2_advance 51 = .ok (.iaload, 1) := by decide +kernel
theorem dX2_advance_52 : decode cX2_advance 52 = .ok (.ifCond .le 16, 3) := by decide +kernel
theorem dX2_advance_55 : decode cX2_advance 55 = .ok (.aload_n 0, 1) := by decide +kernel
theorem dX2_advance_56 : decode cX2_advance 56 = .ok (.iload_n 2, 1) := by decide +kernel
theorem dX2_advance_57 : decode cX2_advance 57 = .ok (.aload_n 0, 1) := by decide +kernel
theorem dX2_advance_58 : decode cX2_advance 58 = .ok (.getfield 32, 3) := by decide +kernel
theorem dX2_advance_61 : decode cX2_advance 61 = .ok (.iload_n 2, 1) := by decide +kernel
theorem dX2_advance_62 : decode cX2_advance 62 = .ok (.iaload, 1) := by decide +kernel
theorem dX2_advance_63 : decode cX2_advance 63 = .ok (.ineg, 1) := by decide +kernel
theorem dX2_advance_64 : decode cX2_advance 64 = .ok (.aload_n 1, 1) := by decide +kernel
theorem dX2_advance_65 : decode cX2_advance 65 = .ok (.invokevirtual 103, 3) := by decide +kernel
theorem dX2_advance_68 : decode cX2_advance 68 = .ok (.iinc 2 (-1), 3) := by decide +kernel
theorem dX2_advance_71 : decode cX2_advance 71 = .ok (.goto (-64), 3) := by decide +kernel
theorem dX2_advance_74 : decode cX2_advance 74 = .ok (.iconst 0, 1) := by decide +kernel
theorem dX2_advance_75 : decode cX2_advance 75 = .ok (.ireturn, 1) := by decide +kernel
theorem dX2_change_0 : decode cX2_change 0 = .ok (.aload_n 0, 1) := by decide +kernel
theorem dX2_change_1 : decode cX2_change 1 = .ok (.getfield 32, 3) := by decide +kernel
theorem dX2_change_4 : decode cX2_change 4 = .ok (.iload_n 1, 1) := by decide +kernel
theorem dX2_change_5 : decode cX2_change 5 = .ok (.dup2, 1) := by decide +kernel
theorem dX2_change_6 : decode cX2_change 6 = .ok (.iaload, 1) := by decide +kernel
theorem dX2_change_7 : decode cX2_change 7 = .ok (.iload_n 2, 1) := by decide +kernel
theorem dX2_change_8 : decode cX2_change 8 = .ok (.iadd, 1) := by decide +kernel
theorem dX2_change_9 : decode cX2_change 9 = .ok (.iastore, 1) := by decide +kernel
theorem dX2_change_10 : decode cX2_change 10 = .ok (.aload_n 0, 1) := by decide +kernel
theorem dX2_change_11 : decode cX2_change 11 = .ok (.dup, 1) := by decide +kernel
theorem dX2_change_12 : decode cX2_change 12 = .ok (.getfield 35, 3) := by decide +kernel
theorem dX2_change_15 : decode cX2_change 15 = .ok (.iload_n 2, 1) := by decide +kernel
theorem dX2_change_16 : decode cX2_change 16 = .ok (.iadd, 1) := by decide +kernel
theorem dX2_change_17 : decode cX2_change 17 = .ok (.putfield 35, 3) := by decide +kernel
theorem dX2_change_20 : decode cX2_change 20 = .ok (.iconst 0, 1) := by decide +kernel
theorem dX2_change_21 : decode cX2_change 21 = .ok (.istore 4, 2) := by decide +kernel
theorem dX2_change_23 : decode cX2_change 23 = .ok (.iload 4, 2) := by decide +kernel
theorem dX2_change_25 : decode cX2_change 25 = .ok (.iconst 3, 1) := by decide +kernel
theorem dX2_change_26 : decode cX2_change 26 = .ok (.if_icmp .ge 57, 3) := by decide +kernel
theorem dX2_change_29 : decode cX2_change 29 = .ok (.aload_n 0, 1) := by decide +kernel
theorem dX2_change_30 : decode cX2_change 30 = .ok (.getfield 41, 3) := by decide +kernel
theorem dX2_change_33 : decode cX2_change 33 = .ok (.iload 4, 2) := by decide +kernel
theorem dX2_change_35 : decode cX2_change 35 = .ok (.dup2, 1) := by decide +kernel
theorem dX2_change_36 : decode cX2_change 36 = .ok (.laload, 1) := by decide +kernel
theorem dX2_change_37 : decode cX2_change 37 = .ok (.iload_n 2, 1) := by decide +kernel
theorem dX2_change_38 : decode cX2_change 38 = .ok (.aload_n 3, 1) := by decide +kernel
theorem dX2_change_39 : decode cX2_change 39 = .ok (.getfield 107, 3) := by decide +kernel
theorem dX2_change_42 : decode cX2_change 42 = .ok (.iload_n 1, 1) := by decide +kernel
theorem dX2_change_43 : decode cX2_change 43 = .ok (.iconst 3, 1) := by decide +kernel
theorem dX2_change_44 : decode cX2_change 44 = .ok (.imul, 1) := by decide +kernel
theorem dX2_change_45 : decode cX2_change 45 = .ok (.iload 4, 2) := by decide +kernel
theorem dX2_change_47 : decode cX2_change 47 = .ok (.iadd, 1) := by decide +kernel
theorem dX2_change_48 : decode cX2_change 48 = .ok (.iaload, 1) := by decide +kernel
theorem dX2_change_49 : decode cX2_change 49 = .ok (.imul, 1) := by decide +kernel
theorem dX2_change_50 : decode cX2_change 50 = .ok (.i2l, 1) := by decide +kernel
theorem dX2_change_51 : decode cX2_change 51 = .ok (.ladd, 1) := by decide +kernel
theorem dX2_change_52 : decode cX2_change 52 = .ok (.lastore, 1) := by decide +kernel
theorem dX2_change_53 : decode cX2_change 53 = .ok (.aload_n 0, 1) := by decide +kernel
theorem dX2_change_54 : decode cX2_change 54 = .ok (.getfield 45, 3) := by decide +kernel
theorem dX2_change_57 : decode cX2_change 57 = .ok (.iload 4, 2) := by decide +kernel
theorem dX2_change_59 : decode cX2_change 59 = .ok (.dup2, 1) := by decide +kernel
theorem dX2_change_60 : decode cX2_change 60 = .ok (.laload, 1) := by decide +kernel
theorem dX2_change_61 : decode cX2_change 61 = .ok (.iload_n 2, 1) := by decide +kernel
theorem dX2_change_62 : decode cX2_change 62 = .ok (.aload_n 3, 1) := by decide +kernel
theorem dX2_change_63 : decode cX2_change 63 = .ok (.getfield 110, 3) := by decide +kernel
theorem dX2_change_66 : decode cX2_change 66 = .ok (.iload_n 1, 1) := by decide +kernel
theorem dX2_change_67 : decode cX2_change 67 = .ok (.iconst 3, 1) := by decide +kernel
theorem dX2_change_68 : decode cX2_change 68 = .ok (.imul, 1) := by decide +kernel
theorem dX2_change_69 : decode cX2_change 69 = .ok (.iload 4, 2) := by decide +kernel
theorem dX2_change_71 : decode cX2_change 71 = .ok (.iadd, 1) := by decide +kernel
theorem dX2_change_72 : decode cX2_change 72 = .ok (.iaload, 1) := by decide +kernel
theorem dX2_change_73 : decode cX2_change 73 = .ok (.imul, 1) := by decide +kernel
theorem dX2_change_74 : decode cX2_change 74 = .ok (.i2l, 1) := by decide +kernel
theorem dX2_change_75 : decode cX2_change 75 = .ok (.ladd, 1) := by decide +kernel
theorem dX2_change_76 : decode cX2_change 76 = .ok (.lastore, 1) := by decide +kernel
theorem dX2_change_77 : decode cX2_change 77 = .ok (.iinc 4 1, 3) := by decide +kernel
theorem dX2_change_80 : decode cX2_change 80 = .ok (.goto (-57), 3) := by decide +kernel
theorem dX2_change_83 : decode cX2_change 83 = .ok (.return_, 1) := by decide +kernel
theorem dX3_init_0 : decode cX3_init 0 = .ok (.aload_n 0, 1) := by decide +kernel
theorem dX3_init_1 : decode cX3_init 1 = .ok (.invokespecial 3, 3) := by decide +kernel
theorem dX3_init_4 : decode cX3_init 4 = .ok (.aload_n 0, 1) := by decide +kernel
theorem dX3_init_5 : decode cX3_init 5 = .ok (.bipush 100, 2) := by decide +kernel
theorem dX3_init_7 : decode cX3_init 7 = .ok (.newarray .int, 2) := by decide +kernel
theorem dX3_init_9 : decode cX3_init 9 = .ok (.putfield 9, 3) := by decide +kernel
theorem dX3_init_12 : decode cX3_init 12 = .ok (.aload_n 0, 1) := by decide +kernel
theorem dX3_init_13 : decode cX3_init 13 = .ok (.bipush 100, 2) := by decide +kernel
theorem dX3_init_15 : decode cX3_init 15 = .ok (.newarray .int, 2) := by decide +kernel
theorem dX3_init_17 : decode cX3_init 17 = .ok (.putfield 15, 3) := by decide +kernel
theorem dX3_init_20 : decode cX3_init 20 = .ok (.aload_n 0, 1) := by decide +kernel
theorem dX3_init_21 : decode cX3_init 21 = .ok (.bipush 100, 2) := by decide +kernel
theorem dX3_init_23 : decode cX3_init 23 = .ok (.newarray .int, 2) := by decide +kernel
theorem dX3_init_25 : decode cX3_init 25 = .ok (.putfield 18, 3) := by decide +kernel
theorem dX3_init_28 : decode cX3_init 28 = .ok (.aload_n 0, 1) := by decide +kernel
theorem dX3_init_29 : decode cX3_init 29 = .ok (.bipush 100, 2) := by decide +kernel
theorem dX3_init_31 : decode cX3_init 31 = .ok (.newarray .int, 2) := by decide +kernel
theorem dX3_init_33 : decode cX3_init 33 = .ok (.putfield 21, 3) := by decide +kernel
theorem dX3_init_36 : decode cX3_init 36 = .ok (.aload_n 0, 1) := by decide +kernel
theorem dX3_init_37 : decode cX3_init 37 = .ok (.bipush 100, 2) := by decide +kernel
theorem dX3_init_39 : decode cX3_init 39 = .ok (.newarray .long, 2) := by decide +kernel
theorem dX3_init_41 : decode cX3_init 41 = .ok (.putfield 24, 3) := by decide +kernel
theorem dX3_init_44 : decode cX3_init 44 = .ok (.aload_n 0, 1) := by decide +kernel
theorem dX3_init_45 : decode cX3_init 45 = .ok (.iconst 0, 1) := by decide +kernel
theorem dX3_init_46 : decode cX3_init 46 = .ok (.putfield 28, 3) := by decide +kernel
theorem dX3_init_49 : decode cX3_init 49 = .ok (.return_, 1) := by decide +kernel
theorem dX3_has_0 : decode cX3_has 0 = .ok (.iload_n 1, 1) := by decide +kernel
theorem dX3_has_1 : decode cX3_has 1 = .ok (.ifCond .lt 15, 3) := by decide +kernel
theorem dX3_has_4 : decode cX3_has 4 = .ok (.iload_n 1, 1) := by decide +kernel
theorem dX3_has_5 : decode cX3_has 5 = .ok (.aload_n 0, 1) := by decide +kernel
theorem dX3_has_6 : decode cX3_has 6 = .ok (.getfield 28, 3) := by decide +kernel
theorem dX3_has_9 : decode cX3_has 9 = .ok (.if_icmp .ge 7, 3) := by decide +kernel
theorem dX3_has_12 : decode cX3_has 12 = .ok (.iconst 1, 1) := by decide +kernel
theorem dX3_has_13 : decode cX3_has 13 = .ok (.goto 4, 3) := by decide +kernel
theorem dX3_has_16 : decode cX3_has 16 = .ok (.iconst 0, 1) := by decide +kernel
theorem dX3_has_17 : decode cX3_has 17 = .ok (.ireturn, 1) := by decide +kernel
theorem dX3_add_0 : decode cX3_add 0 = .ok (.aload_n 0, 1) := by decide +kernel
theorem dX3_add_1 : decode cX3_add 1 = .ok (.getfield 28, 3) := by decide +kernel
theorem dX3_add_4 : decode cX3_add 4 = .ok (.bipush 100, 2) := by decide +kernel
theorem dX3_add_6 : decode cX3_add 6 = .ok (.if_icmp .lt 6, 3) := by decide +kernel
theorem dX3_add_9 : decode cX3_add 9 = .ok (.bipush (-6), 2) := by decide +kernel
theorem dX3_add_11 : decode cX3_add 11 = .ok (.ireturn, 1) := by decide +kernel
theorem dX3_add_12 : decode cX3_add 12 = .ok (.aload_n 0, 1) := by decide +kernel
theorem dX3_add_13 : decode cX3_add 13 = .ok (.getfield 9, 3) := by decide +kernel
theorem dX3_add_16 : decode cX3_add 16 = .ok (.aload_n 0, 1) := by decide +kernel
theorem dX3_add_17 : decode cX3_add 17 = .ok (.getfield 28, 3) := by decide +kernel
theorem dX3_add_20 : decode cX3_add 20 = .ok (.iload_n 1, 1) := by decide +kernel
theorem dX3_add_21 : decode cX3_add 21 = .ok (.iastore, 1) := by decide +kernel
theorem dX3_add_22 : decode cX3_add 22 = .ok (.aload_n 0, 1) := by decide +kernel
theorem dX3_add_23 : decode cX3_add 23 = .ok (.getfield 15, 3) := by decide +kernel
theorem dX3_add_26 : decode cX3_add 26 = .ok (.aload_n 0, 1) := by decide +kernel
theorem dX3_add_27 : decode cX3_add 27 = .ok (.getfield 28, 3) := by decide +kernel
theorem dX3_add_30 : decode cX3_add 30 = .ok (.iload_n 2, 1) := by decide +kernel
theorem dX3_add_31 : decode cX3_add 31 = .ok (.iastore, 1) := by decide +kernel
theorem dX3_add_32 : decode cX3_add 32 = .ok (.aload_n 0, 1) := by decide +kernel
theorem dX3_add_33 : decode cX3_add 33 = .ok (.getfield 18, 3) := by decide +kernel
theorem dX3_add_36 : decode cX3_add 36 = .ok (.aload_n 0, 1) := by decide +kernel
theorem dX3_add_37 : decode cX3_add 37 = .ok (.getfield 28, 3) := by decide +kernel
theorem dX3_add_40 : decode cX3_add 40 = .ok (.iload_n 3, 1) := by decide +kernel
theorem dX3_add_41 : decode cX3_add 41 = .ok (.iastore, 1) := by decide +kernel
theorem dX3_add_42 : decode cX3_add 42 = .ok (.aload_n 0, 1) := by decide +kernel
theorem dX3_add_43 : decode cX3_add 43 = .ok (.getfield 21, 3) := by decide +kernel
theorem dX3_add_46 : decode cX3_add 46 = .ok (.aload_n 0, 1) := by decide +kernel
theorem dX3_add_47 : decode cX3_add 47 = .ok (.getfield 28, 3) := by decide +kernel
theorem dX3_add_50 : decode cX3_add 50 = .ok (.aload 4, 2) := by decide +kernel
theorem dX3_add_52 : decode cX3_add 52 = .ok (.getfield 32, 3) := by decide +kernel
theorem dX3_add_55 : decode cX3_add 55 = .ok (.iastore, 1) := by decide +kernel
theorem dX3_add_56 : decode cX3_add 56 = .ok (.aload_n 0, 1) := by decide +kernel
theorem dX3_add_57 : decode cX3_add 57 = .ok (.getfield 24, 3) := by decide +kernel
theorem dX3_add_60 : decode cX3_add 60 = .ok (.aload_n 0, 1) := by decide +kernel
theorem dX3_add_61 : decode cX3_add 61 = .ok (.getfield 28, 3) := by decide +kernel
theorem dX3_add_64 : decode cX3_add 64 = .ok (.aload 4, 2) := by decide +kernel
theorem dX3_add_66 : decode cX3_add 66 = .ok (.getfield 36, 3) := by decide +kernel
theorem dX3_add_69 : decode cX3_add 69 = .ok (.getfield 40, 3) := by decide +kernel
theorem dX3_add_72 : decode cX3_add 72 = .ok (.lastore, 1) := by decide +kernel
theorem dX3_add_73 : decode cX3_add 73 = .ok (.aload_n 0, 1) := by decide +kernel
theorem dX3_add_74 : decode cX3_add 74 = .ok (.dup, 1) := by decide +kernel
theorem dX3_add_75 : decode cX3_add 75 = .ok (.getfield 28, 3) := by decide +kernel
theorem dX3_add_78 : decode cX3_add 78 = .ok (.iconst 1, 1) := by decide +kernel
theorem dX3_add_79 : decode cX3_add 79 = .ok (.iadd, 1) := by decide +kernel
theorem dX3_add_80 : decode cX3_add 80 = .ok (.putfield 28, 3) := by decide +kernel
theorem dX3_add_83 : decode cX3_add 83 = .ok (.aload_n 0, 1) := by decide +kernel
theorem dX3_add_84 : decode cX3_add 84 = .ok (.getfield 28, 3) := by decide +kernel
theorem dX3_add_87 : decode cX3_add 87 = .ok (.iconst 1, 1) := by decide +kernel
theorem dX3_add_88 : decode cX3_add 88 = .ok (.isub, 1) := by decide +kernel
theorem dX3_add_89 : decode cX3_add 89 = .ok (.ireturn, 1) := by decide +kernel
theorem dX3_countWith_0 : decode cX3_countWith 0 = .ok (.iconst 0, 1) := by decide +kernel
theorem dX3_countWith_1 : decode cX3_countWith 1 = .ok (.istore_n 2, 1) := by decide +kernel
theorem dX3_countWith_2 : decode cX3_countWith 2 = .ok (.iconst 0, 1) := by decide +kernel
theorem dX3_countWith_3 : decode cX3_countWith 3 = .ok (.istore_n 3, 1) := by decide +kernel
theorem dX3_countWith_4 : decode cX3_countWith 4 = .ok (.iload_n 3, 1) := by decide +kernel
theorem dX3_countWith_5 : decode cX3_countWith 5 = .ok (.aload_n 0, 1) := by decide +kernel
theorem dX3_countWith_6 : decode cX3_countWith 6 = .ok (.getfield 28, 3) := by decide +kernel
theorem dX3_countWith_9 : decode cX3_countWith 9 = .ok (.if_icmp .ge 25, 3) := by decide +kernel
theorem dX3_countWith_12 : decode cX3_countWith 12 = .ok (.aload_n 0, 1) := by decide +kernel
theorem dX3_countWith_13 : decode cX3_countWith 13 = .ok (.getfield 24, 3) := by decide +kernel
theorem dX3_countWith_16 : decode cX3_countWith 16 = .ok (.iload_n 3, 1) := by decide +kernel
theorem dX3_countWith_17 : decode cX3_countWith 17 = .ok (.laload, 1) := by decide +kernel
theorem dX3_countWith_18 : decode cX3_countWith 18 = .ok (.iload_n 1, 1) := by decide +kernel
theorem dX3_countWith_19 : decode cX3_countWith 19 = .ok (.invokestatic 45, 3) := by decide +kernel
theorem dX3_countWith_22 : decode cX3_countWith 22 = .ok (.ifCond .eq 6, 3) := by decide +kernel
theorem dX3_countWith_25 : decode cX3_countWith 25 = .ok (.iinc 2 1, 3) := by decide +kernel
theorem dX3_countWith_28 : decode cX3_countWith 28 = .ok (.iinc 3 1, 3) := by decide +kernel
theorem dX3_countWith_31 : decode cX3_countWith 31 = .ok (.goto (-27), 3) := by decide +kernel
theorem dX3_countWith_34 : decode cX3_countWith 34 = .ok (.iload_n 2, 1) := by decide +kernel
theorem dX3_countWith_35 : decode cX3_countWith 35 = .ok (.ireturn, 1) := by decide +kernel
theorem dX4_init_0 : decode cX4_init 0 = .ok (.aload_n 0, 1) := by decide +kernel
theorem dX4_init_1 : decode cX4_init 1 = .ok (.invokespecial 3, 3) := by decide +kernel
theorem dX4_init_4 : decode cX4_init 4 = .ok (.aload_n 0, 1) := by decide +kernel
theorem dX4_init_5 : decode cX4_init 5 = .ok (.bipush 8, 2) := by decide +kernel
theorem dX4_init_7 : decode cX4_init 7 = .ok (.newarray .int, 2) := by decide +kernel
theorem dX4_init_9 : decode cX4_init 9 = .ok (.putfield 9, 3) := by decide +kernel
theorem dX4_init_12 : decode cX4_init 12 = .ok (.aload_n 0, 1) := by decide +kernel
theorem dX4_init_13 : decode cX4_init 13 = .ok (.iconst 0, 1) := by decide +kernel
theorem dX4_init_14 : decode cX4_init 14 = .ok (.putfield 15, 3) := by decide +kernel
theorem dX4_init_17 : decode cX4_init 17 = .ok (.aload_n 0, 1) := by decide +kernel
theorem dX4_init_18 : decode cX4_init 18 = .ok (.lconst 0, 1) := by decide +kernel
theorem dX4_init_19 : decode cX4_init 19 = .ok (.putfield 19, 3) := by decide +kernel
theorem dX4_init_22 : decode cX4_init 22 = .ok (.return_, 1) := by decide +kernel
theorem dX4_add_0 : decode cX4_add 0 = .ok (.aload_n 0, 1) := by decide +kernel
theorem dX4_add_1 : decode cX4_add 1 = .ok (.getfield 9, 3) := by decide +kernel
theorem dX4_add_4 : decode cX4_add 4 = .ok (.iload_n 1, 1) := by decide +kernel
theorem dX4_add_5 : decode cX4_add 5 = .ok (.dup2, 1) := by decide +kernel
theorem dX4_add_6 : decode cX4_add 6 = .ok (.iaload, 1) := by decide +kernel
theorem dX4_add_7 : decode cX4_add 7 = .ok (.iload_n 2, 1) := by decide +kernel
theorem dX4_add_8 : decode cX4_add 8 = .ok (.iadd, 1) := by decide +kernel
theorem dX4_add_9 : decode cX4_add 9 = .ok (.iastore, 1) := by decide +kernel
theorem dX4_add_10 : decode cX4_add 10 = .ok (.aload_n 0, 1) := by decide +kernel
theorem dX4_add_11 : decode cX4_add 11 = .ok (.dup, 1) := by decide +kernel
theorem dX4_add_12 : decode cX4_add 12 = .ok (.getfield 15, 3) := by decide +kernel
theorem dX4_add_15 : decode cX4_add 15 = .ok (.iload_n 2, 1) := by decide +kernel
theorem dX4_add_16 : decode cX4_add 16 = .ok (.iadd, 1) := by decide +kernel
theorem dX4_add_17 : decode cX4_add 17 = .ok (.putfield 15, 3) := by decide +kernel
theorem dX4_add_20 : decode cX4_add 20 = .ok (.aload_n 0, 1) := by decide +kernel
theorem dX4_add_21 : decode cX4_add 21 = .ok (.dup, 1) := by decide +kernel
theorem dX4_add_22 : decode cX4_add 22 = .ok (.getfield 19, 3) := by decide +kernel
theorem dX4_add_25 : decode cX4_add 25 = .ok (.lconst 1, 1) := by decide +kernel
theorem dX4_add_26 : decode cX4_add 26 = .ok (.iload_n 3, 1) := by decide +kernel
theorem dX4_add_27 : decode cX4_add 27 = .ok (.lshl, 1) := by decide +kernel
theorem dX4_add_28 : decode cX4_add 28 = .ok (.lor, 1) := by decide +kernel
theorem dX4_add_29 : decode cX4_add 29 = .ok (.putfield 19, 3) := by decide +kernel
theorem dX4_add_32 : decode cX4_add 32 = .ok (.return_, 1) := by decide +kernel
theorem dX4_addAll_0 : decode cX4_addAll 0 = .ok (.iconst 0, 1) := by decide +kernel
theorem dX4_addAll_1 : decode cX4_addAll 1 = .ok (.istore_n 2, 1) := by decide +kernel
theorem dX4_addAll_2 : decode cX4_addAll 2 = .ok (.iload_n 2, 1) := by decide +kernel
theorem dX4_addAll_3 : decode cX4_addAll 3 = .ok (.bipush 8, 2) := by decide +kernel
theorem dX4_addAll_5 : decode cX4_addAll 5 = .ok (.if_icmp .ge 24, 3) := by decide +kernel
theorem dX4_addAll_8 : decode cX4_addAll 8 = .ok (.aload_n 0, 1) := by decide +kernel
theorem dX4_addAll_9 : decode cX4_addAll 9 = .ok (.getfield 9, 3) := by decide +kernel
theorem dX4_addAll_12 : decode cX4_addAll 12 = .ok (.iload_n 2, 1) := by decide +kernel
theorem dX4_addAll_13 : decode cX4_addAll 13 = .ok (.dup2, 1) := by decide +kernel
theorem dX4_addAll_14 : decode cX4_addAll 14 = .ok (.iaload, 1) := by decide +kernel
theorem dX4_addAll_15 : decode cX4_addAll 15 = .ok (.aload_n 1, 1) := by decide +kernel
theorem dX4_addAll_16 : decode cX4_addAll 16 = .ok (.getfield 9, 3) := by decide +kernel
theorem dX4_addAll_19 : decode cX4_addAll 19 = .ok (.iload_n 2, 1) := by decide +kernel
theorem dX4_addAll_20 : decode cX4_addAll 20 = .ok (.iaload, 1) := by decide +kernel
theorem dX4_addAll_21 : decode cX4_addAll 21 = .ok (.iadd, 1) := by decide +kernel
theorem dX4_addAll_22 : decode cX4_addAll 22 = .ok (.iastore, 1) := by decide +kernel
theorem dX4_addAll_23 : decode cX4_addAll 23 = .ok (.iinc 2 1, 3) := by decide +kernel
theorem dX4_addAll_26 : decode cX4_addAll 26 = .ok (.goto (-24), 3) := by decide +kernel
theorem dX4_addAll_29 : decode cX4_addAll 29 = .ok (.aload_n 0, 1) := by decide +kernel
theorem dX4_addAll_30 : decode cX4_addAll 30 = .ok (.dup, 1) := by decide +kernel
theorem dX4_addAll_31 : decode cX4_addAll 31 = .ok (.getfield 15, 3) := by decide +kernel
theorem dX4_addAll_34 : decode cX4_addAll 34 = .ok (.aload_n 1, 1) := by decide +kernel
theorem dX4_addAll_35 : decode cX4_addAll 35 = .ok (.getfield 15, 3) := by decide +kernel
theorem dX4_addAll_38 : decode cX4_addAll 38 = .ok (.iadd, 1) := by decide +kernel
theorem dX4_addAll_39 : decode cX4_addAll 39 = .ok (.putfield 15, 3) := by decide +kernel
theorem dX4_addAll_42 : decode cX4_addAll 42 = .ok (.aload_n 0, 1) := by decide +kernel
theorem dX4_addAll_43 : decode cX4_addAll 43 = .ok (.dup, 1) := by decide +kernel
theorem dX4_addAll_44 : decode cX4_addAll 44 = .ok (.getfield 19, 3) := by decide +kernel
theorem dX4_addAll_47 : decode cX4_addAll 47 = .ok (.aload_n 1, 1) := by decide +kernel
theorem dX4_addAll_48 : decode cX4_addAll 48 = .ok (.getfield 19, 3) := by decide +kernel
theorem dX4_addAll_51 : decode cX4_addAll 51 = .ok (.lor, 1) := by decide +kernel
theorem dX4_addAll_52 : decode cX4_addAll 52 = .ok (.putfield 19, 3) := by decide +kernel
theorem dX4_addAll_55 : decode cX4_addAll 55 = .ok (.return_, 1) := by decide +kernel
theorem dX4_empty_0 : decode cX4_empty 0 = .ok (.aload_n 0, 1) := by decide +kernel
theorem dX4_empty_1 : decode cX4_empty 1 = .ok (.getfield 9, 3) := by decide +kernel
theorem dX4_empty_4 : decode cX4_empty 4 = .ok (.iconst 0, 1) := by decide +kernel
theorem dX4_empty_5 : decode cX4_empty 5 = .ok (.invokestatic 23, 3) := by decide +kernel
theorem dX4_empty_8 : decode cX4_empty 8 = .ok (.aload_n 0, 1) := by decide +kernel
theorem dX4_empty_9 : decode cX4_empty 9 = .ok (.iconst 0, 1) := by decide +kernel
theorem dX4_empty_10 : decode cX4_empty 10 = .ok (.putfield 15, 3) := by decide +kernel
theorem dX4_empty_13 : decode cX4_empty 13 = .ok (.aload_n 0, 1) := by decide +kernel
theorem dX4_empty_14 : decode cX4_empty 14 = .ok (.lconst 0, 1) := by decide +kernel
theorem dX4_empty_15 : decode cX4_empty 15 = .ok (.putfield 19, 3) := by decide +kernel
theorem dX4_empty_18 : decode cX4_empty 18 = .ok (.return_, 1) := by decide +kernel
theorem dX5_init_0 : decode cX5_init 0 = .ok (.aload_n 0, 1) := by decide +kernel
theorem dX5_init_1 : decode cX5_init 1 = .ok (.invokespecial 3, 3) := by decide +kernel
theorem dX5_init_4 : decode cX5_init 4 = .ok (.aload_n 0, 1) := by decide +kernel
theorem dX5_init_5 : decode cX5_init 5 = .ok (.bipush 24, 2) := by decide +kernel
theorem dX5_init_7 : decode cX5_init 7 = .ok (.newarray .int, 2) := by decide +kernel
theorem dX5_init_9 : decode cX5_init 9 = .ok (.putfield 9, 3) := by decide +kernel
theorem dX5_init_12 : decode cX5_init 12 = .ok (.aload_n 0, 1) := by decide +kernel
theorem dX5_init_13 : decode cX5_init 13 = .ok (.bipush 24, 2) := by decide +kernel
theorem dX5_init_15 : decode cX5_init 15 = .ok (.newarray .int, 2) := by decide +kernel
theorem dX5_init_17 : decode cX5_init 17 = .ok (.putfield 15, 3) := by decide +kernel
theorem dX5_init_20 : decode cX5_init 20 = .ok (.aload_n 0, 1) := by decide +kernel
theorem dX5_init_21 : decode cX5_init 21 = .ok (.iconst 0, 1) := by decide +kernel
theorem dX5_init_22 : decode cX5_init 22 = .ok (.putfield 18, 3) := by decide +kernel
theorem dX5_init_25 : decode cX5_init 25 = .ok (.return_, 1) := by decide +kernel
theorem dX5_has_0 : decode cX5_has 0 = .ok (.iload_n 1, 1) := by decide +kernel
theorem dX5_has_1 : decode cX5_has 1 = .ok (.ifCond .lt 15, 3) := by decide +kernel
theorem dX5_has_4 : decode cX5_has 4 = .ok (.iload_n 1, 1) := by decide +kernel
theorem dX5_has_5 : decode cX5_has 5 = .ok (.aload_n 0, 1) := by decide +kernel
theorem dX5_has_6 : decode cX5_has 6 = .ok (.getfield 18, 3) := by decide +kernel
theorem dX5_has_9 : decode cX5_has 9 = .ok (.if_icmp .ge 7, 3) := by decide +kernel
theorem dX5_has_12 : decode cX5_has 12 = .ok (.iconst 1, 1) := by decide +kernel
theorem dX5_has_13 : decode cX5_has 13 = .ok (.goto 4, 3) := by decide +kernel
theorem dX5_has_16 : decode cX5_has 16 = .ok (.iconst 0, 1) := by decide +kernel
theorem dX5_has_17 : decode cX5_has 17 = .ok (.ireturn, 1) := by decide +kernel
theorem dX5_add_0 : decode cX5_add 0 = .ok (.aload_n 0, 1) := by decide +kernel
theorem dX5_add_1 : decode cX5_add 1 = .ok (.getfield 18, 3) := by decide +kernel
theorem dX5_add_4 : decode cX5_add 4 = .ok (.bipush 8, 2) := by decide +kernel
theorem dX5_add_6 : decode cX5_add 6 = .ok (.if_icmp .lt 6, 3) := by decide +kernel
theorem dX5_add_9 : decode cX5_add 9 = .ok (.bipush (-6), 2) := by decide +kernel
theorem dX5_add_11 : decode cX5_add 11 = .ok (.ireturn, 1) := by decide +kernel
theorem dX5_add_12 : decode cX5_add 12 = .ok (.iconst 0, 1) := by decide +kernel
theorem dX5_add_13 : decode cX5_add 13 = .ok (.istore_n 3, 1) := by decide +kernel
theorem dX5_add_14 : decode cX5_add 14 = .ok (.iload_n 3, 1) := by decide +kernel
theorem dX5_add_15 : decode cX5_add 15 = .ok (.iconst 3, 1) := by decide +kernel
theorem dX5_add_16 : decode cX5_add 16 = .ok (.if_icmp .ge 20, 3) := by decide +kernel
theorem dX5_add_19 : decode cX5_add 19 = .ok (.aload_n 0, 1) := by decide +kernel
theorem dX5_add_20 : decode cX5_add 20 = .ok (.aload_n 0, 1) := by decide +kernel
theorem dX5_add_21 : decode cX5_add 21 = .ok (.getfield 18, 3) := by decide +kernel
theorem dX5_add_24 : decode cX5_add 24 = .ok (.iload_n 3, 1) := by decide +kernel
theorem dX5_add_25 : decode cX5_add 25 = .ok (.iload_n 1, 1) := by decide +kernel
theorem dX5_add_26 : decode cX5_add 26 = .ok (.iload_n 2, 1) := by decide +kernel
theorem dX5_add_27 : decode cX5_add 27 = .ok (.invokevirtual 22, 3) := by decide +kernel
theorem dX5_add_30 : decode cX5_add 30 = .ok (.iinc 3 1, 3) := by decide +kernel
theorem dX5_add_33 : decode cX5_add 33 = .ok (.goto (-19), 3) := by decide +kernel
theorem dX5_add_36 : decode cX5_add 36 = .ok (.aload_n 0, 1) := by decide +kernel
theorem dX5_add_37 : decode cX5_add 37 = .ok (.dup, 1) := by decide +kernel
theorem dX5_add_38 : decode cX5_add 38 = .ok (.getfield 18, 3) := by decide +kernel
theorem dX5_add_41 : decode cX5_add 41 = .ok (.iconst 1, 1) := by decide +kernel
theorem dX5_add_42 : decode cX5_add 42 = .ok (.iadd, 1) := by decide +kernel
theorem dX5_add_43 : decode cX5_add 43 = .ok (.putfield 18, 3) := by decide +kernel
theorem dX5_add_46 : decode cX5_add 46 = .ok (.aload_n 0, 1) := by decide +kernel
theorem dX5_add_47 : decode cX5_add 47 = .ok (.getfield 18, 3) := by decide +kernel
theorem dX5_add_50 : decode cX5_add 50 = .ok (.iconst 1, 1) := by decide +kernel
theorem dX5_add_51 : decode cX5_add 51 = .ok (.isub, 1) := by decide +kernel
theorem dX5_add_52 : decode cX5_add 52 = .ok (.ireturn, 1) := by decide +kernel
theorem dX5_tell_0 : decode cX5_tell 0 = .ok (.aload_n 0, 1) := by decide +kernel
theorem dX5_tell_1 : decode cX5_tell 1 = .ok (.getfield 9, 3) := by decide +kernel
theorem dX5_tell_4 : decode cX5_tell 4 = .ok (.iload_n 1, 1) := by decide +kernel
theorem dX5_tell_5 : decode cX5_tell 5 = .ok (.iconst 3, 1) := by decide +kernel
theorem dX5_tell_6 : decode cX5_tell 6 = .ok (.imul, 1) := by decide +kernel
theorem dX5_tell_7 : decode cX5_tell 7 = .ok (.iload_n 2, 1) := by decide +kernel
theorem dX5_tell_8 : decode cX5_tell 8 = .ok (.iadd, 1) := by decide +kernel
theorem dX5_tell_9 : decode cX5_tell 9 = .ok (.iload_n 3, 1) := by decide +kernel
theorem dX5_tell_10 : decode cX5_tell 10 = .ok (.iastore, 1) := by decide +kernel
theorem dX5_tell_11 : decode cX5_tell 11 = .ok (.aload_n 0, 1) := by decide +kernel
theorem dX5_tell_12 : decode cX5_tell 12 = .ok (.getfield 15, 3) := by decide +kernel
theorem dX5_tell_15 : decode cX5_tell 15 = .ok (.iload_n 1, 1) := by decide +kernel
theorem dX5_tell_16 : decode cX5_tell 16 = .ok (.iconst 3, 1) := by decide +kernel
theorem dX5_tell_17 : decode cX5_tell 17 = .ok (.imul, 1) := by decide +kernel
theorem dX5_tell_18 : decode cX5_tell 18 = .ok (.iload_n 2, 1) := by decide +kernel
theorem dX5_tell_19 : decode cX5_tell 19 = .ok (.iadd, 1) := by decide +kernel
theorem dX5_tell_20 : decode cX5_tell 20 = .ok (.iload 4, 2) := by decide +kernel
theorem dX5_tell_22 : decode cX5_tell 22 = .ok (.iastore, 1) := by decide +kernel
theorem dX5_tell_23 : decode cX5_tell 23 = .ok (.return_, 1) := by decide +kernel
theorem dX5_absorbed_0 : decode cX5_absorbed 0 = .ok (.aload_n 0, 1) := by decide +kernel
theorem dX5_absorbed_1 : decode cX5_absorbed 1 = .ok (.aload_n 1, 1) := by decide +kernel
theorem dX5_absorbed_2 : decode cX5_absorbed 2 = .ok (.getfield 26, 3) := by decide +kernel
theorem dX5_absorbed_5 : decode cX5_absorbed 5 = .ok (.aload_n 0, 1) := by decide +kernel
theorem dX5_absorbed_6 : decode cX5_absorbed 6 = .ok (.getfield 9, 3) := by decide +kernel
theorem dX5_absorbed_9 : decode cX5_absorbed 9 = .ok (.iload_n 2, 1) := by decide +kernel
theorem dX5_absorbed_10 : decode cX5_absorbed 10 = .ok (.invokevirtual 31, 3) := by decide +kernel
theorem dX5_absorbed_13 : decode cX5_absorbed 13 = .ok (.lreturn, 1) := by decide +kernel
theorem dX5_scattered_0 : decode cX5_scattered 0 = .ok (.aload_n 0, 1) := by decide +kernel
theorem dX5_scattered_1 : decode cX5_scattered 1 = .ok (.aload_n 1, 1) := by decide +kernel
theorem dX5_scattered_2 : decode cX5_scattered 2 = .ok (.getfield 26, 3) := by decide +kernel
theorem dX5_scattered_5 : decode cX5_scattered 5 = .ok (.aload_n 0, 1) := by decide +kernel
theorem dX5_scattered_6 : decode cX5_scattered 6 = .ok (.getfield 15, 3) := by decide +kernel
theorem dX5_scattered_9 : decode cX5_scattered 9 = .ok (.iload_n 2, 1) := by decide +kernel
theorem dX5_scattered_10 : decode cX5_scattered 10 = .ok (.invokevirtual 31, 3) := by decide +kernel
theorem dX5_scattered_13 : decode cX5_scattered 13 = .ok (.lreturn, 1) := by decide +kernel
theorem dX5_shadeOf_0 : decode cX5_shadeOf 0 = .ok (.aload_n 0, 1) := by decide +kernel
theorem dX5_shadeOf_1 : decode cX5_shadeOf 1 = .ok (.aload_n 1, 1) := by decide +kernel
theorem dX5_shadeOf_2 : decode cX5_shadeOf 2 = .ok (.iload_n 2, 1) := by decide +kernel
theorem dX5_shadeOf_3 : decode cX5_shadeOf 3 = .ok (.invokevirtual 35, 3) := by decide +kernel
theorem dX5_shadeOf_6 : decode cX5_shadeOf 6 = .ok (.aload_n 0, 1) := by decide +kernel
theorem dX5_shadeOf_7 : decode cX5_shadeOf 7 = .ok (.aload_n 1, 1) := by decide +kernel
theorem dX5_shadeOf_8 : decode cX5_shadeOf 8 = .ok (.iload_n 2, 1) := by decide +kernel
theorem dX5_shadeOf_9 : decode cX5_shadeOf 9 = .ok (.invokevirtual 39, 3) := by decide +kernel
theorem dX5_shadeOf_12 : decode cX5_shadeOf 12 = .ok (.invokestatic 42, 3) := by decide +kernel
theorem dX5_shadeOf_15 : decode cX5_shadeOf 15 = .ok (.ireturn, 1) := by decide +kernel
theorem dX5_weighted_0 : decode cX5_weighted 0 = .ok (.lconst 0, 1) := by decide +kernel
theorem dX5_weighted_1 : decode cX5_weighted 1 = .ok (.lstore 4, 2) := by decide +kernel
theorem dX5_weighted_3 : decode cX5_weighted 3 = .ok (.iconst 0, 1) := by decide +kernel
theorem dX5_weighted_4 : decode cX5_weighted 4 = .ok (.istore 6, 2) := by decide +kernel
theorem dX5_weighted_6 : decode cX5_weighted 6 = .ok (.iload 6, 2) := by decide +kernel
theorem dX5_weighted_8 : decode cX5_weighted 8 = .ok (.aload_n 0, 1) := by decide +kernel
theorem dX5_weighted_9 : decode cX5_weighted 9 = .ok (.getfield 18, 3) := by decide +kernel
theorem dX5_weighted_12 : decode cX5_weighted 12 = .ok (.if_icmp .ge 29, 3) := by decide +kernel
theorem dX5_weighted_15 : decode cX5_weighted 15 = .ok (.lload 4, 2) := by decide +kernel
theorem dX5_weighted_17 : decode cX5_weighted 17 = .ok (.aload_n 1, 1) := by decide +kernel
theorem dX5_weighted_18 : decode cX5_weighted 18 = .ok (.iload 6, 2) := by decide +kernel
theorem dX5_weighted_20 : decode cX5_weighted 20 = .ok (.iaload, 1) := by decide +kernel
theorem dX5_weighted_21 : decode cX5_weighted 21 = .ok (.i2l, 1) := by decide +kernel
theorem dX5_weighted_22 : decode cX5_weighted 22 = .ok (.aload_n 2, 1) := by decide +kernel
theorem dX5_weighted_23 : decode cX5_weighted 23 = .ok (.iload 6, 2) := by decide +kernel
theorem dX5_weighted_25 : decode cX5_weighted 25 = .ok (.iconst 3, 1) := by decide +kernel
theorem dX5_weighted_26 : decode cX5_weighted 26 = .ok (.imul, 1) := by decide +kernel
theorem dX5_weighted_27 : decode cX5_weighted 27 = .ok (.iload_n 3, 1) := by decide +kernel
theorem dX5_weighted_28 : decode cX5_weighted 28 = .ok (.iadd, 1) := by decide +kernel
theorem dX5_weighted_29 : decode cX5_weighted 29 = .ok (.iaload, 1) := by decide +kernel
theorem dX5_weighted_30 : decode cX5_weighted 30 = .ok (.i2l, 1) := by decide +kernel
theorem dX5_weighted_31 : decode cX5_weighted 31 = .ok (.lmul, 1) := by decide +kernel
theorem dX5_weighted_32 : decode cX5_weighted 32 = .ok (.ladd, 1) := by decide +kernel
theorem dX5_weighted_33 : decode cX5_weighted 33 = .ok (.lstore 4, 2) := by decide +kernel
theorem dX5_weighted_35 : decode cX5_weighted 35 = .ok (.iinc 6 1, 3) := by decide +kernel
theorem dX5_weighted_38 : decode cX5_weighted 38 = .ok (.goto (-32), 3) := by decide +kernel
theorem dX5_weighted_41 : decode cX5_weighted 41 = .ok (.lload 4, 2) := by decide +kernel
theorem dX5_weighted_43 : decode cX5_weighted 43 = .ok (.lreturn, 1) := by decide +kernel
theorem dX6_init_0 : decode cX6_init 0 = .ok (.aload_n 0, 1) := by decide +kernel
theorem dX6_init_1 : decode cX6_init 1 = .ok (.invokespecial 3, 3) := by decide +kernel
theorem dX6_init_4 : decode cX6_init 4 = .ok (.aload_n 0, 1) := by decide +kernel
theorem dX6_init_5 : decode cX6_init 5 = .ok (.bipush 8, 2) := by decide +kernel
theorem dX6_init_7 : decode cX6_init 7 = .ok (.newarray .int, 2) := by decide +kernel
theorem dX6_init_9 : decode cX6_init 9 = .ok (.putfield 9, 3) := by decide +kernel
theorem dX6_init_12 : decode cX6_init 12 = .ok (.aload_n 0, 1) := by decide +kernel
theorem dX6_init_13 : decode cX6_init 13 = .ok (.bipush 8, 2) := by decide +kernel
theorem dX6_init_15 : decode cX6_init 15 = .ok (.newarray .int, 2) := by decide +kernel
theorem dX6_init_17 : decode cX6_init 17 = .ok (.putfield 15, 3) := by decide +kernel
theorem dX6_init_20 : decode cX6_init 20 = .ok (.aload_n 0, 1) := by decide +kernel
theorem dX6_init_21 : decode cX6_init 21 = .ok (.bipush 8, 2) := by decide +kernel
theorem dX6_init_23 : decode cX6_init 23 = .ok (.newarray .int, 2) := by decide +kernel
theorem dX6_init_25 : decode cX6_init 25 = .ok (.putfield 18, 3) := by decide +kernel
theorem dX6_init_28 : decode cX6_init 28 = .ok (.aload_n 0, 1) := by decide +kernel
theorem dX6_init_29 : decode cX6_init 29 = .ok (.bipush 8, 2) := by decide +kernel
theorem dX6_init_31 : decode cX6_init 31 = .ok (.newarray .int, 2) := by decide +kernel
theorem dX6_init_33 : decode cX6_init 33 = .ok (.putfield 21, 3) := by decide +kernel
theorem dX6_init_36 : decode cX6_init 36 = .ok (.aload_n 0, 1) := by decide +kernel
theorem dX6_init_37 : decode cX6_init 37 = .ok (.iconst 0, 1) := by decide +kernel
theorem dX6_init_38 : decode cX6_init 38 = .ok (.putfield 24, 3) := by decide +kernel
theorem dX6_init_41 : decode cX6_init 41 = .ok (.aload_n 0, 1) := by decide +kernel
theorem dX6_init_42 : decode cX6_init 42 = .ok (.bipush 36, 2) := by decide +kernel
theorem dX6_init_44 : decode cX6_init 44 = .ok (.newarray .int, 2) := by decide +kernel
theorem dX6_init_46 : decode cX6_init 46 = .ok (.putfield 28, 3) := by decide +kernel
theorem dX6_init_49 : decode cX6_init 49 = .ok (.aload_n 0, 1) := by decide +kernel
theorem dX6_init_50 : decode cX6_init 50 = .ok (.sipush 1536, 3) := by decide +kernel
theorem dX6_init_53 : decode cX6_init 53 = .ok (.newarray .int, 2) := by decide +kernel
theorem dX6_init_55 : decode cX6_init 55 = .ok (.putfield 31, 3) := by decide +kernel
theorem dX6_init_58 : decode cX6_init 58 = .ok (.aload_n 0, 1) := by decide +kernel
theorem dX6_init_59 : decode cX6_init 59 = .ok (.bipush 8, 2) := by decide +kernel
theorem dX6_init_61 : decode cX6_init 61 = .ok (.newarray .int, 2) := by decide +kernel
theorem dX6_init_63 : decode cX6_init 63 = .ok (.putfield 34, 3) := by decide +kernel
theorem dX6_init_66 : decode cX6_init 66 = .ok (.aload_n 0, 1) := by decide +kernel
theorem dX6_init_67 : decode cX6_init 67 = .ok (.iconst 0, 1) := by decide +kernel
theorem dX6_init_68 : decode cX6_init 68 = .ok (.putfield 37, 3) := by decide +kernel
theorem dX6_init_71 : decode cX6_init 71 = .ok (.return_, 1) := by decide +kernel
theorem dX6_add_0 : decode cX6_add 0 = .ok (.aload_n 0, 1) := by decide +kernel
theorem dX6_add_1 : decode cX6_add 1 = .ok (.getfield 24, 3) := by decide +kernel
theorem dX6_add_4 : decode cX6_add 4 = .ok (.bipush 8, 2) := by decide +kernel
theorem dX6_add_6 : decode cX6_add 6 = .ok (.if_icmp .lt 6, 3) := by decide +kernel
theorem dX6_add_9 : decode cX6_add 9 = .ok (.bipush (-6), 2) := by decide +kernel
theorem dX6_add_11 : decode cX6_add 11 = .ok (.ireturn, 1) := by decide +kernel
theorem dX6_add_12 : decode cX6_add 12 = .ok (.aload_n 0, 1) := by decide +kernel
theorem dX6_add_13 : decode cX6_add 13 = .ok (.getfield 9, 3) := by decide +kernel
theorem dX6_add_16 : decode cX6_add 16 = .ok (.aload_n 0, 1) := by decide +kernel
theorem dX6_add_17 : decode cX6_add 17 = .ok (.getfield 24, 3) := by decide +kernel
theorem dX6_add_20 : decode cX6_add 20 = .ok (.iload_n 1, 1) := by decide +kernel
theorem dX6_add_21 : decode cX6_add 21 = .ok (.iastore, 1) := by decide +kernel
theorem dX6_add_22 : decode cX6_add 22 = .ok (.aload_n 0, 1) := by decide +kernel
theorem dX6_add_23 : decode cX6_add 23 = .ok (.getfield 15, 3) := by decide +kernel
theorem dX6_add_26 : decode cX6_add 26 = .ok (.aload_n 0, 1) := by decide +kernel
theorem dX6_add_27 : decode cX6_add 27 = .ok (.getfield 24, 3) := by decide +kernel
theorem dX6_add_30 : decode cX6_add 30 = .ok (.iload_n 2, 1) := by decide +kernel
theorem dX6_add_31 : decode cX6_add 31 = .ok (.iastore, 1) := by decide +kernel
theorem dX6_add_32 : decode cX6_add 32 = .ok (.aload_n 0, 1) := by decide +kernel
theorem dX6_add_33 : decode cX6_add 33 = .ok (.getfield 18, 3) := by decide +kernel
theorem dX6_add_36 : decode cX6_add 36 = .ok (.aload_n 0, 1) := by decide +kernel
theorem dX6_add_37 : decode cX6_add 37 = .ok (.getfield 24, 3) := by decide +kernel
theorem dX6_add_40 : decode cX6_add 40 = .ok (.iload_n 3, 1) := by decide +kernel
theorem dX6_add_41 : decode cX6_add 41 = .ok (.iastore, 1) := by decide +kernel
theorem dX6_add_42 : decode cX6_add 42 = .ok (.aload_n 0, 1) := by decide +kernel
theorem dX6_add_43 : decode cX6_add 43 = .ok (.getfield 21, 3) := by decide +kernel
theorem dX6_add_46 : decode cX6_add 46 = .ok (.aload_n 0, 1) := by decide +kernel
theorem dX6_add_47 : decode cX6_add 47 = .ok (.getfield 24, 3) := by decide +kernel
theorem dX6_add_50 : decode cX6_add 50 = .ok (.iload 4, 2) := by decide +kernel
theorem dX6_add_52 : decode cX6_add 52 = .ok (.iastore, 1) := by decide +kernel
theorem dX6_add_53 : decode cX6_add 53 = .ok (.aload_n 0, 1) := by decide +kernel
theorem dX6_add_54 : decode cX6_add 54 = .ok (.dup, 1) := by decide +kernel
theorem dX6_add_55 : decode cX6_add 55 = .ok (.getfield 24, 3) := by decide +kernel
theorem dX6_add_58 : decode cX6_add 58 = .ok (.iconst 1, 1) := by decide +kernel
theorem dX6_add_59 : decode cX6_add 59 = .ok (.iadd, 1) := by decide +kernel
theorem dX6_add_60 : decode cX6_add 60 = .ok (.putfield 24, 3) := by decide +kernel
theorem dX6_add_63 : decode cX6_add 63 = .ok (.aload_n 0, 1) := by decide +kernel
theorem dX6_add_64 : decode cX6_add 64 = .ok (.getfield 24, 3) := by decide +kernel
theorem dX6_add_67 : decode cX6_add 67 = .ok (.iconst 1, 1) := by decide +kernel
theorem dX6_add_68 : decode cX6_add 68 = .ok (.isub, 1) := by decide +kernel
theorem dX6_add_69 : decode cX6_add 69 = .ok (.ireturn, 1) := by decide +kernel
theorem dX6_tellChange_0 : decode cX6_tellChange 0 = .ok (.aload_n 0, 1) := by decide +kernel
theorem dX6_tellChange_1 : decode cX6_tellChange 1 = .ok (.getfield 28, 3) := by decide +kernel
theorem dX6_tellChange_4 : decode cX6_tellChange 4 = .ok (.iload_n 1, 1) := by decide +kernel
theorem dX6_tellChange_5 : decode cX6_tellChange 5 = .ok (.bipush 6, 2) := by decide +kernel
theorem dX6_tellChange_7 : decode cX6_tellChange 7 = .ok (.imul, 1) := by decide +kernel
theorem dX6_tellChange_8 : decode cX6_tellChange 8 = .ok (.iload_n 2, 1) := by decide +kernel
theorem dX6_tellChange_9 : decode cX6_tellChange 9 = .ok (.iadd, 1) := by decide +kernel
theorem dX6_tellChange_10 : decode cX6_tellChange 10 = .ok (.iaload, 1) := by decide +kernel
theorem dX6_tellChange_11 : decode cX6_tellChange 11 = .ok (.istore 4, 2) := by decide +kernel
theorem dX6_tellChange_13 : decode cX6_tellChange 13 = .ok (.aload_n 0, 1) := by decide +kernel
theorem dX6_tellChange_14 : decode cX6_tellChange 14 = .ok (.getfield 28, 3) := by decide +kernel
theorem dX6_tellChange_17 : decode cX6_tellChange 17 = .ok (.iload_n 1, 1) := by decide +kernel
theorem dX6_tellChange_18 : decode cX6_tellChange 18 = .ok (.bipush 6, 2) := by decide +kernel
theorem dX6_tellChange_20 : decode cX6_tellChange 20 = .ok (.imul, 1) := by decide +kernel
theorem dX6_tellChange_21 : decode cX6_tellChange 21 = .ok (.iload_n 2, 1) := by decide +kernel
theorem dX6_tellChange_22 : decode cX6_tellChange 22 = .ok (.iadd, 1) := by decide +kernel
theorem dX6_tellChange_23 : decode cX6_tellChange 23 = .ok (.iload_n 3, 1) := by decide +kernel
theorem dX6_tellChange_24 : decode cX6_tellChange 24 = .ok (.iastore, 1) := by decide +kernel
theorem dX6_tellChange_25 : decode cX6_tellChange 25 = .ok (.iload 4, 2) := by decide +kernel
theorem dX6_tellChange_27 : decode cX6_tellChange 27 = .ok (.ireturn, 1) := by decide +kernel
theorem dX6_arrange_0 : decode cX6_arrange 0 = .ok (.iconst 1, 1) := by decide +kernel
theorem dX6_arrange_1 : decode cX6_arrange 1 = .ok (.aload_n 0, 1) := by decide +kernel
theorem dX6_arrange_2 : decode cX6_arrange 2 = .ok (.getfield 24, 3) := by decide +kernel
theorem dX6_arrange_5 : decode cX6_arrange 5 = .ok (.ishl, 1) := by decide +kernel
theorem dX6_arrange_6 : decode cX6_arrange 6 = .ok (.iconst 1, 1) := by decide +kernel
theorem dX6_arrange_7 : decode cX6_arrange 7 = .ok (.isub, 1) := by decide +kernel
theorem dX6_arrange_8 : decode cX6_arrange 8 = .ok (.istore_n 2, 1) := by decide +kernel
theorem dX6_arrange_9 : decode cX6_arrange 9 = .ok (.iload_n 2, 1) := by decide +kernel
theorem dX6_arrange_10 : decode cX6_arrange 10 = .ok (.istore_n 3, 1) := by decide +kernel
theorem dX6_arrange_11 : decode cX6_arrange 11 = .ok (.iload_n 3, 1) := by decide +kernel
theorem dX6_arrange_12 : decode cX6_arrange 12 = .ok (.ifCond .lt 76, 3) := by decide +kernel
theorem dX6_arrange_15 : decode cX6_arrange 15 = .ok (.aload_n 0, 1) := by decide +kernel
theorem dX6_arrange_16 : decode cX6_arrange 16 = .ok (.iload_n 3, 1) := by decide +kernel
theorem dX6_arrange_17 : decode cX6_arrange 17 = .ok (.invokevirtual 40, 3) := by decide +kernel
theorem dX6_arrange_20 : decode cX6_arrange 20 = .ok (.istore 4, 2) := by decide +kernel
theorem dX6_arrange_22 : decode cX6_arrange 22 = .ok (.iconst 0, 1) := by decide +kernel
theorem dX6_arrange_23 : decode cX6_arrange 23 = .ok (.istore 5, 2) := by decide +kernel
theorem dX6_arrange_25 : decode cX6_arrange 25 = .ok (.iload 5, 2) := by decide +kernel
theorem dX6_arrange_27 : decode cX6_arrange 27 = .ok (.bipush 6, 2) := by decide +kernel
theorem dX6_arrange_29 : decode cX6_arrange 29 = .ok (.if_icmp .ge 53, 3) := by decide +kernel
theorem dX6_arrange_32 : decode cX6_arrange 32 = .ok (.aload_n 0, 1) := by decide +kernel
theorem dX6_arrange_33 : decode cX6_arrange 33 = .ok (.iload_n 3, 1) := by decide +kernel
theorem dX6_arrange_34 : decode cX6_arrange 34 = .ok (.iload 5, 2) := by decide +kernel
theorem dX6_arrange_36 : decode cX6_arrange 36 = .ok (.iload 4, 2) := by decide +kernel
theorem dX6_arrange_38 : decode cX6_arrange 38 = .ok (.invokevirtual 44, 3) := by decide +kernel
theorem dX6_arrange_41 : decode cX6_arrange 41 = .ok (.istore 6, 2) := by decide +kernel
theorem dX6_arrange_43 : decode cX6_arrange 43 = .ok (.aload_n 0, 1) := by decide +kernel
theorem dX6_arrange_44 : decode cX6_arrange 44 = .ok (.getfield 31, 3) := by decide +kernel
theorem dX6_arrange_47 : decode cX6_arrange 47 = .ok (.iload_n 3, 1) := by decide +kernel
theorem dX6_arrange_48 : decode cX6_arrange 48 = .ok (.bipush 6, 2) := by decide +kernel
theorem dX6_arrange_50 : decode cX6_arrange 50 = .ok (.imul, 1) := by decide +kernel
theorem dX6_arrange_51 : decode cX6_arrange 51 = .ok (.iload 5, 2) := by decide +kernel
theorem dX6_arrange_53 : decode cX6_arrange 53 = .ok (.iadd, 1) := by decide +kernel
theorem dX6_arrange_54 : decode cX6_arrange 54 = .ok (.iload 6, 2) := by decide +kernel
theorem dX6_arrange_56 : decode cX6_arrange 56 = .ok (.iconst (-1), 1) := by decide +kernel
theorem dX6_arrange_57 : decode cX6_arrange 57 = .ok (.if_icmp .ne 7, 3) := by decide +kernel
theorem dX6_arrange_60 : decode cX6_arrange 60 = .ok (.iconst 0, 1) := by decide +kernel
theorem dX6_arrange_61 : decode cX6_arrange 61 = .ok (.goto 14, 3) := by decide +kernel
theorem dX6_arrange_64 : decode cX6_arrange 64 = .ok (.aload_n 0, 1) := by decide +kernel
theorem dX6_arrange_65 : decode cX6_arrange 65 = .ok (.iload 6, 2) := by decide +kernel
theorem dX6_arrange_67 : decode cX6_arrange 67 = .ok (.iload_n 3, 1) := by decide +kernel
theorem dX6_arrange_68 : decode cX6_arrange 68 = .ok (.iload 5, 2) := by decide +kernel
theorem dX6_arrange_70 : decode cX6_arrange 70 = .ok (.iload 4, 2) := by decide +kernel
theorem dX6_arrange_72 : decode cX6_arrange 72 = .ok (.invokevirtual 48, 3) := by decide +kernel
theorem dX6_arrange_75 : decode cX6_arrange 75 = .ok (.iastore, 1) := by decide +kernel
theorem dX6_arrange_76 : decode cX6_arrange 76 = .ok (.iinc 5 1, 3) := by decide +kernel
theorem dX6_arrange_79 : decode cX6_arrange 79 = .ok (.goto (-54), 3) := by decide +kernel
theorem dX6_arrange_82 : decode cX6_arrange 82 = .ok (.iinc 3 (-1), 3) := by decide +kernel
theorem dX6_arrange_85 : decode cX6_arrange 85 = .ok (.goto (-74), 3) := by decide +kernel
theorem dX6_arrange_88 : decode cX6_arrange 88 = .ok (.aload_n 0, 1) := by decide +kernel
theorem dX6_arrange_89 : decode cX6_arrange 89 = .ok (.iload_n 1, 1) := by decide +kernel
theorem dX6_arrange_90 : decode cX6_arrange 90 = .ok (.invokevirtual 52, 3) := by decide +kernel
theorem dX6_arrange_93 : decode cX6_arrange 93 = .ok (.aload_n 0, 1) := by decide +kernel
theorem dX6_arrange_94 : decode cX6_arrange 94 = .ok (.getfield 31, 3) := by decide +kernel
theorem dX6_arrange_97 : decode cX6_arrange 97 = .ok (.iload_n 1, 1) := by decide +kernel
theorem dX6_arrange_98 : decode cX6_arrange 98 = .ok (.iaload, 1) := by decide +kernel
theorem dX6_arrange_99 : decode cX6_arrange 99 = .ok (.ireturn, 1) := by decide +kernel
theorem dX6_writeOrder_0 : decode cX6_writeOrder 0 = .ok (.iconst 0, 1) := by decide +kernel
theorem dX6_writeOrder_1 : decode cX6_writeOrder 1 = .ok (.istore_n 2, 1) := by decide +kernel
theorem dX6_writeOrder_2 : decode cX6_writeOrder 2 = .ok (.iload_n 1, 1) := by decide +kernel
theorem dX6_writeOrder_3 : decode cX6_writeOrder 3 = .ok (.istore_n 3, 1) := by decide +kernel
theorem dX6_writeOrder_4 : decode cX6_writeOrder 4 = .ok (.iconst 0, 1) := by decide +kernel
theorem dX6_writeOrder_5 : decode cX6_writeOrder 5 = .ok (.istore 4, 2) := by decide +kernel
theorem dX6_writeOrder_7 : decode cX6_writeOrder 7 = .ok (.aload_n 0, 1) := by decide +kernel
theorem dX6_writeOrder_8 : decode cX6_writeOrder 8 = .ok (.aload_n 0, 1) := by decide +kernel
theorem dX6_writeOrder_9 : decode cX6_writeOrder 9 = .ok (.getfield 24, 3) := by decide +kernel
theorem dX6_writeOrder_12 : decode cX6_writeOrder 12 = .ok (.putfield 37, 3) := by decide +kernel
theorem dX6_writeOrder_15 : decode cX6_writeOrder 15 = .ok (.iconst 0, 1) := by decide +kernel
theorem dX6_writeOrder_16 : decode cX6_writeOrder 16 = .ok (.istore 5, 2) := by decide +kernel
theorem dX6_writeOrder_18 : decode cX6_writeOrder 18 = .ok (.iload 5, 2) := by decide +kernel
theorem dX6_writeOrder_20 : decode cX6_writeOrder 20 = .ok (.aload_n 0, 1) := by decide +kernel
theorem dX6_writeOrder_21 : decode cX6_writeOrder 21 = .ok (.getfield 24, 3) := by decide +kernel
theorem dX6_writeOrder_24 : decode cX6_writeOrder 24 = .ok (.if_icmp .ge 62, 3) := by decide +kernel
theorem dX6_writeOrder_27 : decode cX6_writeOrder 27 = .ok (.aload_n 0, 1) := by decide +kernel
theorem dX6_writeOrder_28 : decode cX6_writeOrder 28 = .ok (.iload_n 2, 1) := by decide +kernel
theorem dX6_writeOrder_29 : decode cX6_writeOrder 29 = .ok (.iload_n 3, 1) := by decide +kernel
theorem dX6_writeOrder_30 : decode cX6_writeOrder 30 = .ok (.iload 4, 2) := by decide +kernel
theorem dX6_writeOrder_32 : decode cX6_writeOrder 32 = .ok (.invokevirtual 44, 3) := by decide +kernel
theorem dX6_writeOrder_35 : decode cX6_writeOrder 35 = .ok (.istore 6, 2) := by decide +kernel
theorem dX6_writeOrder_37 : decode cX6_writeOrder 37 = .ok (.iload 6, 2) := by decide +kernel
theorem dX6_writeOrder_39 : decode cX6_writeOrder 39 = .ok (.iconst (-1), 1) := by decide +kernel
theorem dX6_writeOrder_40 : decode cX6_writeOrder 40 = .ok (.if_icmp .ne 4, 3) := by decide +kernel
theorem dX6_writeOrder_43 : decode cX6_writeOrder 43 = .ok (.return_, 1) := by decide +kernel
theorem dX6_writeOrder_44 : decode cX6_writeOrder 44 = .ok (.aload_n 0, 1) := by decide +kernel
theorem dX6_writeOrder_45 : decode cX6_writeOrder 45 = .ok (.getfield 34, 3) := by decide +kernel
theorem dX6_writeOrder_48 : decode cX6_writeOrder 48 = .ok (.iload 5, 2) := by decide +kernel
theorem dX6_writeOrder_50 : decode cX6_writeOrder 50 = .ok (.iload 6, 2) := by decide +kernel
theorem dX6_writeOrder_52 : decode cX6_writeOrder 52 = .ok (.iastore, 1) := by decide +kernel
theorem dX6_writeOrder_53 : decode cX6_writeOrder 53 = .ok (.iload_n 2, 1) := by decide +kernel
theorem dX6_writeOrder_54 : decode cX6_writeOrder 54 = .ok (.iconst 1, 1) := by decide +kernel
theorem dX6_writeOrder_55 : decode cX6_writeOrder 55 = .ok (.iload 6, 2) := by decide +kernel
theorem dX6_writeOrder_57 : decode cX6_writeOrder 57 = .ok (.ishl, 1) := by decide +kernel
theorem dX6_writeOrder_58 : decode cX6_writeOrder 58 = .ok (.ior, 1) := by decide +kernel
theorem dX6_writeOrder_59 : decode cX6_writeOrder 59 = .ok (.istore_n 2, 1) := by decide +kernel
theorem dX6_writeOrder_60 : decode cX6_writeOrder 60 = .ok (.aload_n 0, 1) := by decide +kernel
theorem dX6_writeOrder_61 : decode cX6_writeOrder 61 = .ok (.getfield 9, 3) := by decide +kernel
theorem dX6_writeOrder_64 : decode cX6_writeOrder 64 = .ok (.iload 6, 2) := by decide +kernel
theorem dX6_writeOrder_66 : decode cX6_writeOrder 66 = .ok (.iaload, 1) := by decide +kernel
theorem dX6_writeOrder_67 : decode cX6_writeOrder 67 = .ok (.istore_n 3, 1) := by decide +kernel
theorem dX6_writeOrder_68 : decode cX6_writeOrder 68 = .ok (.iload 4, 2) := by decide +kernel
theorem dX6_writeOrder_70 : decode cX6_writeOrder 70 = .ok (.aload_n 0, 1) := by decide +kernel
theorem dX6_writeOrder_71 : decode cX6_writeOrder 71 = .ok (.getfield 15, 3) := by decide +kernel
theorem dX6_writeOrder_74 : decode cX6_writeOrder 74 = .ok (.iload 6, 2) := by decide +kernel
theorem dX6_writeOrder_76 : decode cX6_writeOrder 76 = .ok (.iaload, 1) := by decide +kernel
theorem dX6_writeOrder_77 : decode cX6_writeOrder 77 = .ok (.iadd, 1) := by decide +kernel
theorem dX6_writeOrder_78 : decode cX6_writeOrder 78 = .ok (.istore 4, 2) := by decide +kernel
theorem dX6_writeOrder_80 : decode cX6_writeOrder 80 = .ok (.iinc 5 1, 3) := by decide +kernel
theorem dX6_writeOrder_83 : decode cX6_writeOrder 83 = .ok (.goto (-65), 3) := by decide +kernel
theorem dX6_writeOrder_86 : decode cX6_writeOrder 86 = .ok (.return_, 1) := by decide +kernel
theorem dX6_bestNext_0 : decode cX6_bestNext 0 = .ok (.iconst (-1), 1) := by decide +kernel
theorem dX6_bestNext_1 : decode cX6_bestNext 1 = .ok (.istore 4, 2) := by decide +kernel
theorem dX6_bestNext_3 : decode cX6_bestNext 3 = .ok (.iconst 0, 1) := by decide +kernel
theorem dX6_bestNext_4 : decode cX6_bestNext 4 = .ok (.istore 5, 2) := by decide +kernel
theorem dX6_bestNext_6 : decode cX6_bestNext 6 = .ok (.iconst 0, 1) := by decide +kernel
theorem dX6_bestNext_7 : decode cX6_bestNext 7 = .ok (.istore 6, 2) := by decide +kernel
theorem dX6_bestNext_9 : decode cX6_bestNext 9 = .ok (.iload 6, 2) := by decide +kernel
theorem dX6_bestNext_11 : decode cX6_bestNext 11 = .ok (.aload_n 0, 1) := by decide +kernel
theorem dX6_bestNext_12 : decode cX6_bestNext 12 = .ok (.getfield 24, 3) := by decide +kernel
theorem dX6_bestNext_15 : decode cX6_bestNext 15 = .ok (.if_icmp .ge 54, 3) := by decide +kernel
theorem dX6_bestNext_18 : decode cX6_bestNext 18 = .ok (.iload_n 1, 1) := by decide +kernel
theorem dX6_bestNext_19 : decode cX6_bestNext 19 = .ok (.i2l, 1) := by decide +kernel
theorem dX6_bestNext_20 : decode cX6_bestNext 20 = .ok (.iload 6, 2) := by decide +kernel
theorem dX6_bestNext_22 : decode cX6_bestNext 22 = .ok (.invokestatic 56, 3) := by decide +kernel
theorem dX6_bestNext_25 : decode cX6_bestNext 25 = .ok (.ifCond .eq 6, 3) := by decide +kernel
theorem dX6_bestNext_28 : decode cX6_bestNext 28 = .ok (.goto 35, 3) := by decide +kernel
theorem dX6_bestNext_31 : decode cX6_bestNext 31 = .ok (.aload_n 0, 1) := by decide +kernel
theorem dX6_bestNext_32 : decode cX6_bestNext 32 = .ok (.iload 6, 2) := by decide +kernel
theorem dX6_bestNext_34 : decode cX6_bestNext 34 = .ok (.iload_n 1, 1) := by decide +kernel
theorem dX6_bestNext_35 : decode cX6_bestNext 35 = .ok (.iload_n 2, 1) := by decide +kernel
theorem dX6_bestNext_36 : decode cX6_bestNext 36 = .ok (.iload_n 3, 1) := by decide +kernel
theorem dX6_bestNext_37 : decode cX6_bestNext 37 = .ok (.invokevirtual 48, 3) := by decide +kernel
theorem dX6_bestNext_40 : decode cX6_bestNext 40 = .ok (.istore 7, 2) := by decide +kernel
theorem dX6_bestNext_42 : decode cX6_bestNext 42 = .ok (.iload 4, 2) := by decide +kernel
theorem dX6_bestNext_44 : decode cX6_bestNext 44 = .ok (.iconst (-1), 1) := by decide +kernel
theorem dX6_bestNext_45 : decode cX6_bestNext 45 = .ok (.if_icmp .eq 10, 3) := by decide +kernel
theorem dX6_bestNext_48 : decode cX6_bestNext 48 = .ok (.iload 7, 2) := by decide +kernel
theorem dX6_bestNext_50 : decode cX6_bestNext 50 = .ok (.iload 5, 2) := by decide +kernel
theorem dX6_bestNext_52 : decode cX6_bestNext 52 = .ok (.if_icmp .ge 11, 3) := by decide +kernel
theorem dX6_bestNext_55 : decode cX6_bestNext 55 = .ok (.iload 6, 2) := by decide +kernel
theorem dX6_bestNext_57 : decode cX6_bestNext 57 = .ok (.istore 4, 2) := by decide +kernel
theorem dX6_bestNext_59 : decode cX6_bestNext 59 = .ok (.iload 7, 2) := by decide +kernel
theorem dX6_bestNext_61 : decode cX6_bestNext 61 = .ok (.istore 5, 2) := by decide +kernel
theorem dX6_bestNext_63 : decode cX6_bestNext 63 = .ok (.iinc 6 1, 3) := by decide +kernel
theorem dX6_bestNext_66 : decode cX6_bestNext 66 = .ok (.goto (-57), 3) := by decide +kernel
theorem dX6_bestNext_69 : decode cX6_bestNext 69 = .ok (.iload 4, 2) := by decide +kernel
theorem dX6_bestNext_71 : decode cX6_bestNext 71 = .ok (.ireturn, 1) := by decide +kernel
theorem dX6_costWith_0 : decode cX6_costWith 0 = .ok (.iconst 0, 1) := by decide +kernel
theorem dX6_costWith_1 : decode cX6_costWith 1 = .ok (.iload 4, 2) := by decide +kernel
theorem dX6_costWith_3 : decode cX6_costWith 3 = .ok (.aload_n 0, 1) := by decide +kernel
theorem dX6_costWith_4 : decode cX6_costWith 4 = .ok (.getfield 15, 3) := by decide +kernel
theorem dX6_costWith_7 : decode cX6_costWith 7 = .ok (.iload_n 1, 1) := by decide +kernel
theorem dX6_costWith_8 : decode cX6_costWith 8 = .ok (.iaload, 1) := by decide +kernel
theorem dX6_costWith_9 : decode cX6_costWith 9 = .ok (.iadd, 1) := by decide +kernel
theorem dX6_costWith_10 : decode cX6_costWith 10 = .ok (.aload_n 0, 1) := by decide +kernel
theorem dX6_costWith_11 : decode cX6_costWith 11 = .ok (.getfield 18, 3) := by decide +kernel
theorem dX6_costWith_14 : decode cX6_costWith 14 = .ok (.iload_n 1, 1) := by decide +kernel
theorem dX6_costWith_15 : decode cX6_costWith 15 = .ok (.iaload, 1) := by decide +kernel
theorem dX6_costWith_16 : decode cX6_costWith 16 = .ok (.isub, 1) := by decide +kernel
theorem dX6_costWith_17 : decode cX6_costWith 17 = .ok (.invokestatic 60, 3) := by decide +kernel
theorem dX6_costWith_20 : decode cX6_costWith 20 = .ok (.istore 5, 2) := by decide +kernel
theorem dX6_costWith_22 : decode cX6_costWith 22 = .ok (.aload_n 0, 1) := by decide +kernel
theorem dX6_costWith_23 : decode cX6_costWith 23 = .ok (.getfield 31, 3) := by decide +kernel
theorem dX6_costWith_26 : decode cX6_costWith 26 = .ok (.iload_n 2, 1) := by decide +kernel
theorem dX6_costWith_27 : decode cX6_costWith 27 = .ok (.iconst 1, 1) := by decide +kernel
theorem dX6_costWith_28 : decode cX6_costWith 28 = .ok (.iload_n 1, 1) := by decide +kernel
theorem dX6_costWith_29 : decode cX6_costWith 29 = .ok (.ishl, 1) := by decide +kernel
theorem dX6_costWith_30 : decode cX6_costWith 30 = .ok (.ior, 1) := by decide +kernel
theorem dX6_costWith_31 : decode cX6_costWith 31 = .ok (.bipush 6, 2) := by decide +kernel
theorem dX6_costWith_33 : decode cX6_costWith 33 = .ok (.imul, 1) := by decide +kernel
theorem dX6_costWith_34 : decode cX6_costWith 34 = .ok (.aload_n 0, 1) := by decide +kernel
theorem dX6_costWith_35 : decode cX6_costWith 35 = .ok (.getfield 9, 3) := by decide +kernel
theorem dX6_costWith_38 : decode cX6_costWith 38 = .ok (.iload_n 1, 1) := by decide +kernel
theorem dX6_costWith_39 : decode cX6_costWith 39 = .ok (.iaload, 1) := by decide +kernel
theorem dX6_costWith_40 : decode cX6_costWith 40 = .ok (.iadd, 1) := by decide +kernel
theorem dX6_costWith_41 : decode cX6_costWith 41 = .ok (.iaload, 1) := by decide +kernel
theorem dX6_costWith_42 : decode cX6_costWith 42 = .ok (.istore 6, 2) := by decide +kernel
theorem dX6_costWith_44 : decode cX6_costWith 44 = .ok (.aload_n 0, 1) := by decide +kernel
theorem dX6_costWith_45 : decode cX6_costWith 45 = .ok (.getfield 28, 3) := by decide +kernel
theorem dX6_costWith_48 : decode cX6_costWith 48 = .ok (.iload_n 3, 1) := by decide +kernel
theorem dX6_costWith_49 : decode cX6_costWith 49 = .ok (.bipush 6, 2) := by decide +kernel
theorem dX6_costWith_51 : decode cX6_costWith 51 = .ok (.imul, 1) := by decide +kernel
theorem dX6_costWith_52 : decode cX6_costWith 52 = .ok (.aload_n 0, 1) := by decide +kernel
theorem dX6_costWith_53 : decode cX6_costWith 53 = .ok (.getfield 9, 3) := by decide +kernel
theorem dX6_costWith_56 : decode cX6_costWith 56 = .ok (.iload_n 1, 1) := by decide +kernel
theorem dX6_costWith_57 : decode cX6_costWith 57 = .ok (.iaload, 1) := by decide +kernel
theorem dX6_costWith_58 : decode cX6_costWith 58 = .ok (.iadd, 1) := by decide +kernel
theorem dX6_costWith_59 : decode cX6_costWith 59 = .ok (.iaload, 1) := by decide +kernel
theorem dX6_costWith_60 : decode cX6_costWith 60 = .ok (.aload_n 0, 1) := by decide +kernel
theorem dX6_costWith_61 : decode cX6_costWith 61 = .ok (.getfield 21, 3) := by decide +kernel
theorem dX6_costWith_64 : decode cX6_costWith 64 = .ok (.iload_n 1, 1) := by decide +kernel
theorem dX6_costWith_65 : decode cX6_costWith 65 = .ok (.iaload, 1) := by decide +kernel
theorem dX6_costWith_66 : decode cX6_costWith 66 = .ok (.iload 5, 2) := by decide +kernel
theorem dX6_costWith_68 : decode cX6_costWith 68 = .ok (.imul, 1) := by decide +kernel
theorem dX6_costWith_69 : decode cX6_costWith 69 = .ok (.iadd, 1) := by decide +kernel
theorem dX6_costWith_70 : decode cX6_costWith 70 = .ok (.iload 6, 2) := by decide +kernel
theorem dX6_costWith_72 : decode cX6_costWith 72 = .ok (.iadd, 1) := by decide +kernel
theorem dX6_costWith_73 : decode cX6_costWith 73 = .ok (.ireturn, 1) := by decide +kernel
theorem dX6_timeOfSet_0 : decode cX6_timeOfSet 0 = .ok (.iconst 0, 1) := by decide +kernel
theorem dX6_timeOfSet_1 : decode cX6_timeOfSet 1 = .ok (.istore_n 2, 1) := by decide +kernel
theorem dX6_timeOfSet_2 : decode cX6_timeOfSet 2 = .ok (.iconst 0, 1) := by decide +kernel
theorem dX6_timeOfSet_3 : decode cX6_timeOfSet 3 = .ok (.istore_n 3, 1) := by decide +kernel
theorem dX6_timeOfSet_4 : decode cX6_timeOfSet 4 = .ok (.iload_n 3, 1) := by decide +kernel
theorem dX6_timeOfSet_5 : decode cX6_timeOfSet 5 = .ok (.aload_n 0, 1) := by decide +kernel
theorem dX6_timeOfSet_6 : decode cX6_timeOfSet 6 = .ok (.getfield 24, 3) := by decide +kernel
theorem dX6_timeOfSet_9 : decode cX6_timeOfSet 9 = .ok (.if_icmp .ge 27, 3) := by decide +kernel
theorem dX6_timeOfSet_12 : decode cX6_timeOfSet 12 = .ok (.iload_n 1, 1) := by decide +kernel
theorem dX6_timeOfSet_13 : decode cX6_timeOfSet 13 = .ok (.i2l, 1) := by decide +kernel
theorem dX6_timeOfSet_14 : decode cX6_timeOfSet 14 = .ok (.iload_n 3, 1) := by decide +kernel
theorem dX6_timeOfSet_15 : decode cX6_timeOfSet 15 = .ok (.invokestatic 56, 3) := by decide +kernel
theorem dX6_timeOfSet_18 : decode cX6_timeOfSet 18 = .ok (.ifCond .eq 12, 3) := by decide +kernel
theorem dX6_timeOfSet_21 : decode cX6_timeOfSet 21 = .ok (.iload_n 2, 1) := by decide +kernel
theorem dX6_timeOfSet_22 : decode cX6_timeOfSet 22 = .ok (.aload_n 0, 1) := by decide +kernel
theorem dX6_timeOfSet_23 : decode cX6_timeOfSet 23 = .ok (.getfield 15, 3) := by decide +kernel
theorem dX6_timeOfSet_26 : decode cX6_timeOfSet 26 = .ok (.iload_n 3, 1) := by decide +kernel
theorem dX6_timeOfSet_27 : decode cX6_timeOfSet 27 = .ok (.iaload, 1) := by decide +kernel
theorem dX6_timeOfSet_28 : decode cX6_timeOfSet 28 = .ok (.iadd, 1) := by decide +kernel
theorem dX6_timeOfSet_29 : decode cX6_timeOfSet 29 = .ok (.istore_n 2, 1) := by decide +kernel
theorem dX6_timeOfSet_30 : decode cX6_timeOfSet 30 = .ok (.iinc 3 1, 3) := by decide +kernel
theorem dX6_timeOfSet_33 : decode cX6_timeOfSet 33 = .ok (.goto (-29), 3) := by decide +kernel
theorem dX6_timeOfSet_36 : decode cX6_timeOfSet 36 = .ok (.iload_n 2, 1) := by decide +kernel
theorem dX6_timeOfSet_37 : decode cX6_timeOfSet 37 = .ok (.ireturn, 1) := by decide +kernel
theorem dX7_init_0 : decode cX7_init 0 = .ok (.aload_n 0, 1) := by decide +kernel
theorem dX7_init_1 : decode cX7_init 1 = .ok (.invokespecial 3, 3) := by decide +kernel
theorem dX7_init_4 : decode cX7_init 4 = .ok (.aload_n 0, 1) := by decide +kernel
theorem dX7_init_5 : decode cX7_init 5 = .ok (.bipush 40, 2) := by decide +kernel
theorem dX7_init_7 : decode cX7_init 7 = .ok (.newarray .int, 2) := by decide +kernel
theorem dX7_init_9 : decode cX7_init 9 = .ok (.putfield 9, 3) := by decide +kernel
theorem dX7_init_12 : decode cX7_init 12 = .ok (.aload_n 0, 1) := by decide +kernel
theorem dX7_init_13 : decode cX7_init 13 = .ok (.bipush 40, 2) := by decide +kernel
theorem dX7_init_15 : decode cX7_init 15 = .ok (.newarray .int, 2) := by decide +kernel
theorem dX7_init_17 : decode cX7_init 17 = .ok (.putfield 15, 3) := by decide +kernel
theorem dX7_init_20 : decode cX7_init 20 = .ok (.aload_n 0, 1) := by decide +kernel
theorem dX7_init_21 : decode cX7_init 21 = .ok (.bipush 40, 2) := by decide +kernel
theorem dX7_init_23 : decode cX7_init 23 = .ok (.newarray .int, 2) := by decide +kernel
theorem dX7_init_25 : decode cX7_init 25 = .ok (.putfield 18, 3) := by decide +kernel
theorem dX7_init_28 : decode cX7_init 28 = .ok (.aload_n 0, 1) := by decide +kernel
theorem dX7_init_29 : decode cX7_init 29 = .ok (.iconst 0, 1) := by decide +kernel
theorem dX7_init_30 : decode cX7_init 30 = .ok (.putfield 21, 3) := by decide +kernel
theorem dX7_init_33 : decode cX7_init 33 = .ok (.aload_n 0, 1) := by decide +kernel
theorem dX7_init_34 : decode cX7_init 34 = .ok (.iconst 0, 1) := by decide +kernel
theorem dX7_init_35 : decode cX7_init 35 = .ok (.putfield 25, 3) := by decide +kernel
theorem dX7_init_38 : decode cX7_init 38 = .ok (.return_, 1) := by decide +kernel
theorem dX7_has_0 : decode cX7_has 0 = .ok (.iload_n 1, 1) := by decide +kernel
theorem dX7_has_1 : decode cX7_has 1 = .ok (.ifCond .lt 15, 3) := by decide +kernel
theorem dX7_has_4 : decode cX7_has 4 = .ok (.iload_n 1, 1) := by decide +kernel
theorem dX7_has_5 : decode cX7_has 5 = .ok (.aload_n 0, 1) := by decide +kernel
theorem dX7_has_6 : decode cX7_has 6 = .ok (.getfield 21, 3) := by decide +kernel
theorem dX7_has_9 : decode cX7_has 9 = .ok (.if_icmp .ge 7, 3) := by decide +kernel
theorem dX7_has_12 : decode cX7_has 12 = .ok (.iconst 1, 1) := by decide +kernel
theorem dX7_has_13 : decode cX7_has 13 = .ok (.goto 4, 3) := by decide +kernel
theorem dX7_has_16 : decode cX7_has 16 = .ok (.iconst 0, 1) := by decide +kernel
theorem dX7_has_17 : decode cX7_has 17 = .ok (.ireturn, 1) := by decide +kernel
theorem dX7_add_0 : decode cX7_add 0 = .ok (.aload_n 0, 1) := by decide +kernel
theorem dX7_add_1 : decode cX7_add 1 = .ok (.getfield 21, 3) := by decide +kernel
theorem dX7_add_4 : decode cX7_add 4 = .ok (.bipush 40, 2) := by decide +kernel
theorem dX7_add_6 : decode cX7_add 6 = .ok (.if_icmp .lt 6, 3) := by decide +kernel
theorem dX7_add_9 : decode cX7_add 9 = .ok (.bipush (-6), 2) := by decide +kernel
theorem dX7_add_11 : decode cX7_add 11 = .ok (.ireturn, 1) := by decide +kernel
theorem dX7_add_12 : decode cX7_add 12 = .ok (.aload_n 0, 1) := by decide +kernel
theorem dX7_add_13 : decode cX7_add 13 = .ok (.getfield 9, 3) := by decide +kernel
theorem dX7_add_16 : decode cX7_add 16 = .ok (.aload_n 0, 1) := by decide +kernel
theorem dX7_add_17 : decode cX7_add 17 = .ok (.getfield 21, 3) := by decide +kernel
theorem dX7_add_20 : decode cX7_add 20 = .ok (.iload_n 1, 1) := by decide +kernel
theorem dX7_add_21 : decode cX7_add 21 = .ok (.iastore, 1) := by decide +kernel
theorem dX7_add_22 : decode cX7_add 22 = .ok (.aload_n 0, 1) := by decide +kernel
theorem dX7_add_23 : decode cX7_add 23 = .ok (.getfield 15, 3) := by decide +kernel
theorem dX7_add_26 : decode cX7_add 26 = .ok (.aload_n 0, 1) := by decide +kernel
theorem dX7_add_27 : decode cX7_add 27 = .ok (.getfield 21, 3) := by decide +kernel
theorem dX7_add_30 : decode cX7_add 30 = .ok (.iload_n 2, 1) := by decide +kernel
theorem dX7_add_31 : decode cX7_add 31 = .ok (.iastore, 1) := by decide +kernel
theorem dX7_add_32 : decode cX7_add 32 = .ok (.aload_n 0, 1) := by decide +kernel
theorem dX7_add_33 : decode cX7_add 33 = .ok (.getfield 18, 3) := by decide +kernel
theorem dX7_add_36 : decode cX7_add 36 = .ok (.aload_n 0, 1) := by decide +kernel
theorem dX7_add_37 : decode cX7_add 37 = .ok (.getfield 21, 3) := by decide +kernel
theorem dX7_add_40 : decode cX7_add 40 = .ok (.iload_n 3, 1) := by decide +kernel
theorem dX7_add_41 : decode cX7_add 41 = .ok (.iastore, 1) := by decide +kernel
theorem dX7_add_42 : decode cX7_add 42 = .ok (.aload_n 0, 1) := by decide +kernel
theorem dX7_add_43 : decode cX7_add 43 = .ok (.dup, 1) := by decide +kernel
theorem dX7_add_44 : decode cX7_add 44 = .ok (.getfield 21, 3) := by decide +kernel
theorem dX7_add_47 : decode cX7_add 47 = .ok (.iconst 1, 1) := by decide +kernel
theorem dX7_add_48 : decode cX7_add 48 = .ok (.iadd, 1) := by decide +kernel
theorem dX7_add_49 : decode cX7_add 49 = .ok (.putfield 21, 3) := by decide +kernel
theorem dX7_add_52 : decode cX7_add 52 = .ok (.aload_n 0, 1) := by decide +kernel
theorem dX7_add_53 : decode cX7_add 53 = .ok (.getfield 21, 3) := by decide +kernel
theorem dX7_add_56 : decode cX7_add 56 = .ok (.iconst 1, 1) := by decide +kernel
theorem dX7_add_57 : decode cX7_add 57 = .ok (.isub, 1) := by decide +kernel
theorem dX7_add_58 : decode cX7_add 58 = .ok (.ireturn, 1) := by decide +kernel
theorem dX7_usableOf_0 : decode cX7_usableOf 0 = .ok (.iconst 0, 1) := by decide +kernel
theorem dX7_usableOf_1 : decode cX7_usableOf 1 = .ok (.istore_n 2, 1) := by decide +kernel
theorem dX7_usableOf_2 : decode cX7_usableOf 2 = .ok (.iconst 0, 1) := by decide +kernel
theorem dX7_usableOf_3 : decode cX7_usableOf 3 = .ok (.istore_n 3, 1) := by decide +kernel
theorem dX7_usableOf_4 : decode cX7_usableOf 4 = .ok (.iload_n 3, 1) := by decide +kernel
theorem dX7_usableOf_5 : decode cX7_usableOf 5 = .ok (.aload_n 0, 1) := by decide +kernel
theorem dX7_usableOf_6 : decode cX7_usableOf 6 = .ok (.getfield 21, 3) := by decide +kernel
theorem dX7_usableOf_9 : decode cX7_usableOf 9 = .ok (.if_icmp .ge 27, 3) := by decide +kernel
theorem dX7_usableOf_12 : decode cX7_usableOf 12 = .ok (.aload_n 0, 1) := by decide +kernel
theorem dX7_usableOf_13 : decode cX7_usableOf 13 = .ok (.iload_n 3, 1) := by decide +kernel
theorem dX7_usableOf_14 : decode cX7_usableOf 14 = .ok (.iload_n 1, 1) := by decide +kernel
theorem dX7_usableOf_15 : decode cX7_usableOf 15 = .ok (.invokevirtual 28, 3) := by decide +kernel
theorem dX7_usableOf_18 : decode cX7_usableOf 18 = .ok (.ifCond .eq 12, 3) := by decide +kernel
theorem dX7_usableOf_21 : decode cX7_usableOf 21 = .ok (.iload_n 2, 1) := by decide +kernel
theorem dX7_usableOf_22 : decode cX7_usableOf 22 = .ok (.aload_n 0, 1) := by decide +kernel
theorem dX7_usableOf_23 : decode cX7_usableOf 23 = .ok (.getfield 15, 3) := by decide +kernel
theorem dX7_usableOf_26 : decode cX7_usableOf 26 = .ok (.iload_n 3, 1) := by decide +kernel
theorem dX7_usableOf_27 : decode cX7_usableOf 27 = .ok (.iaload, 1) := by decide +kernel
theorem dX7_usableOf_28 : decode cX7_usableOf 28 = .ok (.iadd, 1) := by decide +kernel
theorem dX7_usableOf_29 : decode cX7_usableOf 29 = .ok (.istore_n 2, 1) := by decide +kernel
theorem dX7_usableOf_30 : decode cX7_usableOf 30 = .ok (.iinc 3 1, 3) := by decide +kernel
theorem dX7_usableOf_33 : decode cX7_usableOf 33 = .ok (.goto (-29), 3) := by decide +kernel
theorem dX7_usableOf_36 : decode cX7_usableOf 36 = .ok (.iload_n 2, 1) := by decide +kernel
theorem dX7_usableOf_37 : decode cX7_usableOf 37 = .ok (.ireturn, 1) := by decide +kernel
theorem dX7_lacks_0 : decode cX7_lacks 0 = .ok (.iconst 0, 1) := by decide +kernel
theorem dX7_lacks_1 : decode cX7_lacks 1 = .ok (.istore_n 2, 1) := by decide +kernel
theorem dX7_lacks_2 : decode cX7_lacks 2 = .ok (.iload_n 2, 1) := by decide +kernel
theorem dX7_lacks_3 : decode cX7_lacks 3 = .ok (.bipush 8, 2) := by decide +kernel
theorem dX7_lacks_5 : decode cX7_lacks 5 = .ok (.if_icmp .ge 28, 3) := by decide +kernel
theorem dX7_lacks_8 : decode cX7_lacks 8 = .ok (.aload_n 1, 1) := by decide +kernel
theorem dX7_lacks_9 : decode cX7_lacks 9 = .ok (.iload_n 2, 1) := by decide +kernel
theorem dX7_lacks_10 : decode cX7_lacks 10 = .ok (.iaload, 1) := by decide +kernel
theorem dX7_lacks_11 : decode cX7_lacks 11 = .ok (.ifCond .le 16, 3) := by decide +kernel
theorem dX7_lacks_14 : decode cX7_lacks 14 = .ok (.aload_n 0, 1) := by decide +kernel
theorem dX7_lacks_15 : decode cX7_lacks 15 = .ok (.iload_n 2, 1) := by decide +kernel
theorem dX7_lacks_16 : decode cX7_lacks 16 = .ok (.invokevirtual 32, 3) := by decide +kernel
theorem dX7_lacks_19 : decode cX7_lacks 19 = .ok (.aload_n 1, 1) := by decide +kernel
theorem dX7_lacks_20 : decode cX7_lacks 20 = .ok (.iload_n 2, 1) := by decide +kernel
theorem dX7_lacks_21 : decode cX7_lacks 21 = .ok (.iaload, 1) := by decide +kernel
theorem dX7_lacks_22 : decode cX7_lacks 22 = .ok (.if_icmp .ge 5, 3) := by decide +kernel
theorem dX7_lacks_25 : decode cX7_lacks 25 = .ok (.iconst 1, 1) := by decide +kernel
theorem dX7_lacks_26 : decode cX7_lacks 26 = .ok (.ireturn, 1) := by decide +kernel
theorem dX7_lacks_27 : decode cX7_lacks 27 = .ok (.iinc 2 1, 3) := by decide +kernel
theorem dX7_lacks_30 : decode cX7_lacks 30 = .ok (.goto (-28), 3) := by decide +kernel
theorem dX7_lacks_33 : decode cX7_lacks 33 = .ok (.iconst 0, 1) := by decide +kernel
theorem dX7_lacks_34 : decode cX7_lacks 34 = .ok (.ireturn, 1) := by decide +kernel
theorem dX7_take_0 : decode cX7_take 0 = .ok (.iload_n 2, 1) := by decide +kernel
theorem dX7_take_1 : decode cX7_take 1 = .ok (.istore 4, 2) := by decide +kernel
theorem dX7_take_3 : decode cX7_take 3 = .ok (.iconst 0, 1) := by decide +kernel
theorem dX7_take_4 : decode cX7_take 4 = .ok (.istore 5, 2) := by decide +kernel
theorem dX7_take_6 : decode cX7_take 6 = .ok (.iload 5, 2) := by decide +kernel
theorem dX7_take_8 : decode cX7_take 8 = .ok (.aload_n 0, 1) := by decide +kernel
theorem dX7_take_9 : decode cX7_take 9 = .ok (.getfield 21, 3) := by decide +kernel
theorem dX7_take_12 : decode cX7_take 12 = .ok (.if_icmp .ge 70, 3) := by decide +kernel
theorem dX7_take_15 : decode cX7_take 15 = .ok (.iload 4, 2) := by decide +kernel
theorem dX7_take_17 : decode cX7_take 17 = .ok (.ifCond .le 65, 3) := by decide +kernel
theorem dX7_take_20 : decode cX7_take 20 = .ok (.aload_n 0, 1) := by decide +kernel
theorem dX7_take_21 : decode cX7_take 21 = .ok (.iload_n 1, 1) := by decide +kernel
theorem dX7_take_22 : decode cX7_take 22 = .ok (.invokevirtual 36, 3) := by decide +kernel
theorem dX7_take_25 : decode cX7_take 25 = .ok (.istore 6, 2) := by decide +kernel
theorem dX7_take_27 : decode cX7_take 27 = .ok (.iload 6, 2) := by decide +kernel
theorem dX7_take_29 : decode cX7_take 29 = .ok (.iconst (-1), 1) := by decide +kernel
theorem dX7_take_30 : decode cX7_take 30 = .ok (.if_icmp .ne 4, 3) := by decide +kernel
theorem dX7_take_33 : decode cX7_take 33 = .ok (.return_, 1) := by decide +kernel
theorem dX7_take_34 : decode cX7_take 34 = .ok (.aload_n 0, 1) := by decide +kernel
theorem dX7_take_35 : decode cX7_take 35 = .ok (.getfield 15, 3) := by decide +kernel
theorem dX7_take_38 : decode cX7_take 38 = .ok (.iload 6, 2) := by decide +kernel
theorem dX7_take_40 : decode cX7_take 40 = .ok (.iaload, 1) := by decide +kernel
theorem dX7_take_41 : decode cX7_take 41 = .ok (.iload 4, 2) := by decide +kernel
theorem dX7_take_43 : decode cX7_take 43 = .ok (.invokestatic 39, 3) := by decide +kernel
theorem dX7_take_46 : decode cX7_take 46 = .ok (.istore 7, 2) := by decide +kernel
theorem dX7_take_48 : decode cX7_take 48 = .ok (.aload_n 0, 1) := by decide +kernel
theorem dX7_take_49 : decode cX7_take 49 = .ok (.getfield 15, 3) := by decide +kernel
theorem dX7_take_52 : decode cX7_take 52 = .ok (.iload 6, 2) := by decide +kernel
theorem dX7_take_54 : decode cX7_take 54 = .ok (.dup2, 1) := by decide +kernel
theorem dX7_take_55 : decode cX7_take 55 = .ok (.iaload, 1) := by decide +kernel
theorem dX7_take_56 : decode cX7_take 56 = .ok (.iload 7, 2) := by decide +kernel
theorem dX7_take_58 : decode cX7_take 58 = .ok (.isub, 1) := by decide +kernel
theorem dX7_take_59 : decode cX7_take 59 = .ok (.iastore, 1) := by decide +kernel
theorem dX7_take_60 : decode cX7_take 60 = .ok (.iload 4, 2) := by decide +kernel
theorem dX7_take_62 : decode cX7_take 62 = .ok (.iload 7, 2) := by decide +kernel
theorem dX7_take_64 : decode cX7_take 64 = .ok (.isub, 1) := by decide +kernel
theorem dX7_take_65 : decode cX7_take 65 = .ok (.istore 4, 2) := by decide +kernel
theorem dX7_take_67 : decode cX7_take 67 = .ok (.aload_n 3, 1) := by decide +kernel
theorem dX7_take_68 : decode cX7_take 68 = .ok (.iload_n 1, 1) := by decide +kernel
theorem dX7_take_69 : decode cX7_take 69 = .ok (.iload 7, 2) := by decide +kernel
theorem dX7_take_71 : decode cX7_take 71 = .ok (.iload 6, 2) := by decide +kernel
theorem dX7_take_73 : decode cX7_take 73 = .ok (.invokevirtual 45, 3) := by decide +kernel
theorem dX7_take_76 : decode cX7_take 76 = .ok (.iinc 5 1, 3) := by decide +kernel
theorem dX7_take_79 : decode cX7_take 79 = .ok (.goto (-73), 3) := by decide +kernel
theorem dX7_take_82 : decode cX7_take 82 = .ok (.return_, 1) := by decide +kernel
theorem dX7_isUsable_0 : decode cX7_isUsable 0 = .ok (.aload_n 0, 1) := by decide +kernel
theorem dX7_isUsable_1 : decode cX7_isUsable 1 = .ok (.getfield 9, 3) := by decide +kernel
theorem dX7_isUsable_4 : decode cX7_isUsable 4 = .ok (.iload_n 1, 1) := by decide +kernel
theorem dX7_isUsable_5 : decode cX7_isUsable 5 = .ok (.iaload, 1) := by decide +kernel
theorem dX7_isUsable_6 : decode cX7_isUsable 6 = .ok (.iload_n 2, 1) := by decide +kernel
theorem dX7_isUsable_7 : decode cX7_isUsable 7 = .ok (.if_icmp .ne 29, 3) := by decide +kernel
theorem dX7_isUsable_10 : decode cX7_isUsable 10 = .ok (.aload_n 0, 1) := by decide +kernel
theorem dX7_isUsable_11 : decode cX7_isUsable 11 = .ok (.getfield 18, 3) := by decide +kernel
theorem dX7_isUsable_14 : decode cX7_isUsable 14 = .ok (.iload_n 1, 1) := by decide +kernel
theorem dX7_isUsable_15 : decode cX7_isUsable 15 = .ok (.iaload, 1) := by decide +kernel
theorem dX7_isUsable_16 : decode cX7_isUsable 16 = .ok (.aload_n 0, 1) := by decide +kernel
theorem dX7_isUsable_17 : decode cX7_isUsable 17 = .ok (.getfield 25, 3) := by decide +kernel
theorem dX7_isUsable_20 : decode cX7_isUsable 20 = .ok (.if_icmp .lt 16, 3) := by decide +kernel
theorem dX7_isUsable_23 : decode cX7_isUsable 23 = .ok (.aload_n 0, 1) := by decide +kernel
theorem dX7_isUsable_24 : decode cX7_isUsable 24 = .ok (.getfield 15, 3) := by decide +kernel
theorem dX7_isUsable_27 : decode cX7_isUsable 27 = .ok (.iload_n 1, 1) := by decide +kernel
theorem dX7_isUsable_28 : decode cX7_isUsable 28 = .ok (.iaload, 1) := by decide +kernel
theorem dX7_isUsable_29 : decode cX7_isUsable 29 = .ok (.ifCond .le 7, 3) := by decide +kernel
theorem dX7_isUsable_32 : decode cX7_isUsable 32 = .ok (.iconst 1, 1) := by decide +kernel
theorem dX7_isUsable_33 : decode cX7_isUsable 33 = .ok (.goto 4, 3) := by decide +kernel
theorem dX7_isUsable_36 : decode cX7_isUsable 36 = .ok (.iconst 0, 1) := by decide +kernel
theorem dX7_isUsable_37 : decode cX7_isUsable 37 = .ok (.ireturn, 1) := by decide +kernel
theorem dX7_nextToEnd_0 : decode cX7_nextToEnd 0 = .ok (.iconst (-1), 1) := by decide +kernel
theorem dX7_nextToEnd_1 : decode cX7_nextToEnd 1 = .ok (.istore_n 2, 1) := by decide +kernel
theorem dX7_nextToEnd_2 : decode cX7_nextToEnd 2 = .ok (.iconst 0, 1) := by decide +kernel
theorem dX7_nextToEnd_3 : decode cX7_nextToEnd 3 = .ok (.istore_n 3, 1) := by decide +kernel
theorem dX7_nextToEnd_4 : decode cX7_nextToEnd 4 = .ok (.iload_n 3, 1) := by decide +kernel
theorem dX7_nextToEnd_5 : decode cX7_nextToEnd 5 = .ok (.aload_n 0, 1) := by decide +kernel
theorem dX7_nextToEnd_6 : decode cX7_nextToEnd 6 = .ok (.getfield 21, 3) := by decide +kernel
theorem dX7_nextToEnd_9 : decode cX7_nextToEnd 9 = .ok (.if_icmp .ge 40, 3) := by decide +kernel
theorem dX7_nextToEnd_12 : decode cX7_nextToEnd 12 = .ok (.aload_n 0, 1) := by decide +kernel
theorem dX7_nextToEnd_13 : decode cX7_nextToEnd 13 = .ok (.iload_n 3, 1) := by decide +kernel
theorem dX7_nextToEnd_14 : decode cX7_nextToEnd 14 = .ok (.iload_n 1, 1) := by decide +kernel
theorem dX7_nextToEnd_15 : decode cX7_nextToEnd 15 = .ok (.invokevirtual 28, 3) := by decide +kernel
theorem dX7_nextToEnd_18 : decode cX7_nextToEnd 18 = .ok (.ifCond .eq 25, 3) := by decide +kernel
theorem dX7_nextToEnd_21 : decode cX7_nextToEnd 21 = .ok (.iload_n 2, 1) := by decide +kernel
theorem dX7_nextToEnd_22 : decode cX7_nextToEnd 22 = .ok (.iconst (-1), 1) := by decide +kernel
theorem dX7_nextToEnd_23 : decode cX7_nextToEnd 23 = .ok (.if_icmp .eq 18, 3) := by decide +kernel
theorem dX7_nextToEnd_26 : decode cX7_nextToEnd 26 = .ok (.aload_n 0, 1) := by decide +kernel
theorem dX7_nextToEnd_27 : decode cX7_nextToEnd 27 = .ok (.getfield 18, 3) := by decide +kernel
theorem dX7_nextToEnd_30 : decode cX7_nextToEnd 30 = .ok (.iload_n 3, 1) := by decide +kernel
theorem dX7_nextToEnd_31 : decode cX7_nextToEnd 31 = .ok (.iaload, 1) := by decide +kernel
theorem dX7_nextToEnd_32 : decode cX7_nextToEnd 32 = .ok (.aload_n 0, 1) := by decide +kernel
theorem dX7_nextToEnd_33 : decode cX7_nextToEnd 33 = .ok (.getfield 18, 3) := by decide +kernel
theorem dX7_nextToEnd_36 : decode cX7_nextToEnd 36 = .ok (.iload_n 2, 1) := by decide +kernel
theorem dX7_nextToEnd_37 : decode cX7_nextToEnd 37 = .ok (.iaload, 1) := by decide +kernel
theorem dX7_nextToEnd_38 : decode cX7_nextToEnd 38 = .ok (.if_icmp .ge 5, 3) := by decide +kernel
theorem dX7_nextToEnd_41 : decode cX7_nextToEnd 41 = .ok (.iload_n 3, 1) := by decide +kernel
theorem dX7_nextToEnd_42 : decode cX7_nextToEnd 42 = .ok (.istore_n 2, 1) := by decide +kernel
theorem dX7_nextToEnd_43 : decode cX7_nextToEnd 43 = .ok (.iinc 3 1, 3) := by decide +kernel
theorem dX7_nextToEnd_46 : decode cX7_nextToEnd 46 = .ok (.goto (-42), 3) := by decide +kernel
theorem dX7_nextToEnd_49 : decode cX7_nextToEnd 49 = .ok (.iload_n 2, 1) := by decide +kernel
theorem dX7_nextToEnd_50 : decode cX7_nextToEnd 50 = .ok (.ireturn, 1) := by decide +kernel
theorem dX8_init_0 : decode cX8_init 0 = .ok (.aload_n 0, 1) := by decide +kernel
theorem dX8_init_1 : decode cX8_init 1 = .ok (.invokespecial 3, 3) := by decide +kernel
theorem dX8_init_4 : decode cX8_init 4 = .ok (.aload_n 0, 1) := by decide +kernel
theorem dX8_init_5 : decode cX8_init 5 = .ok (.new 9, 3) := by decide +kernel
theorem dX8_init_8 : decode cX8_init 8 = .ok (.dup, 1) := by decide +kernel
theorem dX8_init_9 : decode cX8_init 9 = .ok (.invokespecial 11, 3) := by decide +kernel
theorem dX8_init_12 : decode cX8_init 12 = .ok (.putfield 12, 3) := by decide +kernel
theorem dX8_init_15 : decode cX8_init 15 = .ok (.aload_n 0, 1) := by decide +kernel
theorem dX8_init_16 : decode cX8_init 16 = .ok (.iconst 3, 1) := by decide +kernel
theorem dX8_init_17 : decode cX8_init 17 = .ok (.newarray .int, 2) := by decide +kernel
theorem dX8_init_19 : decode cX8_init 19 = .ok (.putfield 18, 3) := by decide +kernel
theorem dX8_init_22 : decode cX8_init 22 = .ok (.aload_n 0, 1) := by decide +kernel
theorem dX8_init_23 : decode cX8_init 23 = .ok (.iconst 0, 1) := by decide +kernel
theorem dX8_init_24 : decode cX8_init 24 = .ok (.putfield 22, 3) := by decide +kernel
theorem dX8_init_27 : decode cX8_init 27 = .ok (.aload_n 0, 1) := by decide +kernel
theorem dX8_init_28 : decode cX8_init 28 = .ok (.sipush 1000, 3) := by decide +kernel
theorem dX8_init_31 : decode cX8_init 31 = .ok (.putfield 26, 3) := by decide +kernel
theorem dX8_init_34 : decode cX8_init 34 = .ok (.aload_n 0, 1) := by decide +kernel
theorem dX8_init_35 : decode cX8_init 35 = .ok (.iconst 0, 1) := by decide +kernel
theorem dX8_init_36 : decode cX8_init 36 = .ok (.putfield 29, 3) := by decide +kernel
theorem dX8_init_39 : decode cX8_init 39 = .ok (.aload_n 0, 1) := by decide +kernel
theorem dX8_init_40 : decode cX8_init 40 = .ok (.iconst 0, 1) := by decide +kernel
theorem dX8_init_41 : decode cX8_init 41 = .ok (.putfield 32, 3) := by decide +kernel
theorem dX8_init_44 : decode cX8_init 44 = .ok (.aload_n 0, 1) := by decide +kernel
theorem dX8_init_45 : decode cX8_init 45 = .ok (.iconst 0, 1) := by decide +kernel
theorem dX8_init_46 : decode cX8_init 46 = .ok (.putfield 36, 3) := by decide +kernel
theorem dX8_init_49 : decode cX8_init 49 = .ok (.return_, 1) := by decide +kernel
theorem dX8_isClean_0 : decode cX8_isClean 0 = .ok (.aload_n 0, 1) := by decide +kernel
theorem dX8_isClean_1 : decode cX8_isClean 1 = .ok (.getfield 22, 3) := by decide +kernel
theorem dX8_isClean_4 : decode cX8_isClean 4 = .ok (.ifCond .ne 14, 3) := by decide +kernel
theorem dX8_isClean_7 : decode cX8_isClean 7 = .ok (.aload_n 0, 1) := by decide +kernel
theorem dX8_isClean_8 : decode cX8_isClean 8 = .ok (.getfield 36, 3) := by decide +kernel
theorem dX8_isClean_11 : decode cX8_isClean 11 = .ok (.ifCond .ne 7, 3) := by decide +kernel
theorem dX8_isClean_14 : decode cX8_isClean 14 = .ok (.iconst 1, 1) := by decide +kernel
theorem dX8_isClean_15 : decode cX8_isClean 15 = .ok (.goto 4, 3) := by decide +kernel
theorem dX8_isClean_18 : decode cX8_isClean 18 = .ok (.iconst 0, 1) := by decide +kernel
theorem dX8_isClean_19 : decode cX8_isClean 19 = .ok (.ireturn, 1) := by decide +kernel
theorem dX8_admits_0 : decode cX8_admits 0 = .ok (.aload_n 0, 1) := by decide +kernel
theorem dX8_admits_1 : decode cX8_admits 1 = .ok (.getfield 22, 3) := by decide +kernel
theorem dX8_admits_4 : decode cX8_admits 4 = .ok (.ifCond .le 26, 3) := by decide +kernel
theorem dX8_admits_7 : decode cX8_admits 7 = .ok (.aload_n 0, 1) := by decide +kernel
theorem dX8_admits_8 : decode cX8_admits 8 = .ok (.getfield 32, 3) := by decide +kernel
theorem dX8_admits_11 : decode cX8_admits 11 = .ok (.ifCond .ne 17, 3) := by decide +kernel
theorem dX8_admits_14 : decode cX8_admits 14 = .ok (.aload_n 0, 1) := by decide +kernel
theorem dX8_admits_15 : decode cX8_admits 15 = .ok (.aload_n 1, 1) := by decide +kernel
theorem dX8_admits_16 : decode cX8_admits 16 = .ok (.aload_n 2, 1) := by decide +kernel
theorem dX8_admits_17 : decode cX8_admits 17 = .ok (.iload_n 3, 1) := by decide +kernel
theorem dX8_admits_18 : decode cX8_admits 18 = .ok (.invokevirtual 39, 3) := by decide +kernel
theorem dX8_admits_21 : decode cX8_admits 21 = .ok (.ifCond .eq 7, 3) := by decide +kernel
theorem dX8_admits_24 : decode cX8_admits 24 = .ok (.iconst 1, 1) := by decide +kernel
theorem dX8_admits_25 : decode cX8_admits 25 = .ok (.goto 4, 3) := by decide +kernel
theorem dX8_admits_28 : decode cX8_admits 28 = .ok (.iconst 0, 1) := by decide +kernel
theorem dX8_admits_29 : decode cX8_admits 29 = .ok (.ireturn, 1) := by decide +kernel
theorem dX8_admits_30 : decode cX8_admits 30 = .ok (.aload_n 0, 1) := by decide +kernel
theorem dX8_admits_31 : decode cX8_admits 31 = .ok (.getfield 36, 3) := by decide +kernel
theorem dX8_admits_34 : decode cX8_admits 34 = .ok (.ifCond .eq 12, 3) := by decide +kernel
theorem dX8_admits_37 : decode cX8_admits 37 = .ok (.aload_n 0, 1) := by decide +kernel
theorem dX8_admits_38 : decode cX8_admits 38 = .ok (.aload_n 1, 1) := by decide +kernel
theorem dX8_admits_39 : decode cX8_admits 39 = .ok (.aload_n 2, 1) := by decide +kernel
theorem dX8_admits_40 : decode cX8_admits 40 = .ok (.invokevirtual 43, 3) := by decide +kernel
theorem dX8_admits_43 : decode cX8_admits 43 = .ok (.ifCond .eq 7, 3) := by decide +kernel
theorem dX8_admits_46 : decode cX8_admits 46 = .ok (.iconst 1, 1) := by decide +kernel
theorem dX8_admits_47 : decode cX8_admits 47 = .ok (.goto 4, 3) := by decide +kernel
theorem dX8_admits_50 : decode cX8_admits 50 = .ok (.iconst 0, 1) := by decide +kernel
theorem dX8_admits_51 : decode cX8_admits 51 = .ok (.ireturn, 1) := by decide +kernel
theorem dX8_receive_0 : decode cX8_receive 0 = .ok (.aload_n 0, 1) := by decide +kernel
theorem dX8_receive_1 : decode cX8_receive 1 = .ok (.getfield 22, 3) := by decide +kernel
theorem dX8_receive_4 : decode cX8_receive 4 = .ok (.ifCond .ne 25, 3) := by decide +kernel
theorem dX8_receive_7 : decode cX8_receive 7 = .ok (.aload_n 0, 1) := by decide +kernel
theorem dX8_receive_8 : decode cX8_receive 8 = .ok (.getfield 12, 3) := by decide +kernel
theorem dX8_receive_11 : decode cX8_receive 11 = .ok (.invokevirtual 47, 3) := by decide +kernel
theorem dX8_receive_14 : decode cX8_receive 14 = .ok (.aload_n 0, 1) := by decide +kernel
theorem dX8_receive_15 : decode cX8_receive 15 = .ok (.iconst 0, 1) := by decide +kernel
theorem dX8_receive_16 : decode cX8_receive 16 = .ok (.putfield 29, 3) := by decide +kernel
theorem dX8_receive_19 : decode cX8_receive 19 = .ok (.aload_n 0, 1) := by decide +kernel
theorem dX8_receive_20 : decode cX8_receive 20 = .ok (.iconst 0, 1) := by decide +kernel
theorem dX8_receive_21 : decode cX8_receive 21 = .ok (.putfield 32, 3) := by decide +kernel
theorem dX8_receive_24 : decode cX8_receive 24 = .ok (.aload_n 0, 1) := by decide +kernel
theorem dX8_receive_25 : decode cX8_receive 25 = .ok (.iconst 0, 1) := by decide +kernel
theorem dX8_receive_26 : decode cX8_receive 26 = .ok (.putfield 36, 3) := by decide +kernel
theorem dX8_receive_29 : decode cX8_receive 29 = .ok (.aload_n 0, 1) := by decide +kernel
theorem dX8_receive_30 : decode cX8_receive 30 = .ok (.getfield 12, 3) := by decide +kernel
theorem dX8_receive_33 : decode cX8_receive 33 = .ok (.aload_n 1, 1) := by decide +kernel
theorem dX8_receive_34 : decode cX8_receive 34 = .ok (.invokevirtual 50, 3) := by decide +kernel
theorem dX8_receive_37 : decode cX8_receive 37 = .ok (.aload_n 0, 1) := by decide +kernel
theorem dX8_receive_38 : decode cX8_receive 38 = .ok (.dup, 1) := by decide +kernel
theorem dX8_receive_39 : decode cX8_receive 39 = .ok (.getfield 22, 3) := by decide +kernel
theorem dX8_receive_42 : decode cX8_receive 42 = .ok (.aload_n 1, 1) := by decide +kernel
theorem dX8_receive_43 : decode cX8_receive 43 = .ok (.getfield 54, 3) := by decide +kernel
theorem dX8_receive_46 : decode cX8_receive 46 = .ok (.iadd, 1) := by decide +kernel
theorem dX8_receive_47 : decode cX8_receive 47 = .ok (.putfield 22, 3) := by decide +kernel
theorem dX8_receive_50 : decode cX8_receive 50 = .ok (.aload_n 0, 1) := by decide +kernel
theorem dX8_receive_51 : decode cX8_receive 51 = .ok (.dup, 1) := by decide +kernel
theorem dX8_receive_52 : decode cX8_receive 52 = .ok (.getfield 29, 3) := by decide +kernel
theorem dX8_receive_55 : decode cX8_receive 55 = .ok (.iconst 1, 1) := by decide +kernel
theorem dX8_receive_56 : decode cX8_receive 56 = .ok (.iload_n 2, 1) := by decide +kernel
theorem dX8_receive_57 : decode cX8_receive 57 = .ok (.ishl, 1) := by decide +kernel
theorem dX8_receive_58 : decode cX8_receive 58 = .ok (.ior, 1) := by decide +kernel
theorem dX8_receive_59 : decode cX8_receive 59 = .ok (.putfield 29, 3) := by decide +kernel
theorem dX8_receive_62 : decode cX8_receive 62 = .ok (.return_, 1) := by decide +kernel
theorem dX8_draw_0 : decode cX8_draw 0 = .ok (.aload_n 0, 1) := by decide +kernel
theorem dX8_draw_1 : decode cX8_draw 1 = .ok (.dup, 1) := by decide +kernel
theorem dX8_draw_2 : decode cX8_draw 2 = .ok (.getfield 22, 3) := by decide +kernel
theorem dX8_draw_5 : decode cX8_draw 5 = .ok (.iload_n 1, 1) := by decide +kernel
theorem dX8_draw_6 : decode cX8_draw 6 = .ok (.isub, 1) := by decide +kernel
theorem dX8_draw_7 : decode cX8_draw 7 = .ok (.putfield 22, 3) := by decide +kernel
theorem dX8_draw_10 : decode cX8_draw 10 = .ok (.aload_n 0, 1) := by decide +kernel
theorem dX8_draw_11 : decode cX8_draw 11 = .ok (.iconst 1, 1) := by decide +kernel
theorem dX8_draw_12 : decode cX8_draw 12 = .ok (.putfield 32, 3) := by decide +kernel
theorem dX8_draw_15 : decode cX8_draw 15 = .ok (.aload_n 0, 1) := by decide +kernel
theorem dX8_draw_16 : decode cX8_draw 16 = .ok (.getfield 22, 3) := by decide +kernel
theorem dX8_draw_19 : decode cX8_draw 19 = .ok (.ifCond .le 4, 3) := by decide +kernel
theorem dX8_draw_22 : decode cX8_draw 22 = .ok (.return_, 1) := by decide +kernel
theorem dX8_draw_23 : decode cX8_draw 23 = .ok (.aload_n 0, 1) := by decide +kernel
theorem dX8_draw_24 : decode cX8_draw 24 = .ok (.iconst 1, 1) := by decide +kernel
theorem dX8_draw_25 : decode cX8_draw 25 = .ok (.putfield 36, 3) := by decide +kernel
theorem dX8_draw_28 : decode cX8_draw 28 = .ok (.iconst 0, 1) := by decide +kernel
theorem dX8_draw_29 : decode cX8_draw 29 = .ok (.istore_n 3, 1) := by decide +kernel
theorem dX8_draw_30 : decode cX8_draw 30 = .ok (.iload_n 3, 1) := by decide +kernel
theorem dX8_draw_31 : decode cX8_draw 31 = .ok (.iconst 3, 1) := by decide +kernel
theorem dX8_draw_32 : decode cX8_draw 32 = .ok (.if_icmp .ge 24, 3) := by decide +kernel
theorem dX8_draw_35 : decode cX8_draw 35 = .ok (.aload_n 0, 1) := by decide +kernel
theorem dX8_draw_36 : decode cX8_draw 36 = .ok (.getfield 18, 3) := by decide +kernel
theorem dX8_draw_39 : decode cX8_draw 39 = .ok (.iload_n 3, 1) := by decide +kernel
theorem dX8_draw_40 : decode cX8_draw 40 = .ok (.aload_n 2, 1) := by decide +kernel
theorem dX8_draw_41 : decode cX8_draw 41 = .ok (.aload_n 0, 1) := by decide +kernel
theorem dX8_draw_42 : decode cX8_draw 42 = .ok (.getfield 12, 3) := by decide +kernel
theorem dX8_draw_45 : decode cX8_draw 45 = .ok (.iload_n 3, 1) := by decide +kernel
theorem dX8_draw_46 : decode cX8_draw 46 = .ok (.invokevirtual 57, 3) := by decide +kernel
theorem dX8_draw_49 : decode cX8_draw 49 = .ok (.iastore, 1) := by decide +kernel
theorem dX8_draw_50 : decode cX8_draw 50 = .ok (.iinc 3 1, 3) := by decide +kernel
theorem dX8_draw_53 : decode cX8_draw 53 = .ok (.goto (-23), 3) := by decide +kernel
theorem dX8_draw_56 : decode cX8_draw 56 = .ok (.return_, 1) := by decide +kernel
theorem dX8_isAlike_0 : decode cX8_isAlike 0 = .ok (.iconst 0, 1) := by decide +kernel
theorem dX8_isAlike_1 : decode cX8_isAlike 1 = .ok (.istore 4, 2) := by decide +kernel
theorem dX8_isAlike_3 : decode cX8_isAlike 3 = .ok (.iload 4, 2) := by decide +kernel
theorem dX8_isAlike_5 : decode cX8_isAlike 5 = .ok (.iconst 3, 1) := by decide +kernel
theorem dX8_isAlike_6 : decode cX8_isAlike 6 = .ok (.if_icmp .ge 36, 3) := by decide +kernel
theorem dX8_isAlike_9 : decode cX8_isAlike 9 = .ok (.aload_n 2, 1) := by decide +kernel
theorem dX8_isAlike_10 : decode cX8_isAlike 10 = .ok (.aload_n 0, 1) := by decide +kernel
theorem dX8_isAlike_11 : decode cX8_isAlike 11 = .ok (.getfield 12, 3) := by decide +kernel
theorem dX8_isAlike_14 : decode cX8_isAlike 14 = .ok (.iload 4, 2) := by decide +kernel
theorem dX8_isAlike_16 : decode cX8_isAlike 16 = .ok (.invokevirtual 57, 3) := by decide +kernel
theorem dX8_isAlike_19 : decode cX8_isAlike 19 = .ok (.aload_n 2, 1) := by decide +kernel
theorem dX8_isAlike_20 : decode cX8_isAlike 20 = .ok (.aload_n 1, 1) := by decide +kernel
theorem dX8_isAlike_21 : decode cX8_isAlike 21 = .ok (.iload 4, 2) := by decide +kernel
theorem dX8_isAlike_23 : decode cX8_isAlike 23 = .ok (.invokevirtual 57, 3) := by decide +kernel
theorem dX8_isAlike_26 : decode cX8_isAlike 26 = .ok (.isub, 1) := by decide +kernel
theorem dX8_isAlike_27 : decode cX8_isAlike 27 = .ok (.invokestatic 63, 3) := by decide +kernel
theorem dX8_isAlike_30 : decode cX8_isAlike 30 = .ok (.iload_n 3, 1) := by decide +kernel
theorem dX8_isAlike_31 : decode cX8_isAlike 31 = .ok (.if_icmp .le 5, 3) := by decide +kernel
theorem dX8_isAlike_34 : decode cX8_isAlike 34 = .ok (.iconst 0, 1) := by decide +kernel
theorem dX8_isAlike_35 : decode cX8_isAlike 35 = .ok (.ireturn, 1) := by decide +kernel
theorem dX8_isAlike_36 : decode cX8_isAlike 36 = .ok (.iinc 4 1, 3) := by decide +kernel
theorem dX8_isAlike_39 : decode cX8_isAlike 39 = .ok (.goto (-36), 3) := by decide +kernel
theorem dX8_isAlike_42 : decode cX8_isAlike 42 = .ok (.iconst 1, 1) := by decide +kernel
theorem dX8_isAlike_43 : decode cX8_isAlike 43 = .ok (.ireturn, 1) := by decide +kernel
theorem dX8_coversStain_0 : decode cX8_coversStain 0 = .ok (.iconst 0, 1) := by decide +kernel
theorem dX8_coversStain_1 : decode cX8_coversStain 1 = .ok (.istore_n 3, 1) := by decide +kernel
theorem dX8_coversStain_2 : decode cX8_coversStain 2 = .ok (.iload_n 3, 1) := by decide +kernel
theorem dX8_coversStain_3 : decode cX8_coversStain 3 = .ok (.iconst 3, 1) := by decide +kernel
theorem dX8_coversStain_4 : decode cX8_coversStain 4 = .ok (.if_icmp .ge 26, 3) := by decide +kernel
theorem dX8_coversStain_7 : decode cX8_coversStain 7 = .ok (.aload_n 2, 1) := by decide +kernel
theorem dX8_coversStain_8 : decode cX8_coversStain 8 = .ok (.aload_n 1, 1) := by decide +kernel
theorem dX8_coversStain_9 : decode cX8_coversStain 9 = .ok (.iload_n 3, 1) := by decide +kernel
theorem dX8_coversStain_10 : decode cX8_coversStain 10 = .ok (.invokevirtual 57, 3) := by decide +kernel
theorem dX8_coversStain_13 : decode cX8_coversStain 13 = .ok (.aload_n 0, 1) := by decide +kernel
theorem dX8_coversStain_14 : decode cX8_coversStain 14 = .ok (.getfield 18, 3) := by decide +kernel
theorem dX8_coversStain_17 : decode cX8_coversStain 17 = .ok (.iload_n 3, 1) := by decide +kernel
theorem dX8_coversStain_18 : decode cX8_coversStain 18 = .ok (.iaload, 1) := by decide +kernel
theorem dX8_coversStain_19 : decode cX8_coversStain 19 = .ok (.if_icmp .ge 5, 3) := by decide +kernel
theorem dX8_coversStain_22 : decode cX8_coversStain 22 = .ok (.iconst 0, 1) := by decide +kernel
theorem dX8_coversStain_23 : decode cX8_coversStain 23 = .ok (.ireturn, 1) := by decide +kernel
theorem dX8_coversStain_24 : decode cX8_coversStain 24 = .ok (.iinc 3 1, 3) := by decide +kernel
theorem dX8_coversStain_27 : decode cX8_coversStain 27 = .ok (.goto (-25), 3) := by decide +kernel
theorem dX8_coversStain_30 : decode cX8_coversStain 30 = .ok (.iconst 1, 1) := by decide +kernel
theorem dX8_coversStain_31 : decode cX8_coversStain 31 = .ok (.ireturn, 1) := by decide +kernel
theorem dJ6_bitCount_0f7a4_0 : decode cJ6_bitCount_0f7a4 0 = .ok (.iload_n 0, 1) := by decide +kernel
theorem dJ6_bitCount_0f7a4_1 : decode cJ6_bitCount_0f7a4 1 = .ok (.iload_n 0, 1) := by decide +kernel
theorem dJ6_bitCount_0f7a4_2 : decode cJ6_bitCount_0f7a4 2 = .ok (.iconst 1, 1) := by decide +kernel
theorem dJ6_bitCount_0f7a4_3 : decode cJ6_bitCount_0f7a4 3 = .ok (.iushr, 1) := by decide +kernel
theorem dJ6_bitCount_0f7a4_4 : decode cJ6_bitCount_0f7a4 4 = .ok (.ldc_w 265, 3) := by decide +kernel
theorem dJ6_bitCount_0f7a4_7 : decode cJ6_bitCount_0f7a4 7 = .ok (.iand, 1) := by decide +kernel
theorem dJ6_bitCount_0f7a4_8 : decode cJ6_bitCount_0f7a4 8 = .ok (.isub, 1) := by decide +kernel
theorem dJ6_bitCount_0f7a4_9 : decode cJ6_bitCount_0f7a4 9 = .ok (.istore_n 0, 1) := by decide +kernel
theorem dJ6_bitCount_0f7a4_10 : decode cJ6_bitCount_0f7a4 10 = .ok (.iload_n 0, 1) := by decide +kernel
theorem dJ6_bitCount_0f7a4_11 : decode cJ6_bitCount_0f7a4 11 = .ok (.ldc_w 266, 3) := by decide +kernel
theorem dJ6_bitCount_0f7a4_14 : decode cJ6_bitCount_0f7a4 14 = .ok (.iand, 1) := by decide +kernel
theorem dJ6_bitCount_0f7a4_15 : decode cJ6_bitCount_0f7a4 15 = .ok (.iload_n 0, 1) := by decide +kernel
theorem dJ6_bitCount_0f7a4_16 : decode cJ6_bitCount_0f7a4 16 = .ok (.iconst 2, 1) := by decide +kernel
theorem dJ6_bitCount_0f7a4_17 : decode cJ6_bitCount_0f7a4 17 = .ok (.iushr, 1) := by decide +kernel
theorem dJ6_bitCount_0f7a4_18 : decode cJ6_bitCount_0f7a4 18 = .ok (.ldc_w 266, 3) := by decide +kernel
theorem dJ6_bitCount_0f7a4_21 : decode cJ6_bitCount_0f7a4 21 = .ok (.iand, 1) := by decide +kernel
theorem dJ6_bitCount_0f7a4_22 : decode cJ6_bitCount_0f7a4 22 = .ok (.iadd, 1) := by decide +kernel
theorem dJ6_bitCount_0f7a4_23 : decode cJ6_bitCount_0f7a4 23 = .ok (.istore_n 0, 1) := by decide +kernel
theorem dJ6_bitCount_0f7a4_24 : decode cJ6_bitCount_0f7a4 24 = .ok (.iload_n 0, 1) := by decide +kernel
theorem dJ6_bitCount_0f7a4_25 : decode cJ6_bitCount_0f7a4 25 = .ok (.iload_n 0, 1) := by decide +kernel
theorem dJ6_bitCount_0f7a4_26 : decode cJ6_bitCount_0f7a4 26 = .ok (.iconst 4, 1) := by decide +kernel
theorem dJ6_bitCount_0f7a4_27 : decode cJ6_bitCount_0f7a4 27 = .ok (.iushr, 1) := by decide +kernel
theorem dJ6_bitCount_0f7a4_28 : decode cJ6_bitCount_0f7a4 28 = .ok (.iadd, 1) := by decide +kernel
theorem dJ6_bitCount_0f7a4_29 : decode cJ6_bitCount_0f7a4 29 = .ok (.ldc_w 267, 3) := by decide +kernel
theorem dJ6_bitCount_0f7a4_32 : decode cJ6_bitCount_0f7a4 32 = .ok (.iand, 1) := by decide +kernel
theorem dJ6_bitCount_0f7a4_33 : decode cJ6_bitCount_0f7a4 33 = .ok (.istore_n 0, 1) := by decide +kernel
theorem dJ6_bitCount_0f7a4_34 : decode cJ6_bitCount_0f7a4 34 = .ok (.iload_n 0, 1) := by decide +kernel
theorem dJ6_bitCount_0f7a4_35 : decode cJ6_bitCount_0f7a4 35 = .ok (.iload_n 0, 1) := by decide +kernel
theorem dJ6_bitCount_0f7a4_36 : decode cJ6_bitCount_0f7a4 36 = .ok (.bipush 8, 2) := by decide +kernel
theorem dJ6_bitCount_0f7a4_38 : decode cJ6_bitCount_0f7a4 38 = .ok (.iushr, 1) := by decide +kernel
theorem dJ6_bitCount_0f7a4_39 : decode cJ6_bitCount_0f7a4 39 = .ok (.iadd, 1) := by decide +kernel
theorem dJ6_bitCount_0f7a4_40 : decode cJ6_bitCount_0f7a4 40 = .ok (.istore_n 0, 1) := by decide +kernel
theorem dJ6_bitCount_0f7a4_41 : decode cJ6_bitCount_0f7a4 41 = .ok (.iload_n 0, 1) := by decide +kernel
theorem dJ6_bitCount_0f7a4_42 : decode cJ6_bitCount_0f7a4 42 = .ok (.iload_n 0, 1) := by decide +kernel
theorem dJ6_bitCount_0f7a4_43 : decode cJ6_bitCount_0f7a4 43 = .ok (.bipush 16, 2) := by decide +kernel
theorem dJ6_bitCount_0f7a4_45 : decode cJ6_bitCount_0f7a4 45 = .ok (.iushr, 1) := by decide +kernel
theorem dJ6_bitCount_0f7a4_46 : decode cJ6_bitCount_0f7a4 46 = .ok (.iadd, 1) := by decide +kernel
theorem dJ6_bitCount_0f7a4_47 : decode cJ6_bitCount_0f7a4 47 = .ok (.istore_n 0, 1) := by decide +kernel
theorem dJ6_bitCount_0f7a4_48 : decode cJ6_bitCount_0f7a4 48 = .ok (.iload_n 0, 1) := by decide +kernel
theorem dJ6_bitCount_0f7a4_49 : decode cJ6_bitCount_0f7a4 49 = .ok (.bipush 63, 2) := by decide +kernel
theorem dJ6_bitCount_0f7a4_51 : decode cJ6_bitCount_0f7a4 51 = .ok (.iand, 1) := by decide +kernel
theorem dJ6_bitCount_0f7a4_52 : decode cJ6_bitCount_0f7a4 52 = .ok (.ireturn, 1) := by decide +kernel
theorem dJ13_bitCount_95d88_0 : decode cJ13_bitCount_95d88 0 = .ok (.lload_n 0, 1) := by decide +kernel
theorem dJ13_bitCount_95d88_1 : decode cJ13_bitCount_95d88 1 = .ok (.lload_n 0, 1) := by decide +kernel
theorem dJ13_bitCount_95d88_2 : decode cJ13_bitCount_95d88 2 = .ok (.iconst 1, 1) := by decide +kernel
theorem dJ13_bitCount_95d88_3 : decode cJ13_bitCount_95d88 3 = .ok (.lushr, 1) := by decide +kernel
theorem dJ13_bitCount_95d88_4 : decode cJ13_bitCount_95d88 4 = .ok (.ldc2_w 314, 3) := by decide +kernel
theorem dJ13_bitCount_95d88_7 : decode cJ13_bitCount_95d88 7 = .ok (.land, 1) := by decide +kernel
theorem dJ13_bitCount_95d88_8 : decode cJ13_bitCount_95d88 8 = .ok (.lsub, 1) := by decide +kernel
theorem dJ13_bitCount_95d88_9 : decode cJ13_bitCount_95d88 9 = .ok (.lstore_n 0, 1) := by decide +kernel
theorem dJ13_bitCount_95d88_10 : decode cJ13_bitCount_95d88 10 = .ok (.lload_n 0, 1) := by decide +kernel
theorem dJ13_bitCount_95d88_11 : decode cJ13_bitCount_95d88 11 = .ok (.ldc2_w 316, 3) := by decide +kernel
theorem dJ13_bitCount_95d88_14 : decode cJ13_bitCount_95d88 14 = .ok (.land, 1) := by decide +kernel
theorem dJ13_bitCount_95d88_15 : decode cJ13_bitCount_95d88 15 = .ok (.lload_n 0, 1) := by decide +kernel
theorem dJ13_bitCount_95d88_16 : decode cJ13_bitCount_95d88 16 = .ok (.iconst 2, 1) := by decide +kernel
theorem dJ13_bitCount_95d88_17 : decode cJ13_bitCount_95d88 17 = .ok (.lushr, 1) := by decide +kernel
theorem dJ13_bitCount_95d88_18 : decode cJ13_bitCount_95d88 18 = .ok (.ldc2_w 316, 3) := by decide +kernel
theorem dJ13_bitCount_95d88_21 : decode cJ13_bitCount_95d88 21 = .ok (.land, 1) := by decide +kernel
theorem dJ13_bitCount_95d88_22 : decode cJ13_bitCount_95d88 22 = .ok (.ladd, 1) := by decide +kernel
theorem dJ13_bitCount_95d88_23 : decode cJ13_bitCount_95d88 23 = .ok (.lstore_n 0, 1) := by decide +kernel
theorem dJ13_bitCount_95d88_24 : decode cJ13_bitCount_95d88 24 = .ok (.lload_n 0, 1) := by decide +kernel
theorem dJ13_bitCount_95d88_25 : decode cJ13_bitCount_95d88 25 = .ok (.lload_n 0, 1) := by decide +kernel
theorem dJ13_bitCount_95d88_26 : decode cJ13_bitCount_95d88 26 = .ok (.iconst 4, 1) := by decide +kernel
theorem dJ13_bitCount_95d88_27 : decode cJ13_bitCount_95d88 27 = .ok (.lushr, 1) := by decide +kernel
theorem dJ13_bitCount_95d88_28 : decode cJ13_bitCount_95d88 28 = .ok (.ladd, 1) := by decide +kernel
theorem dJ13_bitCount_95d88_29 : decode cJ13_bitCount_95d88 29 = .ok (.ldc2_w 318, 3) := by decide +kernel
theorem dJ13_bitCount_95d88_32 : decode cJ13_bitCount_95d88 32 = .ok (.land, 1) := by decide +kernel
theorem dJ13_bitCount_95d88_33 : decode cJ13_bitCount_95d88 33 = .ok (.lstore_n 0, 1) := by decide +kernel
theorem dJ13_bitCount_95d88_34 : decode cJ13_bitCount_95d88 34 = .ok (.lload_n 0, 1) := by decide +kernel
theorem dJ13_bitCount_95d88_35 : decode cJ13_bitCount_95d88 35 = .ok (.lload_n 0, 1) := by decide +kernel
theorem dJ13_bitCount_95d88_36 : decode cJ13_bitCount_95d88 36 = .ok (.bipush 8, 2) := by decide +kernel
theorem dJ13_bitCount_95d88_38 : decode cJ13_bitCount_95d88 38 = .ok (.lushr, 1) := by decide +kernel
theorem dJ13_bitCount_95d88_39 : decode cJ13_bitCount_95d88 39 = .ok (.ladd, 1) := by decide +kernel
theorem dJ13_bitCount_95d88_40 : decode cJ13_bitCount_95d88 40 = .ok (.lstore_n 0, 1) := by decide +kernel
theorem dJ13_bitCount_95d88_41 : decode cJ13_bitCount_95d88 41 = .ok (.lload_n 0, 1) := by decide +kernel
theorem dJ13_bitCount_95d88_42 : decode cJ13_bitCount_95d88 42 = .ok (.lload_n 0, 1) := by decide +kernel
theorem dJ13_bitCount_95d88_43 : decode cJ13_bitCount_95d88 43 = .ok (.bipush 16, 2) := by decide +kernel
theorem dJ13_bitCount_95d88_45 : decode cJ13_bitCount_95d88 45 = .ok (.lushr, 1) := by decide +kernel
theorem dJ13_bitCount_95d88_46 : decode cJ13_bitCount_95d88 46 = .ok (.ladd, 1) := by decide +kernel
theorem dJ13_bitCount_95d88_47 : decode cJ13_bitCount_95d88 47 = .ok (.lstore_n 0, 1) := by decide +kernel
theorem dJ13_bitCount_95d88_48 : decode cJ13_bitCount_95d88 48 = .ok (.lload_n 0, 1) := by decide +kernel
theorem dJ13_bitCount_95d88_49 : decode cJ13_bitCount_95d88 49 = .ok (.lload_n 0, 1) := by decide +kernel
theorem dJ13_bitCount_95d88_50 : decode cJ13_bitCount_95d88 50 = .ok (.bipush 32, 2) := by decide +kernel
theorem dJ13_bitCount_95d88_52 : decode cJ13_bitCount_95d88 52 = .ok (.lushr, 1) := by decide +kernel
theorem dJ13_bitCount_95d88_53 : decode cJ13_bitCount_95d88 53 = .ok (.ladd, 1) := by decide +kernel
theorem dJ13_bitCount_95d88_54 : decode cJ13_bitCount_95d88 54 = .ok (.lstore_n 0, 1) := by decide +kernel
theorem dJ13_bitCount_95d88_55 : decode cJ13_bitCount_95d88 55 = .ok (.lload_n 0, 1) := by decide +kernel
theorem dJ13_bitCount_95d88_56 : decode cJ13_bitCount_95d88 56 = .ok (.l2i, 1) := by decide +kernel
theorem dJ13_bitCount_95d88_57 : decode cJ13_bitCount_95d88 57 = .ok (.bipush 127, 2) := by decide +kernel
theorem dJ13_bitCount_95d88_59 : decode cJ13_bitCount_95d88 59 = .ok (.iand, 1) := by decide +kernel
theorem dJ13_bitCount_95d88_60 : decode cJ13_bitCount_95d88 60 = .ok (.ireturn, 1) := by decide +kernel
theorem dJ9_abs_0f7a4_0 : decode cJ9_abs_0f7a4 0 = .ok (.iload_n 0, 1) := by decide +kernel
theorem dJ9_abs_0f7a4_1 : decode cJ9_abs_0f7a4 1 = .ok (.ifCond .ge 8, 3) := by decide +kernel
theorem dJ9_abs_0f7a4_4 : decode cJ9_abs_0f7a4 4 = .ok (.iload_n 0, 1) := by decide +kernel
theorem dJ9_abs_0f7a4_5 : decode cJ9_abs_0f7a4 5 = .ok (.ineg, 1) := by decide +kernel
theorem dJ9_abs_0f7a4_6 : decode cJ9_abs_0f7a4 6 = .ok (.goto 4, 3) := by decide +kernel
theorem dJ9_abs_0f7a4_9 : decode cJ9_abs_0f7a4 9 = .ok (.iload_n 0, 1) := by decide +kernel
theorem dJ9_abs_0f7a4_10 : decode cJ9_abs_0f7a4 10 = .ok (.ireturn, 1) := by decide +kernel
theorem dJ9_max_7cf53_0 : decode cJ9_max_7cf53 0 = .ok (.iload_n 0, 1) := by decide +kernel
theorem dJ9_max_7cf53_1 : decode cJ9_max_7cf53 1 = .ok (.iload_n 1, 1) := by decide +kernel
theorem dJ9_max_7cf53_2 : decode cJ9_max_7cf53 2 = .ok (.if_icmp .lt 7, 3) := by decide +kernel
theorem dJ9_max_7cf53_5 : decode cJ9_max_7cf53 5 = .ok (.iload_n 0, 1) := by decide +kernel
theorem dJ9_max_7cf53_6 : decode cJ9_max_7cf53 6 = .ok (.goto 4, 3) := by decide +kernel
theorem dJ9_max_7cf53_9 : decode cJ9_max_7cf53 9 = .ok (.iload_n 1, 1) := by decide +kernel
theorem dJ9_max_7cf53_10 : decode cJ9_max_7cf53 10 = .ok (.ireturn, 1) := by decide +kernel
theorem dJ9_min_7cf53_0 : decode cJ9_min_7cf53 0 = .ok (.iload_n 0, 1) := by decide +kernel
theorem dJ9_min_7cf53_1 : decode cJ9_min_7cf53 1 = .ok (.iload_n 1, 1) := by decide +kernel
theorem dJ9_min_7cf53_2 : decode cJ9_min_7cf53 2 = .ok (.if_icmp .gt 7, 3) := by decide +kernel
theorem dJ9_min_7cf53_5 : decode cJ9_min_7cf53 5 = .ok (.iload_n 0, 1) := by decide +kernel
theorem dJ9_min_7cf53_6 : decode cJ9_min_7cf53 6 = .ok (.goto 4, 3) := by decide +kernel
theorem dJ9_min_7cf53_9 : decode cJ9_min_7cf53 9 = .ok (.iload_n 1, 1) := by decide +kernel
theorem dJ9_min_7cf53_10 : decode cJ9_min_7cf53 10 = .ok (.ireturn, 1) := by decide +kernel
theorem dJ9_min_f86c9_0 : decode cJ9_min_f86c9 0 = .ok (.lload_n 0, 1) := by decide +kernel
theorem dJ9_min_f86c9_1 : decode cJ9_min_f86c9 1 = .ok (.lload_n 2, 1) := by decide +kernel
theorem dJ9_min_f86c9_2 : decode cJ9_min_f86c9 2 = .ok (.lcmp, 1) := by decide +kernel
theorem dJ9_min_f86c9_3 : decode cJ9_min_f86c9 3 = .ok (.ifCond .gt 7, 3) := by decide +kernel
theorem dJ9_min_f86c9_6 : decode cJ9_min_f86c9 6 = .ok (.lload_n 0, 1) := by decide +kernel
theorem dJ9_min_f86c9_7 : decode cJ9_min_f86c9 7 = .ok (.goto 4, 3) := by decide +kernel
theorem dJ9_min_f86c9_10 : decode cJ9_min_f86c9 10 = .ok (.lload_n 2, 1) := by decide +kernel
theorem dJ9_min_f86c9_11 : decode cJ9_min_f86c9 11 = .ok (.lreturn, 1) := by decide +kernel
theorem dJ7_fill_53178_0 : decode cJ7_fill_53178 0 = .ok (.iconst 0, 1) := by decide +kernel
theorem dJ7_fill_53178_1 : decode cJ7_fill_53178 1 = .ok (.istore_n 2, 1) := by decide +kernel
theorem dJ7_fill_53178_2 : decode cJ7_fill_53178 2 = .ok (.aload_n 0, 1) := by decide +kernel
theorem dJ7_fill_53178_3 : decode cJ7_fill_53178 3 = .ok (.arraylength, 1) := by decide +kernel
theorem dJ7_fill_53178_4 : decode cJ7_fill_53178 4 = .ok (.istore_n 3, 1) := by decide +kernel
theorem dJ7_fill_53178_5 : decode cJ7_fill_53178 5 = .ok (.iload_n 2, 1) := by decide +kernel
theorem dJ7_fill_53178_6 : decode cJ7_fill_53178 6 = .ok (.iload_n 3, 1) := by decide +kernel
theorem dJ7_fill_53178_7 : decode cJ7_fill_53178 7 = .ok (.if_icmp .ge 13, 3) := by decide +kernel
theorem dJ7_fill_53178_10 : decode cJ7_fill_53178 10 = .ok (.aload_n 0, 1) := by decide +kernel
theorem dJ7_fill_53178_11 : decode cJ7_fill_53178 11 = .ok (.iload_n 2, 1) := by decide +kernel
theorem dJ7_fill_53178_12 : decode cJ7_fill_53178 12 = .ok (.iload_n 1, 1) := by decide +kernel
theorem dJ7_fill_53178_13 : decode cJ7_fill_53178 13 = .ok (.iastore, 1) := by decide +kernel
theorem dJ7_fill_53178_14 : decode cJ7_fill_53178 14 = .ok (.iinc 2 1, 3) := by decide +kernel
theorem dJ7_fill_53178_17 : decode cJ7_fill_53178 17 = .ok (.goto (-12), 3) := by decide +kernel
theorem dJ7_fill_53178_20 : decode cJ7_fill_53178 20 = .ok (.return_, 1) := by decide +kernel
