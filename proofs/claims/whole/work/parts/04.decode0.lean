theorem dX0_init_0 : decode cX0_init 0 = .ok (.aload_n 0, 1) := by decide +kernel
theorem dX0_init_1 : decode cX0_init 1 = .ok (.invokespecial 3, 3) := by decide +kernel
theorem dX0_init_4 : decode cX0_init 4 = .ok (.aload_n 0, 1) := by decide +kernel
theorem dX0_init_5 : decode cX0_init 5 = .ok (.iconst 3, 1) := by decide +kernel
theorem dX0_init_6 : decode cX0_init 6 = .ok (.newarray .int, 2) := by decide +kernel
theorem dX0_init_8 : decode cX0_init 8 = .ok (.putfield 9, 3) := by decide +kernel
theorem dX0_init_11 : decode cX0_init 11 = .ok (.aload_n 0, 1) := by decide +kernel
theorem dX0_init_12 : decode cX0_init 12 = .ok (.new 15, 3) := by decide +kernel
theorem dX0_init_15 : decode cX0_init 15 = .ok (.dup, 1) := by decide +kernel
theorem dX0_init_16 : decode cX0_init 16 = .ok (.invokespecial 17, 3) := by decide +kernel
theorem dX0_init_19 : decode cX0_init 19 = .ok (.putfield 18, 3) := by decide +kernel
theorem dX0_init_22 : decode cX0_init 22 = .ok (.aload_n 0, 1) := by decide +kernel
theorem dX0_init_23 : decode cX0_init 23 = .ok (.iconst 1, 1) := by decide +kernel
theorem dX0_init_24 : decode cX0_init 24 = .ok (.putfield 22, 3) := by decide +kernel
theorem dX0_init_27 : decode cX0_init 27 = .ok (.return_, 1) := by decide +kernel
theorem dX0_start_0 : decode cX0_start 0 = .ok (.aload_n 0, 1) := by decide +kernel
theorem dX0_start_1 : decode cX0_start 1 = .ok (.aload_n 1, 1) := by decide +kernel
theorem dX0_start_2 : decode cX0_start 2 = .ok (.putfield 18, 3) := by decide +kernel
theorem dX0_start_5 : decode cX0_start 5 = .ok (.aload_n 0, 1) := by decide +kernel
theorem dX0_start_6 : decode cX0_start 6 = .ok (.aload_n 1, 1) := by decide +kernel
theorem dX0_start_7 : decode cX0_start 7 = .ok (.getfield 26, 3) := by decide +kernel
theorem dX0_start_10 : decode cX0_start 10 = .ok (.putfield 29, 3) := by decide +kernel
theorem dX0_start_13 : decode cX0_start 13 = .ok (.aload_n 0, 1) := by decide +kernel
theorem dX0_start_14 : decode cX0_start 14 = .ok (.iload_n 2, 1) := by decide +kernel
theorem dX0_start_15 : decode cX0_start 15 = .ok (.putfield 22, 3) := by decide +kernel
theorem dX0_start_18 : decode cX0_start 18 = .ok (.aload_n 0, 1) := by decide +kernel
theorem dX0_start_19 : decode cX0_start 19 = .ok (.iconst 0, 1) := by decide +kernel
theorem dX0_start_20 : decode cX0_start 20 = .ok (.putfield 30, 3) := by decide +kernel
theorem dX0_start_23 : decode cX0_start 23 = .ok (.aload_n 0, 1) := by decide +kernel
theorem dX0_start_24 : decode cX0_start 24 = .ok (.getfield 9, 3) := by decide +kernel
theorem dX0_start_27 : decode cX0_start 27 = .ok (.iconst 0, 1) := by decide +kernel
theorem dX0_start_28 : decode cX0_start 28 = .ok (.invokestatic 33, 3) := by decide +kernel
theorem dX0_start_31 : decode cX0_start 31 = .ok (.return_, 1) := by decide +kernel
theorem dX0_startQuiet_0 : decode cX0_startQuiet 0 = .ok (.aload_n 0, 1) := by decide +kernel
theorem dX0_startQuiet_1 : decode cX0_startQuiet 1 = .ok (.aload_n 1, 1) := by decide +kernel
theorem dX0_startQuiet_2 : decode cX0_startQuiet 2 = .ok (.iconst 1, 1) := by decide +kernel
theorem dX0_startQuiet_3 : decode cX0_startQuiet 3 = .ok (.invokevirtual 39, 3) := by decide +kernel
theorem dX0_startQuiet_6 : decode cX0_startQuiet 6 = .ok (.aload_n 0, 1) := by decide +kernel
theorem dX0_startQuiet_7 : decode cX0_startQuiet 7 = .ok (.iconst 0, 1) := by decide +kernel
theorem dX0_startQuiet_8 : decode cX0_startQuiet 8 = .ok (.putfield 29, 3) := by decide +kernel
theorem dX0_startQuiet_11 : decode cX0_startQuiet 11 = .ok (.return_, 1) := by decide +kernel
theorem dX0_clock_0 : decode cX0_clock 0 = .ok (.aload_n 0, 1) := by decide +kernel
theorem dX0_clock_1 : decode cX0_clock 1 = .ok (.getfield 18, 3) := by decide +kernel
theorem dX0_clock_4 : decode cX0_clock 4 = .ok (.aload_n 0, 1) := by decide +kernel
theorem dX0_clock_5 : decode cX0_clock 5 = .ok (.invokevirtual 43, 3) := by decide +kernel
theorem dX0_clock_8 : decode cX0_clock 8 = .ok (.aload_n 0, 1) := by decide +kernel
theorem dX0_clock_9 : decode cX0_clock 9 = .ok (.invokevirtual 47, 3) := by decide +kernel
theorem dX0_clock_12 : decode cX0_clock 12 = .ok (.iadd, 1) := by decide +kernel
theorem dX0_clock_13 : decode cX0_clock 13 = .ok (.invokevirtual 50, 3) := by decide +kernel
theorem dX0_clock_16 : decode cX0_clock 16 = .ok (.istore_n 2, 1) := by decide +kernel
theorem dX0_clock_17 : decode cX0_clock 17 = .ok (.iload_n 1, 1) := by decide +kernel
theorem dX0_clock_18 : decode cX0_clock 18 = .ok (.istore_n 3, 1) := by decide +kernel
theorem dX0_clock_19 : decode cX0_clock 19 = .ok (.iconst 0, 1) := by decide +kernel
theorem dX0_clock_20 : decode cX0_clock 20 = .ok (.istore 4, 2) := by decide +kernel
theorem dX0_clock_22 : decode cX0_clock 22 = .ok (.iload 4, 2) := by decide +kernel
theorem dX0_clock_24 : decode cX0_clock 24 = .ok (.aload_n 0, 1) := by decide +kernel
theorem dX0_clock_25 : decode cX0_clock 25 = .ok (.getfield 18, 3) := by decide +kernel
theorem dX0_clock_28 : decode cX0_clock 28 = .ok (.getfield 54, 3) := by decide +kernel
theorem dX0_clock_31 : decode cX0_clock 31 = .ok (.if_icmp .ge 56, 3) := by decide +kernel
theorem dX0_clock_34 : decode cX0_clock 34 = .ok (.aload_n 0, 1) := by decide +kernel
theorem dX0_clock_35 : decode cX0_clock 35 = .ok (.getfield 9, 3) := by decide +kernel
theorem dX0_clock_38 : decode cX0_clock 38 = .ok (.iload 4, 2) := by decide +kernel
theorem dX0_clock_40 : decode cX0_clock 40 = .ok (.aload_n 0, 1) := by decide +kernel
theorem dX0_clock_41 : decode cX0_clock 41 = .ok (.aload_n 0, 1) := by decide +kernel
theorem dX0_clock_42 : decode cX0_clock 42 = .ok (.getfield 9, 3) := by decide +kernel
theorem dX0_clock_45 : decode cX0_clock 45 = .ok (.iload 4, 2) := by decide +kernel
theorem dX0_clock_47 : decode cX0_clock 47 = .ok (.iaload, 1) := by decide +kernel
theorem dX0_clock_48 : decode cX0_clock 48 = .ok (.aload_n 0, 1) := by decide +kernel
theorem dX0_clock_49 : decode cX0_clock 49 = .ok (.getfield 18, 3) := by decide +kernel
theorem dX0_clock_52 : decode cX0_clock 52 = .ok (.getfield 57, 3) := by decide +kernel
theorem dX0_clock_55 : decode cX0_clock 55 = .ok (.iload 4, 2) := by decide +kernel
theorem dX0_clock_57 : decode cX0_clock 57 = .ok (.iaload, 1) := by decide +kernel
theorem dX0_clock_58 : decode cX0_clock 58 = .ok (.iload_n 3, 1) := by decide +kernel
theorem dX0_clock_59 : decode cX0_clock 59 = .ok (.sipush 1000, 3) := by decide +kernel
theorem dX0_clock_62 : decode cX0_clock 62 = .ok (.iload_n 2, 1) := by decide +kernel
theorem dX0_clock_63 : decode cX0_clock 63 = .ok (.imul, 1) := by decide +kernel
theorem dX0_clock_64 : decode cX0_clock 64 = .ok (.isub, 1) := by decide +kernel
theorem dX0_clock_65 : decode cX0_clock 65 = .ok (.imul, 1) := by decide +kernel
theorem dX0_clock_66 : decode cX0_clock 66 = .ok (.iconst 4, 1) := by decide +kernel
theorem dX0_clock_67 : decode cX0_clock 67 = .ok (.ishr, 1) := by decide +kernel
theorem dX0_clock_68 : decode cX0_clock 68 = .ok (.iadd, 1) := by decide +kernel
theorem dX0_clock_69 : decode cX0_clock 69 = .ok (.invokevirtual 60, 3) := by decide +kernel
theorem dX0_clock_72 : decode cX0_clock 72 = .ok (.iastore, 1) := by decide +kernel
theorem dX0_clock_73 : decode cX0_clock 73 = .ok (.aload_n 0, 1) := by decide +kernel
theorem dX0_clock_74 : decode cX0_clock 74 = .ok (.getfield 9, 3) := by decide +kernel
theorem dX0_clock_77 : decode cX0_clock 77 = .ok (.iload 4, 2) := by decide +kernel
theorem dX0_clock_79 : decode cX0_clock 79 = .ok (.iaload, 1) := by decide +kernel
theorem dX0_clock_80 : decode cX0_clock 80 = .ok (.istore_n 3, 1) := by decide +kernel
theorem dX0_clock_81 : decode cX0_clock 81 = .ok (.iinc 4 1, 3) := by decide +kernel
theorem dX0_clock_84 : decode cX0_clock 84 = .ok (.goto (-62), 3) := by decide +kernel
theorem dX0_clock_87 : decode cX0_clock 87 = .ok (.iload_n 2, 1) := by decide +kernel
theorem dX0_clock_88 : decode cX0_clock 88 = .ok (.ireturn, 1) := by decide +kernel
theorem dX0_clockOften_0 : decode cX0_clockOften 0 = .ok (.iconst 0, 1) := by decide +kernel
theorem dX0_clockOften_1 : decode cX0_clockOften 1 = .ok (.istore_n 3, 1) := by decide +kernel
theorem dX0_clockOften_2 : decode cX0_clockOften 2 = .ok (.iload_n 3, 1) := by decide +kernel
theorem dX0_clockOften_3 : decode cX0_clockOften 3 = .ok (.iload_n 2, 1) := by decide +kernel
theorem dX0_clockOften_4 : decode cX0_clockOften 4 = .ok (.if_icmp .ge 15, 3) := by decide +kernel
theorem dX0_clockOften_7 : decode cX0_clockOften 7 = .ok (.aload_n 0, 1) := by decide +kernel
theorem dX0_clockOften_8 : decode cX0_clockOften 8 = .ok (.iload_n 1, 1) := by decide +kernel
theorem dX0_clockOften_9 : decode cX0_clockOften 9 = .ok (.invokevirtual 63, 3) := by decide +kernel
theorem dX0_clockOften_12 : decode cX0_clockOften 12 = .ok (.pop, 1) := by decide +kernel
theorem dX0_clockOften_13 : decode cX0_clockOften 13 = .ok (.iinc 3 1, 3) := by decide +kernel
theorem dX0_clockOften_16 : decode cX0_clockOften 16 = .ok (.goto (-14), 3) := by decide +kernel
theorem dX0_clockOften_19 : decode cX0_clockOften 19 = .ok (.return_, 1) := by decide +kernel
theorem dX0_lastSum_0 : decode cX0_lastSum 0 = .ok (.aload_n 0, 1) := by decide +kernel
theorem dX0_lastSum_1 : decode cX0_lastSum 1 = .ok (.getfield 18, 3) := by decide +kernel
theorem dX0_lastSum_4 : decode cX0_lastSum 4 = .ok (.getfield 54, 3) := by decide +kernel
theorem dX0_lastSum_7 : decode cX0_lastSum 7 = .ok (.ifCond .le 20, 3) := by decide +kernel
theorem dX0_lastSum_10 : decode cX0_lastSum 10 = .ok (.aload_n 0, 1) := by decide +kernel
theorem dX0_lastSum_11 : decode cX0_lastSum 11 = .ok (.getfield 9, 3) := by decide +kernel
theorem dX0_lastSum_14 : decode cX0_lastSum 14 = .ok (.aload_n 0, 1) := by decide +kernel
theorem dX0_lastSum_15 : decode cX0_lastSum 15 = .ok (.getfield 18, 3) := by decide +kernel
theorem dX0_lastSum_18 : decode cX0_lastSum 18 = .ok (.getfield 54, 3) := by decide +kernel
theorem dX0_lastSum_21 : decode cX0_lastSum 21 = .ok (.iconst 1, 1) := by decide +kernel
theorem dX0_lastSum_22 : decode cX0_lastSum 22 = .ok (.isub, 1) := by decide +kernel
theorem dX0_lastSum_23 : decode cX0_lastSum 23 = .ok (.iaload, 1) := by decide +kernel
theorem dX0_lastSum_24 : decode cX0_lastSum 24 = .ok (.goto 4, 3) := by decide +kernel
theorem dX0_lastSum_27 : decode cX0_lastSum 27 = .ok (.iconst 0, 1) := by decide +kernel
theorem dX0_lastSum_28 : decode cX0_lastSum 28 = .ok (.ireturn, 1) := by decide +kernel
theorem dX0_stirred_0 : decode cX0_stirred 0 = .ok (.aload_n 0, 1) := by decide +kernel
theorem dX0_stirred_1 : decode cX0_stirred 1 = .ok (.getfield 29, 3) := by decide +kernel
theorem dX0_stirred_4 : decode cX0_stirred 4 = .ok (.ifCond .ne 5, 3) := by decide +kernel
theorem dX0_stirred_7 : decode cX0_stirred 7 = .ok (.iconst 0, 1) := by decide +kernel
theorem dX0_stirred_8 : decode cX0_stirred 8 = .ok (.ireturn, 1) := by decide +kernel
theorem dX0_stirred_9 : decode cX0_stirred 9 = .ok (.aload_n 0, 1) := by decide +kernel
theorem dX0_stirred_10 : decode cX0_stirred 10 = .ok (.getfield 22, 3) := by decide +kernel
theorem dX0_stirred_13 : decode cX0_stirred 13 = .ok (.aload_n 0, 1) := by decide +kernel
theorem dX0_stirred_14 : decode cX0_stirred 14 = .ok (.getfield 22, 3) := by decide +kernel
theorem dX0_stirred_17 : decode cX0_stirred 17 = .ok (.iconst 2, 1) := by decide +kernel
theorem dX0_stirred_18 : decode cX0_stirred 18 = .ok (.ishr, 1) := by decide +kernel
theorem dX0_stirred_19 : decode cX0_stirred 19 = .ok (.ixor, 1) := by decide +kernel
theorem dX0_stirred_20 : decode cX0_stirred 20 = .ok (.aload_n 0, 1) := by decide +kernel
theorem dX0_stirred_21 : decode cX0_stirred 21 = .ok (.getfield 22, 3) := by decide +kernel
theorem dX0_stirred_24 : decode cX0_stirred 24 = .ok (.iconst 3, 1) := by decide +kernel
theorem dX0_stirred_25 : decode cX0_stirred 25 = .ok (.ishr, 1) := by decide +kernel
theorem dX0_stirred_26 : decode cX0_stirred 26 = .ok (.ixor, 1) := by decide +kernel
theorem dX0_stirred_27 : decode cX0_stirred 27 = .ok (.aload_n 0, 1) := by decide +kernel
theorem dX0_stirred_28 : decode cX0_stirred 28 = .ok (.getfield 22, 3) := by decide +kernel
theorem dX0_stirred_31 : decode cX0_stirred 31 = .ok (.iconst 5, 1) := by decide +kernel
theorem dX0_stirred_32 : decode cX0_stirred 32 = .ok (.ishr, 1) := by decide +kernel
theorem dX0_stirred_33 : decode cX0_stirred 33 = .ok (.ixor, 1) := by decide +kernel
theorem dX0_stirred_34 : decode cX0_stirred 34 = .ok (.iconst 1, 1) := by decide +kernel
theorem dX0_stirred_35 : decode cX0_stirred 35 = .ok (.iand, 1) := by decide +kernel
theorem dX0_stirred_36 : decode cX0_stirred 36 = .ok (.istore_n 1, 1) := by decide +kernel
theorem dX0_stirred_37 : decode cX0_stirred 37 = .ok (.aload_n 0, 1) := by decide +kernel
theorem dX0_stirred_38 : decode cX0_stirred 38 = .ok (.aload_n 0, 1) := by decide +kernel
theorem dX0_stirred_39 : decode cX0_stirred 39 = .ok (.getfield 22, 3) := by decide +kernel
theorem dX0_stirred_42 : decode cX0_stirred 42 = .ok (.iconst 2, 1) := by decide +kernel
theorem dX0_stirred_43 : decode cX0_stirred 43 = .ok (.idiv, 1) := by decide +kernel
theorem dX0_stirred_44 : decode cX0_stirred 44 = .ok (.ldc 66, 2) := by decide +kernel
theorem dX0_stirred_46 : decode cX0_stirred 46 = .ok (.iload_n 1, 1) := by decide +kernel
theorem dX0_stirred_47 : decode cX0_stirred 47 = .ok (.imul, 1) := by decide +kernel
theorem dX0_stirred_48 : decode cX0_stirred 48 = .ok (.iadd, 1) := by decide +kernel
theorem dX0_stirred_49 : decode cX0_stirred 49 = .ok (.putfield 22, 3) := by decide +kernel
theorem dX0_stirred_52 : decode cX0_stirred 52 = .ok (.aload_n 0, 1) := by decide +kernel
theorem dX0_stirred_53 : decode cX0_stirred 53 = .ok (.getfield 22, 3) := by decide +kernel
theorem dX0_stirred_56 : decode cX0_stirred 56 = .ok (.iconst 1, 1) := by decide +kernel
theorem dX0_stirred_57 : decode cX0_stirred 57 = .ok (.iand, 1) := by decide +kernel
theorem dX0_stirred_58 : decode cX0_stirred 58 = .ok (.iconst 1, 1) := by decide +kernel
theorem dX0_stirred_59 : decode cX0_stirred 59 = .ok (.if_icmp .ne 10, 3) := by decide +kernel
theorem dX0_stirred_62 : decode cX0_stirred 62 = .ok (.aload_n 0, 1) := by decide +kernel
theorem dX0_stirred_63 : decode cX0_stirred 63 = .ok (.getfield 29, 3) := by decide +kernel
theorem dX0_stirred_66 : decode cX0_stirred 66 = .ok (.goto 8, 3) := by decide +kernel
theorem dX0_stirred_69 : decode cX0_stirred 69 = .ok (.aload_n 0, 1) := by decide +kernel
theorem dX0_stirred_70 : decode cX0_stirred 70 = .ok (.getfield 29, 3) := by decide +kernel
theorem dX0_stirred_73 : decode cX0_stirred 73 = .ok (.ineg, 1) := by decide +kernel
theorem dX0_stirred_74 : decode cX0_stirred 74 = .ok (.ireturn, 1) := by decide +kernel
theorem dX0_held_0 : decode cX0_held 0 = .ok (.aload_n 0, 1) := by decide +kernel
theorem dX0_held_1 : decode cX0_held 1 = .ok (.getfield 18, 3) := by decide +kernel
theorem dX0_held_4 : decode cX0_held 4 = .ok (.getfield 67, 3) := by decide +kernel
theorem dX0_held_7 : decode cX0_held 7 = .ok (.ineg, 1) := by decide +kernel
theorem dX0_held_8 : decode cX0_held 8 = .ok (.aload_n 0, 1) := by decide +kernel
theorem dX0_held_9 : decode cX0_held 9 = .ok (.getfield 18, 3) := by decide +kernel
theorem dX0_held_12 : decode cX0_held 12 = .ok (.getfield 67, 3) := by decide +kernel
theorem dX0_held_15 : decode cX0_held 15 = .ok (.iload_n 1, 1) := by decide +kernel
theorem dX0_held_16 : decode cX0_held 16 = .ok (.invokestatic 70, 3) := by decide +kernel
theorem dX0_held_19 : decode cX0_held 19 = .ok (.invokestatic 76, 3) := by decide +kernel
theorem dX0_held_22 : decode cX0_held 22 = .ok (.istore_n 2, 1) := by decide +kernel
theorem dX0_held_23 : decode cX0_held 23 = .ok (.iload_n 2, 1) := by decide +kernel
theorem dX0_held_24 : decode cX0_held 24 = .ok (.iload_n 1, 1) := by decide +kernel
theorem dX0_held_25 : decode cX0_held 25 = .ok (.if_icmp .eq 13, 3) := by decide +kernel
theorem dX0_held_28 : decode cX0_held 28 = .ok (.aload_n 0, 1) := by decide +kernel
theorem dX0_held_29 : decode cX0_held 29 = .ok (.dup, 1) := by decide +kernel
theorem dX0_held_30 : decode cX0_held 30 = .ok (.getfield 30, 3) := by decide +kernel
theorem dX0_held_33 : decode cX0_held 33 = .ok (.iconst 1, 1) := by decide +kernel
theorem dX0_held_34 : decode cX0_held 34 = .ok (.iadd, 1) := by decide +kernel
theorem dX0_held_35 : decode cX0_held 35 = .ok (.putfield 30, 3) := by decide +kernel
theorem dX0_held_38 : decode cX0_held 38 = .ok (.iload_n 2, 1) := by decide +kernel
theorem dX0_held_39 : decode cX0_held 39 = .ok (.ireturn, 1) := by decide +kernel
theorem dX0_isAt_0 : decode cX0_isAt 0 = .ok (.iconst 0, 1) := by decide +kernel
theorem dX0_isAt_1 : decode cX0_isAt 1 = .ok (.istore_n 2, 1) := by decide +kernel
theorem dX0_isAt_2 : decode cX0_isAt 2 = .ok (.iload_n 2, 1) := by decide +kernel
theorem dX0_isAt_3 : decode cX0_isAt 3 = .ok (.aload_n 0, 1) := by decide +kernel
theorem dX0_isAt_4 : decode cX0_isAt 4 = .ok (.getfield 9, 3) := by decide +kernel
theorem dX0_isAt_7 : decode cX0_isAt 7 = .ok (.arraylength, 1) := by decide +kernel
theorem dX0_isAt_8 : decode cX0_isAt 8 = .ok (.if_icmp .ge 29, 3) := by decide +kernel
theorem dX0_isAt_11 : decode cX0_isAt 11 = .ok (.iload_n 2, 1) := by decide +kernel
theorem dX0_isAt_12 : decode cX0_isAt 12 = .ok (.aload_n 1, 1) := by decide +kernel
theorem dX0_isAt_13 : decode cX0_isAt 13 = .ok (.arraylength, 1) := by decide +kernel
theorem dX0_isAt_14 : decode cX0_isAt 14 = .ok (.if_icmp .ge 23, 3) := by decide +kernel
theorem dX0_isAt_17 : decode cX0_isAt 17 = .ok (.aload_n 0, 1) := by decide +kernel
theorem dX0_isAt_18 : decode cX0_isAt 18 = .ok (.getfield 9, 3) := by decide +kernel
theorem dX0_isAt_21 : decode cX0_isAt 21 = .ok (.iload_n 2, 1) := by decide +kernel
theorem dX0_isAt_22 : decode cX0_isAt 22 = .ok (.iaload, 1) := by decide +kernel
theorem dX0_isAt_23 : decode cX0_isAt 23 = .ok (.aload_n 1, 1) := by decide +kernel
theorem dX0_isAt_24 : decode cX0_isAt 24 = .ok (.iload_n 2, 1) := by decide +kernel
theorem dX0_isAt_25 : decode cX0_isAt 25 = .ok (.iaload, 1) := by decide +kernel
theorem dX0_isAt_26 : decode cX0_isAt 26 = .ok (.if_icmp .eq 5, 3) := by decide +kernel
theorem dX0_isAt_29 : decode cX0_isAt 29 = .ok (.iconst 0, 1) := by decide +kernel
theorem dX0_isAt_30 : decode cX0_isAt 30 = .ok (.ireturn, 1) := by decide +kernel
theorem dX0_isAt_31 : decode cX0_isAt 31 = .ok (.iinc 2 1, 3) := by decide +kernel
theorem dX0_isAt_34 : decode cX0_isAt 34 = .ok (.goto (-32), 3) := by decide +kernel
theorem dX0_isAt_37 : decode cX0_isAt 37 = .ok (.iconst 1, 1) := by decide +kernel
theorem dX0_isAt_38 : decode cX0_isAt 38 = .ok (.ireturn, 1) := by decide +kernel
theorem dX1_init_0 : decode cX1_init 0 = .ok (.aload_n 0, 1) := by decide +kernel
theorem dX1_init_1 : decode cX1_init 1 = .ok (.invokespecial 3, 3) := by decide +kernel
theorem dX1_init_4 : decode cX1_init 4 = .ok (.aload_n 0, 1) := by decide +kernel
theorem dX1_init_5 : decode cX1_init 5 = .ok (.new 9, 3) := by decide +kernel
theorem dX1_init_8 : decode cX1_init 8 = .ok (.dup, 1) := by decide +kernel
theorem dX1_init_9 : decode cX1_init 9 = .ok (.invokespecial 11, 3) := by decide +kernel
theorem dX1_init_12 : decode cX1_init 12 = .ok (.putfield 12, 3) := by decide +kernel
theorem dX1_init_15 : decode cX1_init 15 = .ok (.aload_n 0, 1) := by decide +kernel
theorem dX1_init_16 : decode cX1_init 16 = .ok (.iconst 3, 1) := by decide +kernel
theorem dX1_init_17 : decode cX1_init 17 = .ok (.newarray .int, 2) := by decide +kernel
theorem dX1_init_19 : decode cX1_init 19 = .ok (.putfield 18, 3) := by decide +kernel
theorem dX1_init_22 : decode cX1_init 22 = .ok (.return_, 1) := by decide +kernel
theorem dX1_find_0 : decode cX1_find 0 = .ok (.aload_n 0, 1) := by decide +kernel
theorem dX1_find_1 : decode cX1_find 1 = .ok (.getfield 12, 3) := by decide +kernel
theorem dX1_find_4 : decode cX1_find 4 = .ok (.aload_n 1, 1) := by decide +kernel
theorem dX1_find_5 : decode cX1_find 5 = .ok (.invokevirtual 22, 3) := by decide +kernel
theorem dX1_find_8 : decode cX1_find 8 = .ok (.aload_n 0, 1) := by decide +kernel
theorem dX1_find_9 : decode cX1_find 9 = .ok (.invokevirtual 26, 3) := by decide +kernel
theorem dX1_find_12 : decode cX1_find 12 = .ok (.iconst 1, 1) := by decide +kernel
theorem dX1_find_13 : decode cX1_find 13 = .ok (.istore_n 3, 1) := by decide +kernel
theorem dX1_find_14 : decode cX1_find 14 = .ok (.iconst 1, 1) := by decide +kernel
theorem dX1_find_15 : decode cX1_find 15 = .ok (.istore 4, 2) := by decide +kernel
theorem dX1_find_17 : decode cX1_find 17 = .ok (.iload 4, 2) := by decide +kernel
theorem dX1_find_19 : decode cX1_find 19 = .ok (.sipush 6000, 3) := by decide +kernel
theorem dX1_find_22 : decode cX1_find 22 = .ok (.if_icmp .gt 87, 3) := by decide +kernel
theorem dX1_find_25 : decode cX1_find 25 = .ok (.aload_n 0, 1) := by decide +kernel
theorem dX1_find_26 : decode cX1_find 26 = .ok (.iload_n 2, 1) := by decide +kernel
theorem dX1_find_27 : decode cX1_find 27 = .ok (.invokevirtual 29, 3) := by decide +kernel
theorem dX1_find_30 : decode cX1_find 30 = .ok (.aload_n 0, 1) := by decide +kernel
theorem dX1_find_31 : decode cX1_find 31 = .ok (.getfield 12, 3) := by decide +kernel
theorem dX1_find_34 : decode cX1_find 34 = .ok (.aload_n 0, 1) := by decide +kernel
theorem dX1_find_35 : decode cX1_find 35 = .ok (.getfield 18, 3) := by decide +kernel
theorem dX1_find_38 : decode cX1_find 38 = .ok (.invokevirtual 33, 3) := by decide +kernel
theorem dX1_find_41 : decode cX1_find 41 = .ok (.ifCond .eq 41, 3) := by decide +kernel
theorem dX1_find_44 : decode cX1_find 44 = .ok (.aload_n 0, 1) := by decide +kernel
theorem dX1_find_45 : decode cX1_find 45 = .ok (.aload_n 0, 1) := by decide +kernel
theorem dX1_find_46 : decode cX1_find 46 = .ok (.getfield 12, 3) := by decide +kernel
theorem dX1_find_49 : decode cX1_find 49 = .ok (.getfield 37, 3) := by decide +kernel
theorem dX1_find_52 : decode cX1_find 52 = .ok (.putfield 41, 3) := by decide +kernel
theorem dX1_find_55 : decode cX1_find 55 = .ok (.aload_n 0, 1) := by decide +kernel
theorem dX1_find_56 : decode cX1_find 56 = .ok (.dup, 1) := by decide +kernel
theorem dX1_find_57 : decode cX1_find 57 = .ok (.getfield 42, 3) := by decide +kernel
theorem dX1_find_60 : decode cX1_find 60 = .ok (.aload_n 0, 1) := by decide +kernel
theorem dX1_find_61 : decode cX1_find 61 = .ok (.getfield 45, 3) := by decide +kernel
theorem dX1_find_64 : decode cX1_find 64 = .ok (.aload_n 0, 1) := by decide +kernel
theorem dX1_find_65 : decode cX1_find 65 = .ok (.getfield 48, 3) := by decide +kernel
theorem dX1_find_68 : decode cX1_find 68 = .ok (.if_icmp .eq 7, 3) := by decide +kernel
theorem dX1_find_71 : decode cX1_find 71 = .ok (.iconst 1, 1) := by decide +kernel
theorem dX1_find_72 : decode cX1_find 72 = .ok (.goto 4, 3) := by decide +kernel
theorem dX1_find_75 : decode cX1_find 75 = .ok (.iconst 0, 1) := by decide +kernel
theorem dX1_find_76 : decode cX1_find 76 = .ok (.iadd, 1) := by decide +kernel
theorem dX1_find_77 : decode cX1_find 77 = .ok (.putfield 42, 3) := by decide +kernel
theorem dX1_find_80 : decode cX1_find 80 = .ok (.iconst 1, 1) := by decide +kernel
theorem dX1_find_81 : decode cX1_find 81 = .ok (.ireturn, 1) := by decide +kernel
theorem dX1_find_82 : decode cX1_find 82 = .ok (.iload 4, 2) := by decide +kernel
theorem dX1_find_84 : decode cX1_find 84 = .ok (.iload_n 3, 1) := by decide +kernel
theorem dX1_find_85 : decode cX1_find 85 = .ok (.if_icmp .ne 18, 3) := by decide +kernel
theorem dX1_find_88 : decode cX1_find 88 = .ok (.aload_n 0, 1) := by decide +kernel
theorem dX1_find_89 : decode cX1_find 89 = .ok (.invokevirtual 26, 3) := by decide +kernel
theorem dX1_find_92 : decode cX1_find 92 = .ok (.iconst 2, 1) := by decide +kernel
theorem dX1_find_93 : decode cX1_find 93 = .ok (.iload 4, 2) := by decide +kernel
theorem dX1_find_95 : decode cX1_find 95 = .ok (.imul, 1) := by decide +kernel
theorem dX1_find_96 : decode cX1_find 96 = .ok (.sipush 3000, 3) := by decide +kernel
theorem dX1_find_99 : decode cX1_find 99 = .ok (.invokestatic 51, 3) := by decide +kernel
theorem dX1_find_102 : decode cX1_find 102 = .ok (.istore_n 3, 1) := by decide +kernel
theorem dX1_find_103 : decode cX1_find 103 = .ok (.iinc 4 1, 3) := by decide +kernel
theorem dX1_find_106 : decode cX1_find 106 = .ok (.goto (-89), 3) := by decide +kernel
theorem dX1_find_109 : decode cX1_find 109 = .ok (.iconst 0, 1) := by decide +kernel
theorem dX1_find_110 : decode cX1_find 110 = .ok (.ireturn, 1) := by decide +kernel
theorem dX1_drop_0 : decode cX1_drop 0 = .ok (.aload_n 0, 1) := by decide +kernel
theorem dX1_drop_1 : decode cX1_drop 1 = .ok (.getfield 12, 3) := by decide +kernel
theorem dX1_drop_4 : decode cX1_drop 4 = .ok (.getfield 57, 3) := by decide +kernel
theorem dX1_drop_7 : decode cX1_drop 7 = .ok (.iconst 0, 1) := by decide +kernel
theorem dX1_drop_8 : decode cX1_drop 8 = .ok (.aload_n 0, 1) := by decide +kernel
theorem dX1_drop_9 : decode cX1_drop 9 = .ok (.getfield 18, 3) := by decide +kernel
theorem dX1_drop_12 : decode cX1_drop 12 = .ok (.iconst 0, 1) := by decide +kernel
theorem dX1_drop_13 : decode cX1_drop 13 = .ok (.aload_n 0, 1) := by decide +kernel
theorem dX1_drop_14 : decode cX1_drop 14 = .ok (.getfield 18, 3) := by decide +kernel
theorem dX1_drop_17 : decode cX1_drop 17 = .ok (.arraylength, 1) := by decide +kernel
theorem dX1_drop_18 : decode cX1_drop 18 = .ok (.invokestatic 60, 3) := by decide +kernel
theorem dX1_drop_21 : decode cX1_drop 21 = .ok (.aload_n 0, 1) := by decide +kernel
theorem dX1_drop_22 : decode cX1_drop 22 = .ok (.getfield 12, 3) := by decide +kernel
theorem dX1_drop_25 : decode cX1_drop 25 = .ok (.iconst 0, 1) := by decide +kernel
theorem dX1_drop_26 : decode cX1_drop 26 = .ok (.putfield 37, 3) := by decide +kernel
theorem dX1_drop_29 : decode cX1_drop 29 = .ok (.aload_n 0, 1) := by decide +kernel
theorem dX1_drop_30 : decode cX1_drop 30 = .ok (.iconst 0, 1) := by decide +kernel
theorem dX1_drop_31 : decode cX1_drop 31 = .ok (.putfield 66, 3) := by decide +kernel
theorem dX1_drop_34 : decode cX1_drop 34 = .ok (.aload_n 0, 1) := by decide +kernel
theorem dX1_drop_35 : decode cX1_drop 35 = .ok (.iconst 0, 1) := by decide +kernel
theorem dX1_drop_36 : decode cX1_drop 36 = .ok (.putfield 69, 3) := by decide +kernel
theorem dX1_drop_39 : decode cX1_drop 39 = .ok (.aload_n 0, 1) := by decide +kernel
theorem dX1_drop_40 : decode cX1_drop 40 = .ok (.iconst 0, 1) := by decide +kernel
theorem dX1_drop_41 : decode cX1_drop 41 = .ok (.putfield 72, 3) := by decide +kernel
theorem dX1_drop_44 : decode cX1_drop 44 = .ok (.aload_n 0, 1) := by decide +kernel
theorem dX1_drop_45 : decode cX1_drop 45 = .ok (.iconst 0, 1) := by decide +kernel
theorem dX1_drop_46 : decode cX1_drop 46 = .ok (.putfield 42, 3) := by decide +kernel
theorem dX1_drop_49 : decode cX1_drop 49 = .ok (.return_, 1) := by decide +kernel
theorem dX1_walk_0 : decode cX1_walk 0 = .ok (.aload_n 0, 1) := by decide +kernel
theorem dX1_walk_1 : decode cX1_walk 1 = .ok (.aload_n 0, 1) := by decide +kernel
theorem dX1_walk_2 : decode cX1_walk 2 = .ok (.getfield 72, 3) := by decide +kernel
theorem dX1_walk_5 : decode cX1_walk 5 = .ok (.aload_n 0, 1) := by decide +kernel
theorem dX1_walk_6 : decode cX1_walk 6 = .ok (.getfield 12, 3) := by decide +kernel
theorem dX1_walk_9 : decode cX1_walk 9 = .ok (.invokevirtual 75, 3) := by decide +kernel
theorem dX1_walk_12 : decode cX1_walk 12 = .ok (.invokestatic 79, 3) := by decide +kernel
theorem dX1_walk_15 : decode cX1_walk 15 = .ok (.invokestatic 83, 3) := by decide +kernel
theorem dX1_walk_18 : decode cX1_walk 18 = .ok (.putfield 72, 3) := by decide +kernel
theorem dX1_walk_21 : decode cX1_walk 21 = .ok (.aload_n 0, 1) := by decide +kernel
theorem dX1_walk_22 : decode cX1_walk 22 = .ok (.getfield 12, 3) := by decide +kernel
theorem dX1_walk_25 : decode cX1_walk 25 = .ok (.iload_n 1, 1) := by decide +kernel
theorem dX1_walk_26 : decode cX1_walk 26 = .ok (.invokevirtual 86, 3) := by decide +kernel
theorem dX1_walk_29 : decode cX1_walk 29 = .ok (.istore_n 2, 1) := by decide +kernel
theorem dX1_walk_30 : decode cX1_walk 30 = .ok (.aload_n 0, 1) := by decide +kernel
theorem dX1_walk_31 : decode cX1_walk 31 = .ok (.getfield 66, 3) := by decide +kernel
theorem dX1_walk_34 : decode cX1_walk 34 = .ok (.ifCond .ne 11, 3) := by decide +kernel
theorem dX1_walk_37 : decode cX1_walk 37 = .ok (.aload_n 0, 1) := by decide +kernel
theorem dX1_walk_38 : decode cX1_walk 38 = .ok (.iload_n 2, 1) := by decide +kernel
theorem dX1_walk_39 : decode cX1_walk 39 = .ok (.putfield 45, 3) := by decide +kernel
theorem dX1_walk_42 : decode cX1_walk 42 = .ok (.goto 21, 3) := by decide +kernel
theorem dX1_walk_45 : decode cX1_walk 45 = .ok (.iload_n 2, 1) := by decide +kernel
theorem dX1_walk_46 : decode cX1_walk 46 = .ok (.aload_n 0, 1) := by decide +kernel
theorem dX1_walk_47 : decode cX1_walk 47 = .ok (.getfield 48, 3) := by decide +kernel
theorem dX1_walk_50 : decode cX1_walk 50 = .ok (.if_icmp .eq 13, 3) := by decide +kernel
theorem dX1_walk_53 : decode cX1_walk 53 = .ok (.aload_n 0, 1) := by decide +kernel
theorem dX1_walk_54 : decode cX1_walk 54 = .ok (.dup, 1) := by decide +kernel
theorem dX1_walk_55 : decode cX1_walk 55 = .ok (.getfield 42, 3) := by decide +kernel
theorem dX1_walk_58 : decode cX1_walk 58 = .ok (.iconst 1, 1) := by decide +kernel
theorem dX1_walk_59 : decode cX1_walk 59 = .ok (.iadd, 1) := by decide +kernel
theorem dX1_walk_60 : decode cX1_walk 60 = .ok (.putfield 42, 3) := by decide +kernel
theorem dX1_walk_63 : decode cX1_walk 63 = .ok (.aload_n 0, 1) := by decide +kernel
theorem dX1_walk_64 : decode cX1_walk 64 = .ok (.iload_n 2, 1) := by decide +kernel
theorem dX1_walk_65 : decode cX1_walk 65 = .ok (.putfield 48, 3) := by decide +kernel
theorem dX1_walk_68 : decode cX1_walk 68 = .ok (.aload_n 0, 1) := by decide +kernel
theorem dX1_walk_69 : decode cX1_walk 69 = .ok (.dup, 1) := by decide +kernel
theorem dX1_walk_70 : decode cX1_walk 70 = .ok (.getfield 69, 3) := by decide +kernel
theorem dX1_walk_73 : decode cX1_walk 73 = .ok (.iload_n 2, 1) := by decide +kernel
theorem dX1_walk_74 : decode cX1_walk 74 = .ok (.iadd, 1) := by decide +kernel
theorem dX1_walk_75 : decode cX1_walk 75 = .ok (.putfield 69, 3) := by decide +kernel
theorem dX1_walk_78 : decode cX1_walk 78 = .ok (.aload_n 0, 1) := by decide +kernel
theorem dX1_walk_79 : decode cX1_walk 79 = .ok (.dup, 1) := by decide +kernel
theorem dX1_walk_80 : decode cX1_walk 80 = .ok (.getfield 66, 3) := by decide +kernel
theorem dX1_walk_83 : decode cX1_walk 83 = .ok (.iconst 1, 1) := by decide +kernel
theorem dX1_walk_84 : decode cX1_walk 84 = .ok (.iadd, 1) := by decide +kernel
theorem dX1_walk_85 : decode cX1_walk 85 = .ok (.putfield 66, 3) := by decide +kernel
theorem dX1_walk_88 : decode cX1_walk 88 = .ok (.return_, 1) := by decide +kernel
theorem dX1_property_0 : decode cX1_property 0 = .ok (.iload_n 1, 1) := by decide +kernel
theorem dX1_property_1 : decode cX1_property 1 = .ok (.tableswitch 51 1 4 #[31, 36, 41, 46], 31) := by decide +kernel
theorem dX1_property_32 : decode cX1_property 32 = .ok (.aload_n 0, 1) := by decide +kernel
theorem dX1_property_33 : decode cX1_property 33 = .ok (.getfield 66, 3) := by decide +kernel
theorem dX1_property_36 : decode cX1_property 36 = .ok (.ireturn, 1) := by decide +kernel
theorem dX1_property_37 : decode cX1_property 37 = .ok (.aload_n 0, 1) := by decide +kernel
theorem dX1_property_38 : decode cX1_property 38 = .ok (.getfield 69, 3) := by decide +kernel
theorem dX1_property_41 : decode cX1_property 41 = .ok (.ireturn, 1) := by decide +kernel
theorem dX1_property_42 : decode cX1_property 42 = .ok (.aload_n 0, 1) := by decide +kernel
theorem dX1_property_43 : decode cX1_property 43 = .ok (.getfield 41, 3) := by decide +kernel
theorem dX1_property_46 : decode cX1_property 46 = .ok (.ireturn, 1) := by decide +kernel
theorem dX1_property_47 : decode cX1_property 47 = .ok (.aload_n 0, 1) := by decide +kernel
theorem dX1_property_48 : decode cX1_property 48 = .ok (.getfield 72, 3) := by decide +kernel
theorem dX1_property_51 : decode cX1_property 51 = .ok (.ireturn, 1) := by decide +kernel
theorem dX1_property_52 : decode cX1_property 52 = .ok (.aload_n 0, 1) := by decide +kernel
theorem dX1_property_53 : decode cX1_property 53 = .ok (.getfield 42, 3) := by decide +kernel
theorem dX1_property_56 : decode cX1_property 56 = .ok (.ireturn, 1) := by decide +kernel
theorem dX2_init_0 : decode cX2_init 0 = .ok (.aload_n 0, 1) := by decide +kernel
theorem dX2_init_1 : decode cX2_init 1 = .ok (.invokespecial 1, 3) := by decide +kernel
theorem dX2_init_4 : decode cX2_init 4 = .ok (.return_, 1) := by decide +kernel
theorem dX2_take_0 : decode cX2_take 0 = .ok (.aload_n 0, 1) := by decide +kernel
theorem dX2_take_1 : decode cX2_take 1 = .ok (.iconst 1, 1) := by decide +kernel
theorem dX2_take_2 : decode cX2_take 2 = .ok (.putfield 7, 3) := by decide +kernel
theorem dX2_take_5 : decode cX2_take 5 = .ok (.aload_n 0, 1) := by decide +kernel
theorem dX2_take_6 : decode cX2_take 6 = .ok (.aload_n 1, 1) := by decide +kernel
theorem dX2_take_7 : decode cX2_take 7 = .ok (.getfield 13, 3) := by decide +kernel
theorem dX2_take_10 : decode cX2_take 10 = .ok (.putfield 18, 3) := by decide +kernel
theorem dX2_take_13 : decode cX2_take 13 = .ok (.aload_n 0, 1) := by decide +kernel
theorem dX2_take_14 : decode cX2_take 14 = .ok (.aload_n 1, 1) := by decide +kernel
theorem dX2_take_15 : decode cX2_take 15 = .ok (.getfield 19, 3) := by decide +kernel
theorem dX2_take_18 : decode cX2_take 18 = .ok (.putfield 23, 3) := by decide +kernel
theorem dX2_take_21 : decode cX2_take 21 = .ok (.aload_n 0, 1) := by decide +kernel
theorem dX2_take_22 : decode cX2_take 22 = .ok (.aload_n 1, 1) := by decide +kernel
theorem dX2_take_23 : decode cX2_take 23 = .ok (.getfield 24, 3) := by decide +kernel
theorem dX2_take_26 : decode cX2_take 26 = .ok (.putfield 27, 3) := by decide +kernel
theorem dX2_take_29 : decode cX2_take 29 = .ok (.aload_n 0, 1) := by decide +kernel
theorem dX2_take_30 : decode cX2_take 30 = .ok (.aload_n 1, 1) := by decide +kernel
theorem dX2_take_31 : decode cX2_take 31 = .ok (.getfield 28, 3) := by decide +kernel
theorem dX2_take_34 : decode cX2_take 34 = .ok (.putfield 31, 3) := by decide +kernel
theorem dX2_take_37 : decode cX2_take 37 = .ok (.aload_n 0, 1) := by decide +kernel
theorem dX2_take_38 : decode cX2_take 38 = .ok (.aload_n 1, 1) := by decide +kernel
theorem dX2_take_39 : decode cX2_take 39 = .ok (.getfield 32, 3) := by decide +kernel
theorem dX2_take_42 : decode cX2_take 42 = .ok (.putfield 35, 3) := by decide +kernel
theorem dX2_take_45 : decode cX2_take 45 = .ok (.aload_n 0, 1) := by decide +kernel
theorem dX2_take_46 : decode cX2_take 46 = .ok (.iload_n 2, 1) := by decide +kernel
theorem dX2_take_47 : decode cX2_take 47 = .ok (.putfield 36, 3) := by decide +kernel
theorem dX2_take_50 : decode cX2_take 50 = .ok (.return_, 1) := by decide +kernel
theorem dX2_give_0 : decode cX2_give 0 = .ok (.aload_n 1, 1) := by decide +kernel
theorem dX2_give_1 : decode cX2_give 1 = .ok (.iconst 0, 1) := by decide +kernel
theorem dX2_give_2 : decode cX2_give 2 = .ok (.putfield 13, 3) := by decide +kernel
theorem dX2_give_5 : decode cX2_give 5 = .ok (.aload_n 0, 1) := by decide +kernel
theorem dX2_give_6 : decode cX2_give 6 = .ok (.getfield 18, 3) := by decide +kernel
theorem dX2_give_9 : decode cX2_give 9 = .ok (.ifCond .eq 29, 3) := by decide +kernel
theorem dX2_give_12 : decode cX2_give 12 = .ok (.aload_n 1, 1) := by decide +kernel
theorem dX2_give_13 : decode cX2_give 13 = .ok (.aload_n 2, 1) := by decide +kernel
theorem dX2_give_14 : decode cX2_give 14 = .ok (.aload_n 0, 1) := by decide +kernel
theorem dX2_give_15 : decode cX2_give 15 = .ok (.getfield 23, 3) := by decide +kernel
theorem dX2_give_18 : decode cX2_give 18 = .ok (.aload_n 0, 1) := by decide +kernel
theorem dX2_give_19 : decode cX2_give 19 = .ok (.getfield 27, 3) := by decide +kernel
theorem dX2_give_22 : decode cX2_give 22 = .ok (.aload_n 0, 1) := by decide +kernel
theorem dX2_give_23 : decode cX2_give 23 = .ok (.getfield 31, 3) := by decide +kernel
theorem dX2_give_26 : decode cX2_give 26 = .ok (.invokevirtual 39, 3) := by decide +kernel
theorem dX2_give_29 : decode cX2_give 29 = .ok (.aload_n 1, 1) := by decide +kernel
theorem dX2_give_30 : decode cX2_give 30 = .ok (.aload_n 0, 1) := by decide +kernel
theorem dX2_give_31 : decode cX2_give 31 = .ok (.getfield 35, 3) := by decide +kernel
theorem dX2_give_34 : decode cX2_give 34 = .ok (.invokevirtual 43, 3) := by decide +kernel
theorem dX2_give_37 : decode cX2_give 37 = .ok (.pop, 1) := by decide +kernel
theorem dX2_give_38 : decode cX2_give 38 = .ok (.return_, 1) := by decide +kernel
theorem dX3_init_0 : decode cX3_init 0 = .ok (.aload_n 0, 1) := by decide +kernel
theorem dX3_init_1 : decode cX3_init 1 = .ok (.invokespecial 3, 3) := by decide +kernel
theorem dX3_init_4 : decode cX3_init 4 = .ok (.aload_n 0, 1) := by decide +kernel
theorem dX3_init_5 : decode cX3_init 5 = .ok (.iconst 3, 1) := by decide +kernel
theorem dX3_init_6 : decode cX3_init 6 = .ok (.newarray .int, 2) := by decide +kernel
theorem dX3_init_8 : decode cX3_init 8 = .ok (.putfield 9, 3) := by decide +kernel
theorem dX3_init_11 : decode cX3_init 11 = .ok (.return_, 1) := by decide +kernel
theorem dX3_clear_0 : decode cX3_clear 0 = .ok (.aload_n 0, 1) := by decide +kernel
theorem dX3_clear_1 : decode cX3_clear 1 = .ok (.getfield 9, 3) := by decide +kernel
theorem dX3_clear_4 : decode cX3_clear 4 = .ok (.iconst 0, 1) := by decide +kernel
theorem dX3_clear_5 : decode cX3_clear 5 = .ok (.invokestatic 15, 3) := by decide +kernel
theorem dX3_clear_8 : decode cX3_clear 8 = .ok (.aload_n 0, 1) := by decide +kernel
theorem dX3_clear_9 : decode cX3_clear 9 = .ok (.iconst 0, 1) := by decide +kernel
theorem dX3_clear_10 : decode cX3_clear 10 = .ok (.putfield 21, 3) := by decide +kernel
theorem dX3_clear_13 : decode cX3_clear 13 = .ok (.aload_n 0, 1) := by decide +kernel
theorem dX3_clear_14 : decode cX3_clear 14 = .ok (.iconst 0, 1) := by decide +kernel
theorem dX3_clear_15 : decode cX3_clear 15 = .ok (.putfield 25, 3) := by decide +kernel
theorem dX3_clear_18 : decode cX3_clear 18 = .ok (.aload_n 0, 1) := by decide +kernel
theorem dX3_clear_19 : decode cX3_clear 19 = .ok (.iconst 0, 1) := by decide +kernel
theorem dX3_clear_20 : decode cX3_clear 20 = .ok (.putfield 28, 3) := by decide +kernel
theorem dX3_clear_23 : decode cX3_clear 23 = .ok (.aload_n 0, 1) := by decide +kernel
theorem dX3_clear_24 : decode cX3_clear 24 = .ok (.iconst 0, 1) := by decide +kernel
theorem dX3_clear_25 : decode cX3_clear 25 = .ok (.putfield 31, 3) := by decide +kernel
theorem dX3_clear_28 : decode cX3_clear 28 = .ok (.aload_n 0, 1) := by decide +kernel
theorem dX3_clear_29 : decode cX3_clear 29 = .ok (.iconst 0, 1) := by decide +kernel
theorem dX3_clear_30 : decode cX3_clear 30 = .ok (.putfield 34, 3) := by decide +kernel
theorem dX3_clear_33 : decode cX3_clear 33 = .ok (.return_, 1) := by decide +kernel
theorem dX3_addStage_0 : decode cX3_addStage 0 = .ok (.aload_n 0, 1) := by decide +kernel
theorem dX3_addStage_1 : decode cX3_addStage 1 = .ok (.getfield 25, 3) := by decide +kernel
theorem dX3_addStage_4 : decode cX3_addStage 4 = .ok (.iconst 3, 1) := by decide +kernel
theorem dX3_addStage_5 : decode cX3_addStage 5 = .ok (.if_icmp .lt 5, 3) := by decide +kernel
theorem dX3_addStage_8 : decode cX3_addStage 8 = .ok (.iconst 0, 1) := by decide +kernel
theorem dX3_addStage_9 : decode cX3_addStage 9 = .ok (.ireturn, 1) := by decide +kernel
theorem dX3_addStage_10 : decode cX3_addStage 10 = .ok (.aload_n 0, 1) := by decide +kernel
theorem dX3_addStage_11 : decode cX3_addStage 11 = .ok (.getfield 9, 3) := by decide +kernel
theorem dX3_addStage_14 : decode cX3_addStage 14 = .ok (.aload_n 0, 1) := by decide +kernel
theorem dX3_addStage_15 : decode cX3_addStage 15 = .ok (.getfield 25, 3) := by decide +kernel
theorem dX3_addStage_18 : decode cX3_addStage 18 = .ok (.iload_n 1, 1) := by decide +kernel
theorem dX3_addStage_19 : decode cX3_addStage 19 = .ok (.iastore, 1) := by decide +kernel
theorem dX3_addStage_20 : decode cX3_addStage 20 = .ok (.aload_n 0, 1) := by decide +kernel
theorem dX3_addStage_21 : decode cX3_addStage 21 = .ok (.dup, 1) := by decide +kernel
theorem dX3_addStage_22 : decode cX3_addStage 22 = .ok (.getfield 25, 3) := by decide +kernel
theorem dX3_addStage_25 : decode cX3_addStage 25 = .ok (.iconst 1, 1) := by decide +kernel
theorem dX3_addStage_26 : decode cX3_addStage 26 = .ok (.iadd, 1) := by decide +kernel
theorem dX3_addStage_27 : decode cX3_addStage 27 = .ok (.putfield 25, 3) := by decide +kernel
theorem dX3_addStage_30 : decode cX3_addStage 30 = .ok (.iconst 1, 1) := by decide +kernel
theorem dX3_addStage_31 : decode cX3_addStage 31 = .ok (.ireturn, 1) := by decide +kernel
theorem dX3_property_0 : decode cX3_property 0 = .ok (.iload_n 1, 1) := by decide +kernel
theorem dX3_property_1 : decode cX3_property 1 = .ok (.tableswitch 71 0 6 #[43, 71, 71, 71, 48, 53, 66], 43) := by decide +kernel
theorem dX3_property_44 : decode cX3_property 44 = .ok (.aload_n 0, 1) := by decide +kernel
theorem dX3_property_45 : decode cX3_property 45 = .ok (.getfield 25, 3) := by decide +kernel
theorem dX3_property_48 : decode cX3_property 48 = .ok (.ireturn, 1) := by decide +kernel
theorem dX3_property_49 : decode cX3_property 49 = .ok (.aload_n 0, 1) := by decide +kernel
theorem dX3_property_50 : decode cX3_property 50 = .ok (.getfield 28, 3) := by decide +kernel
theorem dX3_property_53 : decode cX3_property 53 = .ok (.ireturn, 1) := by decide +kernel
theorem dX3_property_54 : decode cX3_property 54 = .ok (.aload_n 0, 1) := by decide +kernel
theorem dX3_property_55 : decode cX3_property 55 = .ok (.getfield 34, 3) := by decide +kernel
theorem dX3_property_58 : decode cX3_property 58 = .ok (.ifCond .eq 7, 3) := by decide +kernel
theorem dX3_property_61 : decode cX3_property 61 = .ok (.iconst 3, 1) := by decide +kernel
theorem dX3_property_62 : decode cX3_property 62 = .ok (.goto 4, 3) := by decide +kernel
theorem dX3_property_65 : decode cX3_property 65 = .ok (.iconst 2, 1) := by decide +kernel
theorem dX3_property_66 : decode cX3_property 66 = .ok (.ireturn, 1) := by decide +kernel
theorem dX3_property_67 : decode cX3_property 67 = .ok (.aload_n 0, 1) := by decide +kernel
theorem dX3_property_68 : decode cX3_property 68 = .ok (.getfield 31, 3) := by decide +kernel
theorem dX3_property_71 : decode cX3_property 71 = .ok (.ireturn, 1) := by decide +kernel
theorem dX3_property_72 : decode cX3_property 72 = .ok (.iload_n 1, 1) := by decide +kernel
theorem dX3_property_73 : decode cX3_property 73 = .ok (.iconst 1, 1) := by decide +kernel
theorem dX3_property_74 : decode cX3_property 74 = .ok (.if_icmp .lt 19, 3) := by decide +kernel
theorem dX3_property_77 : decode cX3_property 77 = .ok (.iload_n 1, 1) := by decide +kernel
theorem dX3_property_78 : decode cX3_property 78 = .ok (.iconst 3, 1) := by decide +kernel
theorem dX3_property_79 : decode cX3_property 79 = .ok (.if_icmp .gt 14, 3) := by decide +kernel
theorem dX3_property_82 : decode cX3_property 82 = .ok (.aload_n 0, 1) := by decide +kernel
theorem dX3_property_83 : decode cX3_property 83 = .ok (.getfield 9, 3) := by decide +kernel
theorem dX3_property_86 : decode cX3_property 86 = .ok (.iload_n 1, 1) := by decide +kernel
theorem dX3_property_87 : decode cX3_property 87 = .ok (.iconst 1, 1) := by decide +kernel
theorem dX3_property_88 : decode cX3_property 88 = .ok (.isub, 1) := by decide +kernel
theorem dX3_property_89 : decode cX3_property 89 = .ok (.iaload, 1) := by decide +kernel
theorem dX3_property_90 : decode cX3_property 90 = .ok (.goto 4, 3) := by decide +kernel
theorem dX3_property_93 : decode cX3_property 93 = .ok (.iconst 0, 1) := by decide +kernel
theorem dX3_property_94 : decode cX3_property 94 = .ok (.ireturn, 1) := by decide +kernel
theorem dX3_valueOf_0 : decode cX3_valueOf 0 = .ok (.aload_n 0, 1) := by decide +kernel
theorem dX3_valueOf_1 : decode cX3_valueOf 1 = .ok (.getfield 34, 3) := by decide +kernel
theorem dX3_valueOf_4 : decode cX3_valueOf 4 = .ok (.ifCond .ne 13, 3) := by decide +kernel
theorem dX3_valueOf_7 : decode cX3_valueOf 7 = .ok (.iload_n 1, 1) := by decide +kernel
theorem dX3_valueOf_8 : decode cX3_valueOf 8 = .ok (.ifCond .lt 7, 3) := by decide +kernel
theorem dX3_valueOf_11 : decode cX3_valueOf 11 = .ok (.iconst 1, 1) := by decide +kernel
theorem dX3_valueOf_12 : decode cX3_valueOf 12 = .ok (.goto 4, 3) := by decide +kernel
theorem dX3_valueOf_15 : decode cX3_valueOf 15 = .ok (.iconst (-1), 1) := by decide +kernel
theorem dX3_valueOf_16 : decode cX3_valueOf 16 = .ok (.ireturn, 1) := by decide +kernel
theorem dX3_valueOf_17 : decode cX3_valueOf 17 = .ok (.iload_n 1, 1) := by decide +kernel
theorem dX3_valueOf_18 : decode cX3_valueOf 18 = .ok (.sipush 500, 3) := by decide +kernel
theorem dX3_valueOf_21 : decode cX3_valueOf 21 = .ok (.if_icmp .lt 7, 3) := by decide +kernel
theorem dX3_valueOf_24 : decode cX3_valueOf 24 = .ok (.iconst 1, 1) := by decide +kernel
theorem dX3_valueOf_25 : decode cX3_valueOf 25 = .ok (.goto 15, 3) := by decide +kernel
theorem dX3_valueOf_28 : decode cX3_valueOf 28 = .ok (.iload_n 1, 1) := by decide +kernel
theorem dX3_valueOf_29 : decode cX3_valueOf 29 = .ok (.sipush (-500), 3) := by decide +kernel
theorem dX3_valueOf_32 : decode cX3_valueOf 32 = .ok (.if_icmp .gt 7, 3) := by decide +kernel
theorem dX3_valueOf_35 : decode cX3_valueOf 35 = .ok (.iconst (-1), 1) := by decide +kernel
theorem dX3_valueOf_36 : decode cX3_valueOf 36 = .ok (.goto 4, 3) := by decide +kernel
theorem dX3_valueOf_39 : decode cX3_valueOf 39 = .ok (.iconst 0, 1) := by decide +kernel
theorem dX3_valueOf_40 : decode cX3_valueOf 40 = .ok (.ireturn, 1) := by decide +kernel
theorem dX4_init_0 : decode cX4_init 0 = .ok (.aload_n 0, 1) := by decide +kernel
theorem dX4_init_1 : decode cX4_init 1 = .ok (.invokespecial 3, 3) := by decide +kernel
theorem dX4_init_4 : decode cX4_init 4 = .ok (.aload_n 0, 1) := by decide +kernel
theorem dX4_init_5 : decode cX4_init 5 = .ok (.iconst 4, 1) := by decide +kernel
theorem dX4_init_6 : decode cX4_init 6 = .ok (.anewarray 9, 3) := by decide +kernel
theorem dX4_init_9 : decode cX4_init 9 = .ok (.dup, 1) := by decide +kernel
theorem dX4_init_10 : decode cX4_init 10 = .ok (.iconst 0, 1) := by decide +kernel
theorem dX4_init_11 : decode cX4_init 11 = .ok (.new 9, 3) := by decide +kernel
theorem dX4_init_14 : decode cX4_init 14 = .ok (.dup, 1) := by decide +kernel
theorem dX4_init_15 : decode cX4_init 15 = .ok (.invokespecial 11, 3) := by decide +kernel
theorem dX4_init_18 : decode cX4_init 18 = .ok (.aastore, 1) := by decide +kernel
theorem dX4_init_19 : decode cX4_init 19 = .ok (.dup, 1) := by decide +kernel
theorem dX4_init_20 : decode cX4_init 20 = .ok (.iconst 1, 1) := by decide +kernel
theorem dX4_init_21 : decode cX4_init 21 = .ok (.new 9, 3) := by decide +kernel
theorem dX4_init_24 : decode cX4_init 24 = .ok (.dup, 1) := by decide +kernel
theorem dX4_init_25 : decode cX4_init 25 = .ok (.invokespecial 11, 3) := by decide +kernel
theorem dX4_init_28 : decode cX4_init 28 = .ok (.aastore, 1) := by decide +kernel
theorem dX4_init_29 : decode cX4_init 29 = .ok (.dup, 1) := by decide +kernel
theorem dX4_init_30 : decode cX4_init 30 = .ok (.iconst 2, 1) := by decide +kernel
theorem dX4_init_31 : decode cX4_init 31 = .ok (.new 9, 3) := by decide +kernel
theorem dX4_init_34 : decode cX4_init 34 = .ok (.dup, 1) := by decide +kernel
theorem dX4_init_35 : decode cX4_init 35 = .ok (.invokespecial 11, 3) := by decide +kernel
theorem dX4_init_38 : decode cX4_init 38 = .ok (.aastore, 1) := by decide +kernel
theorem dX4_init_39 : decode cX4_init 39 = .ok (.dup, 1) := by decide +kernel
theorem dX4_init_40 : decode cX4_init 40 = .ok (.iconst 3, 1) := by decide +kernel
theorem dX4_init_41 : decode cX4_init 41 = .ok (.new 9, 3) := by decide +kernel
theorem dX4_init_44 : decode cX4_init 44 = .ok (.dup, 1) := by decide +kernel
theorem dX4_init_45 : decode cX4_init 45 = .ok (.invokespecial 11, 3) := by decide +kernel
theorem dX4_init_48 : decode cX4_init 48 = .ok (.aastore, 1) := by decide +kernel
theorem dX4_init_49 : decode cX4_init 49 = .ok (.putfield 12, 3) := by decide +kernel
theorem dX4_init_52 : decode cX4_init 52 = .ok (.aload_n 0, 1) := by decide +kernel
theorem dX4_init_53 : decode cX4_init 53 = .ok (.iconst 4, 1) := by decide +kernel
theorem dX4_init_54 : decode cX4_init 54 = .ok (.anewarray 18, 3) := by decide +kernel
theorem dX4_init_57 : decode cX4_init 57 = .ok (.dup, 1) := by decide +kernel
theorem dX4_init_58 : decode cX4_init 58 = .ok (.iconst 0, 1) := by decide +kernel
theorem dX4_init_59 : decode cX4_init 59 = .ok (.new 18, 3) := by decide +kernel
theorem dX4_init_62 : decode cX4_init 62 = .ok (.dup, 1) := by decide +kernel
theorem dX4_init_63 : decode cX4_init 63 = .ok (.invokespecial 20, 3) := by decide +kernel
theorem dX4_init_66 : decode cX4_init 66 = .ok (.aastore, 1) := by decide +kernel
theorem dX4_init_67 : decode cX4_init 67 = .ok (.dup, 1) := by decide +kernel
theorem dX4_init_68 : decode cX4_init 68 = .ok (.iconst 1, 1) := by decide +kernel
theorem dX4_init_69 : decode cX4_init 69 = .ok (.new 18, 3) := by decide +kernel
theorem dX4_init_72 : decode cX4_init 72 = .ok (.dup, 1) := by decide +kernel
theorem dX4_init_73 : decode cX4_init 73 = .ok (.invokespecial 20, 3) := by decide +kernel
theorem dX4_init_76 : decode cX4_init 76 = .ok (.aastore, 1) := by decide +kernel
theorem dX4_init_77 : decode cX4_init 77 = .ok (.dup, 1) := by decide +kernel
theorem dX4_init_78 : decode cX4_init 78 = .ok (.iconst 2, 1) := by decide +kernel
theorem dX4_init_79 : decode cX4_init 79 = .ok (.new 18, 3) := by decide +kernel
theorem dX4_init_82 : decode cX4_init 82 = .ok (.dup, 1) := by decide +kernel
theorem dX4_init_83 : decode cX4_init 83 = .ok (.invokespecial 20, 3) := by decide +kernel
theorem dX4_init_86 : decode cX4_init 86 = .ok (.aastore, 1) := by decide +kernel
theorem dX4_init_87 : decode cX4_init 87 = .ok (.dup, 1) := by decide +kernel
theorem dX4_init_88 : decode cX4_init 88 = .ok (.iconst 3, 1) := by decide +kernel
theorem dX4_init_89 : decode cX4_init 89 = .ok (.new 18, 3) := by decide +kernel
theorem dX4_init_92 : decode cX4_init 92 = .ok (.dup, 1) := by decide +kernel
theorem dX4_init_93 : decode cX4_init 93 = .ok (.invokespecial 20, 3) := by decide +kernel
theorem dX4_init_96 : decode cX4_init 96 = .ok (.aastore, 1) := by decide +kernel
theorem dX4_init_97 : decode cX4_init 97 = .ok (.putfield 21, 3) := by decide +kernel
theorem dX4_init_100 : decode cX4_init 100 = .ok (.return_, 1) := by decide +kernel
theorem dX4_clear_0 : decode cX4_clear 0 = .ok (.aload_n 0, 1) := by decide +kernel
theorem dX4_clear_1 : decode cX4_clear 1 = .ok (.iconst 0, 1) := by decide +kernel
theorem dX4_clear_2 : decode cX4_clear 2 = .ok (.putfield 25, 3) := by decide +kernel
theorem dX4_clear_5 : decode cX4_clear 5 = .ok (.aload_n 0, 1) := by decide +kernel
theorem dX4_clear_6 : decode cX4_clear 6 = .ok (.iconst 0, 1) := by decide +kernel
theorem dX4_clear_7 : decode cX4_clear 7 = .ok (.putfield 29, 3) := by decide +kernel
theorem dX4_clear_10 : decode cX4_clear 10 = .ok (.return_, 1) := by decide +kernel
theorem dX4_addLoop_0 : decode cX4_addLoop 0 = .ok (.aload_n 0, 1) := by decide +kernel
theorem dX4_addLoop_1 : decode cX4_addLoop 1 = .ok (.getfield 25, 3) := by decide +kernel
theorem dX4_addLoop_4 : decode cX4_addLoop 4 = .ok (.iconst 4, 1) := by decide +kernel
theorem dX4_addLoop_5 : decode cX4_addLoop 5 = .ok (.if_icmp .lt 5, 3) := by decide +kernel
theorem dX4_addLoop_8 : decode cX4_addLoop 8 = .ok (.aconst_null, 1) := by decide +kernel
theorem dX4_addLoop_9 : decode cX4_addLoop 9 = .ok (.areturn, 1) := by decide +kernel
theorem dX4_addLoop_10 : decode cX4_addLoop 10 = .ok (.aload_n 0, 1) := by decide +kernel
theorem dX4_addLoop_11 : decode cX4_addLoop 11 = .ok (.getfield 12, 3) := by decide +kernel
theorem dX4_addLoop_14 : decode cX4_addLoop 14 = .ok (.aload_n 0, 1) := by decide +kernel
theorem dX4_addLoop_15 : decode cX4_addLoop 15 = .ok (.getfield 25, 3) := by decide +kernel
theorem dX4_addLoop_18 : decode cX4_addLoop 18 = .ok (.aaload, 1) := by decide +kernel
theorem dX4_addLoop_19 : decode cX4_addLoop 19 = .ok (.astore_n 1, 1) := by decide +kernel
theorem dX4_addLoop_20 : decode cX4_addLoop 20 = .ok (.aload_n 1, 1) := by decide +kernel
theorem dX4_addLoop_21 : decode cX4_addLoop 21 = .ok (.invokevirtual 32, 3) := by decide +kernel
theorem dX4_addLoop_24 : decode cX4_addLoop 24 = .ok (.aload_n 0, 1) := by decide +kernel
theorem dX4_addLoop_25 : decode cX4_addLoop 25 = .ok (.dup, 1) := by decide +kernel
theorem dX4_addLoop_26 : decode cX4_addLoop 26 = .ok (.getfield 25, 3) := by decide +kernel
theorem dX4_addLoop_29 : decode cX4_addLoop 29 = .ok (.iconst 1, 1) := by decide +kernel
theorem dX4_addLoop_30 : decode cX4_addLoop 30 = .ok (.iadd, 1) := by decide +kernel
theorem dX4_addLoop_31 : decode cX4_addLoop 31 = .ok (.putfield 25, 3) := by decide +kernel
theorem dX4_addLoop_34 : decode cX4_addLoop 34 = .ok (.aload_n 1, 1) := by decide +kernel
theorem dX4_addLoop_35 : decode cX4_addLoop 35 = .ok (.areturn, 1) := by decide +kernel
theorem dX4_addWave_0 : decode cX4_addWave 0 = .ok (.aload_n 0, 1) := by decide +kernel
theorem dX4_addWave_1 : decode cX4_addWave 1 = .ok (.getfield 29, 3) := by decide +kernel
theorem dX4_addWave_4 : decode cX4_addWave 4 = .ok (.iconst 4, 1) := by decide +kernel
theorem dX4_addWave_5 : decode cX4_addWave 5 = .ok (.if_icmp .lt 5, 3) := by decide +kernel
theorem dX4_addWave_8 : decode cX4_addWave 8 = .ok (.aconst_null, 1) := by decide +kernel
theorem dX4_addWave_9 : decode cX4_addWave 9 = .ok (.areturn, 1) := by decide +kernel
theorem dX4_addWave_10 : decode cX4_addWave 10 = .ok (.aload_n 0, 1) := by decide +kernel
theorem dX4_addWave_11 : decode cX4_addWave 11 = .ok (.getfield 21, 3) := by decide +kernel
theorem dX4_addWave_14 : decode cX4_addWave 14 = .ok (.aload_n 0, 1) := by decide +kernel
theorem dX4_addWave_15 : decode cX4_addWave 15 = .ok (.getfield 29, 3) := by decide +kernel
theorem dX4_addWave_18 : decode cX4_addWave 18 = .ok (.aaload, 1) := by decide +kernel
theorem dX4_addWave_19 : decode cX4_addWave 19 = .ok (.astore_n 1, 1) := by decide +kernel
theorem dX4_addWave_20 : decode cX4_addWave 20 = .ok (.aload_n 1, 1) := by decide +kernel
theorem dX4_addWave_21 : decode cX4_addWave 21 = .ok (.invokevirtual 35, 3) := by decide +kernel
theorem dX4_addWave_24 : decode cX4_addWave 24 = .ok (.aload_n 0, 1) := by decide +kernel
theorem dX4_addWave_25 : decode cX4_addWave 25 = .ok (.dup, 1) := by decide +kernel
theorem dX4_addWave_26 : decode cX4_addWave 26 = .ok (.getfield 29, 3) := by decide +kernel
theorem dX4_addWave_29 : decode cX4_addWave 29 = .ok (.iconst 1, 1) := by decide +kernel
theorem dX4_addWave_30 : decode cX4_addWave 30 = .ok (.iadd, 1) := by decide +kernel
theorem dX4_addWave_31 : decode cX4_addWave 31 = .ok (.putfield 29, 3) := by decide +kernel
theorem dX4_addWave_34 : decode cX4_addWave 34 = .ok (.aload_n 1, 1) := by decide +kernel
theorem dX4_addWave_35 : decode cX4_addWave 35 = .ok (.areturn, 1) := by decide +kernel
theorem dX4_loopAt_0 : decode cX4_loopAt 0 = .ok (.iload_n 1, 1) := by decide +kernel
theorem dX4_loopAt_1 : decode cX4_loopAt 1 = .ok (.ifCond .lt 20, 3) := by decide +kernel
theorem dX4_loopAt_4 : decode cX4_loopAt 4 = .ok (.iload_n 1, 1) := by decide +kernel
theorem dX4_loopAt_5 : decode cX4_loopAt 5 = .ok (.aload_n 0, 1) := by decide +kernel
theorem dX4_loopAt_6 : decode cX4_loopAt 6 = .ok (.getfield 25, 3) := by decide +kernel
theorem dX4_loopAt_9 : decode cX4_loopAt 9 = .ok (.if_icmp .ge 12, 3) := by decide +kernel
theorem dX4_loopAt_12 : decode cX4_loopAt 12 = .ok (.aload_n 0, 1) := by decide +kernel
theorem dX4_loopAt_13 : decode cX4_loopAt 13 = .ok (.getfield 12, 3) := by decide +kernel
theorem dX4_loopAt_16 : decode cX4_loopAt 16 = .ok (.iload_n 1, 1) := by decide +kernel
theorem dX4_loopAt_17 : decode cX4_loopAt 17 = .ok (.aaload, 1) := by decide +kernel
theorem dX4_loopAt_18 : decode cX4_loopAt 18 = .ok (.goto 4, 3) := by decide +kernel
theorem dX4_loopAt_21 : decode cX4_loopAt 21 = .ok (.aconst_null, 1) := by decide +kernel
theorem dX4_loopAt_22 : decode cX4_loopAt 22 = .ok (.areturn, 1) := by decide +kernel
theorem dX4_waveAt_0 : decode cX4_waveAt 0 = .ok (.iload_n 1, 1) := by decide +kernel
theorem dX4_waveAt_1 : decode cX4_waveAt 1 = .ok (.ifCond .lt 20, 3) := by decide +kernel
theorem dX4_waveAt_4 : decode cX4_waveAt 4 = .ok (.iload_n 1, 1) := by decide +kernel
theorem dX4_waveAt_5 : decode cX4_waveAt 5 = .ok (.aload_n 0, 1) := by decide +kernel
theorem dX4_waveAt_6 : decode cX4_waveAt 6 = .ok (.getfield 29, 3) := by decide +kernel
theorem dX4_waveAt_9 : decode cX4_waveAt 9 = .ok (.if_icmp .ge 12, 3) := by decide +kernel
theorem dX4_waveAt_12 : decode cX4_waveAt 12 = .ok (.aload_n 0, 1) := by decide +kernel
theorem dX4_waveAt_13 : decode cX4_waveAt 13 = .ok (.getfield 21, 3) := by decide +kernel
theorem dX4_waveAt_16 : decode cX4_waveAt 16 = .ok (.iload_n 1, 1) := by decide +kernel
theorem dX4_waveAt_17 : decode cX4_waveAt 17 = .ok (.aaload, 1) := by decide +kernel
theorem dX4_waveAt_18 : decode cX4_waveAt 18 = .ok (.goto 4, 3) := by decide +kernel
theorem dX4_waveAt_21 : decode cX4_waveAt 21 = .ok (.aconst_null, 1) := by decide +kernel
theorem dX4_waveAt_22 : decode cX4_waveAt 22 = .ok (.areturn, 1) := by decide +kernel
theorem dX4_nameOf_0 : decode cX4_nameOf 0 = .ok (.iload_n 1, 1) := by decide +kernel
theorem dX4_nameOf_1 : decode cX4_nameOf 1 = .ok (.ifCond .ne 22, 3) := by decide +kernel
theorem dX4_nameOf_4 : decode cX4_nameOf 4 = .ok (.aload_n 0, 1) := by decide +kernel
theorem dX4_nameOf_5 : decode cX4_nameOf 5 = .ok (.iload_n 2, 1) := by decide +kernel
theorem dX4_nameOf_6 : decode cX4_nameOf 6 = .ok (.invokevirtual 36, 3) := by decide +kernel
theorem dX4_nameOf_9 : decode cX4_nameOf 9 = .ok (.astore_n 3, 1) := by decide +kernel
theorem dX4_nameOf_10 : decode cX4_nameOf 10 = .ok (.aload_n 3, 1) := by decide +kernel
theorem dX4_nameOf_11 : decode cX4_nameOf 11 = .ok (.ifnonnull 7, 3) := by decide +kernel
theorem dX4_nameOf_14 : decode cX4_nameOf 14 = .ok (.iconst 0, 1) := by decide +kernel
theorem dX4_nameOf_15 : decode cX4_nameOf 15 = .ok (.goto 7, 3) := by decide +kernel
theorem dX4_nameOf_18 : decode cX4_nameOf 18 = .ok (.aload_n 3, 1) := by decide +kernel
theorem dX4_nameOf_19 : decode cX4_nameOf 19 = .ok (.getfield 40, 3) := by decide +kernel
theorem dX4_nameOf_22 : decode cX4_nameOf 22 = .ok (.ireturn, 1) := by decide +kernel
theorem dX4_nameOf_23 : decode cX4_nameOf 23 = .ok (.aload_n 0, 1) := by decide +kernel
theorem dX4_nameOf_24 : decode cX4_nameOf 24 = .ok (.iload_n 2, 1) := by decide +kernel
theorem dX4_nameOf_25 : decode cX4_nameOf 25 = .ok (.invokevirtual 43, 3) := by decide +kernel
theorem dX4_nameOf_28 : decode cX4_nameOf 28 = .ok (.astore_n 3, 1) := by decide +kernel
theorem dX4_nameOf_29 : decode cX4_nameOf 29 = .ok (.aload_n 3, 1) := by decide +kernel
theorem dX4_nameOf_30 : decode cX4_nameOf 30 = .ok (.ifnonnull 7, 3) := by decide +kernel
theorem dX4_nameOf_33 : decode cX4_nameOf 33 = .ok (.iconst 0, 1) := by decide +kernel
theorem dX4_nameOf_34 : decode cX4_nameOf 34 = .ok (.goto 7, 3) := by decide +kernel
theorem dX4_nameOf_37 : decode cX4_nameOf 37 = .ok (.aload_n 3, 1) := by decide +kernel
theorem dX4_nameOf_38 : decode cX4_nameOf 38 = .ok (.getfield 47, 3) := by decide +kernel
theorem dX4_nameOf_41 : decode cX4_nameOf 41 = .ok (.ireturn, 1) := by decide +kernel
theorem dX4_hasName_0 : decode cX4_hasName 0 = .ok (.iconst 0, 1) := by decide +kernel
theorem dX4_hasName_1 : decode cX4_hasName 1 = .ok (.istore_n 2, 1) := by decide +kernel
theorem dX4_hasName_2 : decode cX4_hasName 2 = .ok (.iload_n 2, 1) := by decide +kernel
theorem dX4_hasName_3 : decode cX4_hasName 3 = .ok (.iconst 4, 1) := by decide +kernel
theorem dX4_hasName_4 : decode cX4_hasName 4 = .ok (.if_icmp .ge 31, 3) := by decide +kernel
theorem dX4_hasName_7 : decode cX4_hasName 7 = .ok (.aload_n 0, 1) := by decide +kernel
theorem dX4_hasName_8 : decode cX4_hasName 8 = .ok (.iconst 0, 1) := by decide +kernel
theorem dX4_hasName_9 : decode cX4_hasName 9 = .ok (.iload_n 2, 1) := by decide +kernel
theorem dX4_hasName_10 : decode cX4_hasName 10 = .ok (.invokevirtual 48, 3) := by decide +kernel
theorem dX4_hasName_13 : decode cX4_hasName 13 = .ok (.iload_n 1, 1) := by decide +kernel
theorem dX4_hasName_14 : decode cX4_hasName 14 = .ok (.if_icmp .eq 13, 3) := by decide +kernel
theorem dX4_hasName_17 : decode cX4_hasName 17 = .ok (.aload_n 0, 1) := by decide +kernel
theorem dX4_hasName_18 : decode cX4_hasName 18 = .ok (.iconst 1, 1) := by decide +kernel
theorem dX4_hasName_19 : decode cX4_hasName 19 = .ok (.iload_n 2, 1) := by decide +kernel
theorem dX4_hasName_20 : decode cX4_hasName 20 = .ok (.invokevirtual 48, 3) := by decide +kernel
theorem dX4_hasName_23 : decode cX4_hasName 23 = .ok (.iload_n 1, 1) := by decide +kernel
theorem dX4_hasName_24 : decode cX4_hasName 24 = .ok (.if_icmp .ne 5, 3) := by decide +kernel
theorem dX4_hasName_27 : decode cX4_hasName 27 = .ok (.iconst 1, 1) := by decide +kernel
theorem dX4_hasName_28 : decode cX4_hasName 28 = .ok (.ireturn, 1) := by decide +kernel
theorem dX4_hasName_29 : decode cX4_hasName 29 = .ok (.iinc 2 1, 3) := by decide +kernel
theorem dX4_hasName_32 : decode cX4_hasName 32 = .ok (.goto (-30), 3) := by decide +kernel
theorem dX4_hasName_35 : decode cX4_hasName 35 = .ok (.iconst 0, 1) := by decide +kernel
theorem dX4_hasName_36 : decode cX4_hasName 36 = .ok (.ireturn, 1) := by decide +kernel
theorem dX5_init_0 : decode cX5_init 0 = .ok (.aload_n 0, 1) := by decide +kernel
theorem dX5_init_1 : decode cX5_init 1 = .ok (.invokespecial 3, 3) := by decide +kernel
theorem dX5_init_4 : decode cX5_init 4 = .ok (.aload_n 0, 1) := by decide +kernel
theorem dX5_init_5 : decode cX5_init 5 = .ok (.sipush 600, 3) := by decide +kernel
theorem dX5_init_8 : decode cX5_init 8 = .ok (.newarray .byte, 2) := by decide +kernel
theorem dX5_init_10 : decode cX5_init 10 = .ok (.putfield 9, 3) := by decide +kernel
theorem dX5_init_13 : decode cX5_init 13 = .ok (.aload_n 0, 1) := by decide +kernel
theorem dX5_init_14 : decode cX5_init 14 = .ok (.new 15, 3) := by decide +kernel
theorem dX5_init_17 : decode cX5_init 17 = .ok (.dup, 1) := by decide +kernel
theorem dX5_init_18 : decode cX5_init 18 = .ok (.invokespecial 17, 3) := by decide +kernel
theorem dX5_init_21 : decode cX5_init 21 = .ok (.putfield 18, 3) := by decide +kernel
theorem dX5_init_24 : decode cX5_init 24 = .ok (.return_, 1) := by decide +kernel
theorem dX5_readText_0 : decode cX5_readText 0 = .ok (.aload_n 0, 1) := by decide +kernel
theorem dX5_readText_1 : decode cX5_readText 1 = .ok (.getfield 18, 3) := by decide +kernel
theorem dX5_readText_4 : decode cX5_readText 4 = .ok (.invokevirtual 22, 3) := by decide +kernel
theorem dX5_readText_7 : decode cX5_readText 7 = .ok (.aload_n 0, 1) := by decide +kernel
theorem dX5_readText_8 : decode cX5_readText 8 = .ok (.iload_n 1, 1) := by decide +kernel
theorem dX5_readText_9 : decode cX5_readText 9 = .ok (.aload_n 0, 1) := by decide +kernel
theorem dX5_readText_10 : decode cX5_readText 10 = .ok (.getfield 9, 3) := by decide +kernel
theorem dX5_readText_13 : decode cX5_readText 13 = .ok (.arraylength, 1) := by decide +kernel
theorem dX5_readText_14 : decode cX5_readText 14 = .ok (.invokestatic 25, 3) := by decide +kernel
theorem dX5_readText_17 : decode cX5_readText 17 = .ok (.putfield 31, 3) := by decide +kernel
theorem dX5_readText_20 : decode cX5_readText 20 = .ok (.aload_n 0, 1) := by decide +kernel
theorem dX5_readText_21 : decode cX5_readText 21 = .ok (.iconst 0, 1) := by decide +kernel
theorem dX5_readText_22 : decode cX5_readText 22 = .ok (.putfield 35, 3) := by decide +kernel
theorem dX5_readText_25 : decode cX5_readText 25 = .ok (.aload_n 0, 1) := by decide +kernel
theorem dX5_readText_26 : decode cX5_readText 26 = .ok (.iconst 0, 1) := by decide +kernel
theorem dX5_readText_27 : decode cX5_readText 27 = .ok (.putfield 38, 3) := by decide +kernel
theorem dX5_readText_30 : decode cX5_readText 30 = .ok (.aload_n 0, 1) := by decide +kernel
theorem dX5_readText_31 : decode cX5_readText 31 = .ok (.invokevirtual 41, 3) := by decide +kernel
theorem dX5_readText_34 : decode cX5_readText 34 = .ok (.iconst 1, 1) := by decide +kernel
theorem dX5_readText_35 : decode cX5_readText 35 = .ok (.istore_n 2, 1) := by decide +kernel
theorem dX5_readText_36 : decode cX5_readText 36 = .ok (.iconst 0, 1) := by decide +kernel
theorem dX5_readText_37 : decode cX5_readText 37 = .ok (.istore_n 3, 1) := by decide +kernel
theorem dX5_readText_38 : decode cX5_readText 38 = .ok (.iload_n 3, 1) := by decide +kernel
theorem dX5_readText_39 : decode cX5_readText 39 = .ok (.sipush 600, 3) := by decide +kernel
theorem dX5_readText_42 : decode cX5_readText 42 = .ok (.if_icmp .ge 83, 3) := by decide +kernel
theorem dX5_readText_45 : decode cX5_readText 45 = .ok (.iload_n 2, 1) := by decide +kernel
theorem dX5_readText_46 : decode cX5_readText 46 = .ok (.ifCond .eq 79, 3) := by decide +kernel
theorem dX5_readText_49 : decode cX5_readText 49 = .ok (.aload_n 0, 1) := by decide +kernel
theorem dX5_readText_50 : decode cX5_readText 50 = .ok (.ldc 44, 2) := by decide +kernel
theorem dX5_readText_52 : decode cX5_readText 52 = .ok (.invokevirtual 46, 3) := by decide +kernel
theorem dX5_readText_55 : decode cX5_readText 55 = .ok (.ifCond .eq 10, 3) := by decide +kernel
theorem dX5_readText_58 : decode cX5_readText 58 = .ok (.aload_n 0, 1) := by decide +kernel
theorem dX5_readText_59 : decode cX5_readText 59 = .ok (.invokevirtual 50, 3) := by decide +kernel
theorem dX5_readText_62 : decode cX5_readText 62 = .ok (.goto 24, 3) := by decide +kernel
theorem dX5_readText_65 : decode cX5_readText 65 = .ok (.aload_n 0, 1) := by decide +kernel
theorem dX5_readText_66 : decode cX5_readText 66 = .ok (.ldc 54, 2) := by decide +kernel
theorem dX5_readText_68 : decode cX5_readText 68 = .ok (.invokevirtual 46, 3) := by decide +kernel
theorem dX5_readText_71 : decode cX5_readText 71 = .ok (.ifCond .eq 10, 3) := by decide +kernel
theorem dX5_readText_74 : decode cX5_readText 74 = .ok (.aload_n 0, 1) := by decide +kernel
theorem dX5_readText_75 : decode cX5_readText 75 = .ok (.invokevirtual 56, 3) := by decide +kernel
theorem dX5_readText_78 : decode cX5_readText 78 = .ok (.goto 8, 3) := by decide +kernel
theorem dX5_readText_81 : decode cX5_readText 81 = .ok (.aload_n 0, 1) := by decide +kernel
theorem dX5_readText_82 : decode cX5_readText 82 = .ok (.iconst 1, 1) := by decide +kernel
theorem dX5_readText_83 : decode cX5_readText 83 = .ok (.invokevirtual 59, 3) := by decide +kernel
theorem dX5_readText_86 : decode cX5_readText 86 = .ok (.istore_n 2, 1) := by decide +kernel
theorem dX5_readText_87 : decode cX5_readText 87 = .ok (.iload_n 2, 1) := by decide +kernel
theorem dX5_readText_88 : decode cX5_readText 88 = .ok (.ifCond .eq 12, 3) := by decide +kernel
theorem dX5_readText_91 : decode cX5_readText 91 = .ok (.aload_n 0, 1) := by decide +kernel
theorem dX5_readText_92 : decode cX5_readText 92 = .ok (.getfield 63, 3) := by decide +kernel
theorem dX5_readText_95 : decode cX5_readText 95 = .ok (.ifCond .ne 5, 3) := by decide +kernel
theorem dX5_readText_98 : decode cX5_readText 98 = .ok (.iconst 1, 1) := by decide +kernel
theorem dX5_readText_99 : decode cX5_readText 99 = .ok (.ireturn, 1) := by decide +kernel
theorem dX5_readText_100 : decode cX5_readText 100 = .ok (.iload_n 2, 1) := by decide +kernel
theorem dX5_readText_101 : decode cX5_readText 101 = .ok (.ifCond .eq 16, 3) := by decide +kernel
theorem dX5_readText_104 : decode cX5_readText 104 = .ok (.aload_n 0, 1) := by decide +kernel
theorem dX5_readText_105 : decode cX5_readText 105 = .ok (.bipush 59, 2) := by decide +kernel
theorem dX5_readText_107 : decode cX5_readText 107 = .ok (.invokevirtual 66, 3) := by decide +kernel
theorem dX5_readText_110 : decode cX5_readText 110 = .ok (.ifCond .eq 7, 3) := by decide +kernel
theorem dX5_readText_113 : decode cX5_readText 113 = .ok (.iconst 1, 1) := by decide +kernel
theorem dX5_readText_114 : decode cX5_readText 114 = .ok (.goto 4, 3) := by decide +kernel
theorem dX5_readText_117 : decode cX5_readText 117 = .ok (.iconst 0, 1) := by decide +kernel
theorem dX5_readText_118 : decode cX5_readText 118 = .ok (.istore_n 2, 1) := by decide +kernel
theorem dX5_readText_119 : decode cX5_readText 119 = .ok (.iinc 3 1, 3) := by decide +kernel
theorem dX5_readText_122 : decode cX5_readText 122 = .ok (.goto (-84), 3) := by decide +kernel
theorem dX5_readText_125 : decode cX5_readText 125 = .ok (.iconst 0, 1) := by decide +kernel
theorem dX5_readText_126 : decode cX5_readText 126 = .ok (.ireturn, 1) := by decide +kernel
theorem dX5_readLoop_0 : decode cX5_readLoop 0 = .ok (.aload_n 0, 1) := by decide +kernel
theorem dX5_readLoop_1 : decode cX5_readLoop 1 = .ok (.getfield 18, 3) := by decide +kernel
theorem dX5_readLoop_4 : decode cX5_readLoop 4 = .ok (.invokevirtual 70, 3) := by decide +kernel
theorem dX5_readLoop_7 : decode cX5_readLoop 7 = .ok (.astore_n 1, 1) := by decide +kernel
theorem dX5_readLoop_8 : decode cX5_readLoop 8 = .ok (.aload_n 1, 1) := by decide +kernel
theorem dX5_readLoop_9 : decode cX5_readLoop 9 = .ok (.ifnonnull 9, 3) := by decide +kernel
theorem dX5_readLoop_12 : decode cX5_readLoop 12 = .ok (.aload_n 0, 1) := by decide +kernel
theorem dX5_readLoop_13 : decode cX5_readLoop 13 = .ok (.iconst 4, 1) := by decide +kernel
theorem dX5_readLoop_14 : decode cX5_readLoop 14 = .ok (.invokevirtual 59, 3) := by decide +kernel
theorem dX5_readLoop_17 : decode cX5_readLoop 17 = .ok (.ireturn, 1) := by decide +kernel
theorem dX5_readLoop_18 : decode cX5_readLoop 18 = .ok (.aload_n 0, 1) := by decide +kernel
theorem dX5_readLoop_19 : decode cX5_readLoop 19 = .ok (.invokevirtual 41, 3) := by decide +kernel
theorem dX5_readLoop_22 : decode cX5_readLoop 22 = .ok (.aload_n 0, 1) := by decide +kernel
theorem dX5_readLoop_23 : decode cX5_readLoop 23 = .ok (.invokevirtual 74, 3) := by decide +kernel
theorem dX5_readLoop_26 : decode cX5_readLoop 26 = .ok (.ifCond .ne 5, 3) := by decide +kernel
theorem dX5_readLoop_29 : decode cX5_readLoop 29 = .ok (.iconst 0, 1) := by decide +kernel
theorem dX5_readLoop_30 : decode cX5_readLoop 30 = .ok (.ireturn, 1) := by decide +kernel
theorem dX5_readLoop_31 : decode cX5_readLoop 31 = .ok (.aload_n 1, 1) := by decide +kernel
theorem dX5_readLoop_32 : decode cX5_readLoop 32 = .ok (.aload_n 0, 1) := by decide +kernel
theorem dX5_readLoop_33 : decode cX5_readLoop 33 = .ok (.getfield 77, 3) := by decide +kernel
theorem dX5_readLoop_36 : decode cX5_readLoop 36 = .ok (.putfield 80, 3) := by decide +kernel
theorem dX5_readLoop_39 : decode cX5_readLoop 39 = .ok (.aload_n 0, 1) := by decide +kernel
theorem dX5_readLoop_40 : decode cX5_readLoop 40 = .ok (.ldc 85, 2) := by decide +kernel
theorem dX5_readLoop_42 : decode cX5_readLoop 42 = .ok (.invokevirtual 87, 3) := by decide +kernel
theorem dX5_readLoop_45 : decode cX5_readLoop 45 = .ok (.ifCond .eq 11, 3) := by decide +kernel
theorem dX5_readLoop_48 : decode cX5_readLoop 48 = .ok (.aload_n 0, 1) := by decide +kernel
theorem dX5_readLoop_49 : decode cX5_readLoop 49 = .ok (.aload_n 1, 1) := by decide +kernel
theorem dX5_readLoop_50 : decode cX5_readLoop 50 = .ok (.invokevirtual 90, 3) := by decide +kernel
theorem dX5_readLoop_53 : decode cX5_readLoop 53 = .ok (.ifCond .ne 5, 3) := by decide +kernel
theorem dX5_readLoop_56 : decode cX5_readLoop 56 = .ok (.iconst 0, 1) := by decide +kernel
theorem dX5_readLoop_57 : decode cX5_readLoop 57 = .ok (.ireturn, 1) := by decide +kernel
theorem dX5_readLoop_58 : decode cX5_readLoop 58 = .ok (.aload_n 0, 1) := by decide +kernel
theorem dX5_readLoop_59 : decode cX5_readLoop 59 = .ok (.ldc 94, 2) := by decide +kernel
theorem dX5_readLoop_61 : decode cX5_readLoop 61 = .ok (.invokevirtual 87, 3) := by decide +kernel
theorem dX5_readLoop_64 : decode cX5_readLoop 64 = .ok (.ifCond .eq 16, 3) := by decide +kernel
theorem dX5_readLoop_67 : decode cX5_readLoop 67 = .ok (.aload_n 0, 1) := by decide +kernel
theorem dX5_readLoop_68 : decode cX5_readLoop 68 = .ok (.sipush 1000, 3) := by decide +kernel
theorem dX5_readLoop_71 : decode cX5_readLoop 71 = .ok (.sipush 9999, 3) := by decide +kernel
theorem dX5_readLoop_74 : decode cX5_readLoop 74 = .ok (.invokevirtual 96, 3) := by decide +kernel
theorem dX5_readLoop_77 : decode cX5_readLoop 77 = .ok (.ifCond .ne 5, 3) := by decide +kernel
theorem dX5_readLoop_80 : decode cX5_readLoop 80 = .ok (.iconst 0, 1) := by decide +kernel
theorem dX5_readLoop_81 : decode cX5_readLoop 81 = .ok (.ireturn, 1) := by decide +kernel
theorem dX5_readLoop_82 : decode cX5_readLoop 82 = .ok (.aload_n 1, 1) := by decide +kernel
theorem dX5_readLoop_83 : decode cX5_readLoop 83 = .ok (.aload_n 0, 1) := by decide +kernel
theorem dX5_readLoop_84 : decode cX5_readLoop 84 = .ok (.getfield 77, 3) := by decide +kernel
theorem dX5_readLoop_87 : decode cX5_readLoop 87 = .ok (.putfield 100, 3) := by decide +kernel
theorem dX5_readLoop_90 : decode cX5_readLoop 90 = .ok (.aload_n 1, 1) := by decide +kernel
theorem dX5_readLoop_91 : decode cX5_readLoop 91 = .ok (.aload_n 0, 1) := by decide +kernel
theorem dX5_readLoop_92 : decode cX5_readLoop 92 = .ok (.ldc 102, 2) := by decide +kernel
theorem dX5_readLoop_94 : decode cX5_readLoop 94 = .ok (.invokevirtual 46, 3) := by decide +kernel
theorem dX5_readLoop_97 : decode cX5_readLoop 97 = .ok (.putfield 104, 3) := by decide +kernel
theorem dX5_readLoop_100 : decode cX5_readLoop 100 = .ok (.aload_n 1, 1) := by decide +kernel
theorem dX5_readLoop_101 : decode cX5_readLoop 101 = .ok (.getfield 104, 3) := by decide +kernel
theorem dX5_readLoop_104 : decode cX5_readLoop 104 = .ok (.ifCond .eq 7, 3) := by decide +kernel
theorem dX5_readLoop_107 : decode cX5_readLoop 107 = .ok (.aload_n 0, 1) := by decide +kernel
theorem dX5_readLoop_108 : decode cX5_readLoop 108 = .ok (.invokevirtual 41, 3) := by decide +kernel
theorem dX5_readLoop_111 : decode cX5_readLoop 111 = .ok (.aload_n 0, 1) := by decide +kernel
theorem dX5_readLoop_112 : decode cX5_readLoop 112 = .ok (.ldc 107, 2) := by decide +kernel
theorem dX5_readLoop_114 : decode cX5_readLoop 114 = .ok (.invokevirtual 46, 3) := by decide +kernel
theorem dX5_readLoop_117 : decode cX5_readLoop 117 = .ok (.ifCond .eq 11, 3) := by decide +kernel
theorem dX5_readLoop_120 : decode cX5_readLoop 120 = .ok (.aload_n 0, 1) := by decide +kernel
theorem dX5_readLoop_121 : decode cX5_readLoop 121 = .ok (.aload_n 1, 1) := by decide +kernel
theorem dX5_readLoop_122 : decode cX5_readLoop 122 = .ok (.invokevirtual 109, 3) := by decide +kernel
theorem dX5_readLoop_125 : decode cX5_readLoop 125 = .ok (.ifCond .eq 7, 3) := by decide +kernel
theorem dX5_readLoop_128 : decode cX5_readLoop 128 = .ok (.iconst 1, 1) := by decide +kernel
theorem dX5_readLoop_129 : decode cX5_readLoop 129 = .ok (.goto 4, 3) := by decide +kernel
theorem dX5_readLoop_132 : decode cX5_readLoop 132 = .ok (.iconst 0, 1) := by decide +kernel
theorem dX5_readLoop_133 : decode cX5_readLoop 133 = .ok (.ireturn, 1) := by decide +kernel
theorem dX5_readFactors_0 : decode cX5_readFactors 0 = .ok (.iconst 1, 1) := by decide +kernel
theorem dX5_readFactors_1 : decode cX5_readFactors 1 = .ok (.istore_n 2, 1) := by decide +kernel
theorem dX5_readFactors_2 : decode cX5_readFactors 2 = .ok (.iconst 0, 1) := by decide +kernel
theorem dX5_readFactors_3 : decode cX5_readFactors 3 = .ok (.istore_n 3, 1) := by decide +kernel
theorem dX5_readFactors_4 : decode cX5_readFactors 4 = .ok (.iload_n 3, 1) := by decide +kernel
theorem dX5_readFactors_5 : decode cX5_readFactors 5 = .ok (.iconst 3, 1) := by decide +kernel
theorem dX5_readFactors_6 : decode cX5_readFactors 6 = .ok (.if_icmp .gt 64, 3) := by decide +kernel
theorem dX5_readFactors_9 : decode cX5_readFactors 9 = .ok (.iload_n 2, 1) := by decide +kernel
theorem dX5_readFactors_10 : decode cX5_readFactors 10 = .ok (.ifCond .eq 60, 3) := by decide +kernel
theorem dX5_readFactors_13 : decode cX5_readFactors 13 = .ok (.aload_n 0, 1) := by decide +kernel
theorem dX5_readFactors_14 : decode cX5_readFactors 14 = .ok (.getfield 112, 3) := by decide +kernel
theorem dX5_readFactors_17 : decode cX5_readFactors 17 = .ok (.istore 4, 2) := by decide +kernel
theorem dX5_readFactors_19 : decode cX5_readFactors 19 = .ok (.aload_n 0, 1) := by decide +kernel
theorem dX5_readFactors_20 : decode cX5_readFactors 20 = .ok (.iconst 1, 1) := by decide +kernel
theorem dX5_readFactors_21 : decode cX5_readFactors 21 = .ok (.bipush 32, 2) := by decide +kernel
theorem dX5_readFactors_23 : decode cX5_readFactors 23 = .ok (.invokevirtual 96, 3) := by decide +kernel
theorem dX5_readFactors_26 : decode cX5_readFactors 26 = .ok (.ifCond .ne 5, 3) := by decide +kernel
theorem dX5_readFactors_29 : decode cX5_readFactors 29 = .ok (.iconst 0, 1) := by decide +kernel
theorem dX5_readFactors_30 : decode cX5_readFactors 30 = .ok (.ireturn, 1) := by decide +kernel
theorem dX5_readFactors_31 : decode cX5_readFactors 31 = .ok (.aload_n 1, 1) := by decide +kernel
theorem dX5_readFactors_32 : decode cX5_readFactors 32 = .ok (.aload_n 0, 1) := by decide +kernel
theorem dX5_readFactors_33 : decode cX5_readFactors 33 = .ok (.getfield 77, 3) := by decide +kernel
theorem dX5_readFactors_36 : decode cX5_readFactors 36 = .ok (.invokevirtual 115, 3) := by decide +kernel
theorem dX5_readFactors_39 : decode cX5_readFactors 39 = .ok (.ifCond .ne 11, 3) := by decide +kernel
theorem dX5_readFactors_42 : decode cX5_readFactors 42 = .ok (.aload_n 0, 1) := by decide +kernel
theorem dX5_readFactors_43 : decode cX5_readFactors 43 = .ok (.iconst 4, 1) := by decide +kernel
theorem dX5_readFactors_44 : decode cX5_readFactors 44 = .ok (.iload 4, 2) := by decide +kernel
theorem dX5_readFactors_46 : decode cX5_readFactors 46 = .ok (.invokevirtual 118, 3) := by decide +kernel
theorem dX5_readFactors_49 : decode cX5_readFactors 49 = .ok (.ireturn, 1) := by decide +kernel
theorem dX5_readFactors_50 : decode cX5_readFactors 50 = .ok (.aload_n 0, 1) := by decide +kernel
theorem dX5_readFactors_51 : decode cX5_readFactors 51 = .ok (.getfield 63, 3) := by decide +kernel
theorem dX5_readFactors_54 : decode cX5_readFactors 54 = .ok (.iconst 2, 1) := by decide +kernel
theorem dX5_readFactors_55 : decode cX5_readFactors 55 = .ok (.if_icmp .ne 7, 3) := by decide +kernel
theorem dX5_readFactors_58 : decode cX5_readFactors 58 = .ok (.iconst 1, 1) := by decide +kernel
theorem dX5_readFactors_59 : decode cX5_readFactors 59 = .ok (.goto 4, 3) := by decide +kernel
theorem dX5_readFactors_62 : decode cX5_readFactors 62 = .ok (.iconst 0, 1) := by decide +kernel
theorem dX5_readFactors_63 : decode cX5_readFactors 63 = .ok (.istore_n 2, 1) := by decide +kernel
theorem dX5_readFactors_64 : decode cX5_readFactors 64 = .ok (.iinc 3 1, 3) := by decide +kernel
theorem dX5_readFactors_67 : decode cX5_readFactors 67 = .ok (.goto (-63), 3) := by decide +kernel
theorem dX5_readFactors_70 : decode cX5_readFactors 70 = .ok (.iconst 1, 1) := by decide +kernel
theorem dX5_readFactors_71 : decode cX5_readFactors 71 = .ok (.ireturn, 1) := by decide +kernel
theorem dX5_readNoise_0 : decode cX5_readNoise 0 = .ok (.aload_n 0, 1) := by decide +kernel
theorem dX5_readNoise_1 : decode cX5_readNoise 1 = .ok (.invokevirtual 41, 3) := by decide +kernel
theorem dX5_readNoise_4 : decode cX5_readNoise 4 = .ok (.aload_n 0, 1) := by decide +kernel
theorem dX5_readNoise_5 : decode cX5_readNoise 5 = .ok (.iconst 1, 1) := by decide +kernel
theorem dX5_readNoise_6 : decode cX5_readNoise 6 = .ok (.sipush 999, 3) := by decide +kernel
theorem dX5_readNoise_9 : decode cX5_readNoise 9 = .ok (.invokevirtual 96, 3) := by decide +kernel
theorem dX5_readNoise_12 : decode cX5_readNoise 12 = .ok (.ifCond .ne 5, 3) := by decide +kernel
theorem dX5_readNoise_15 : decode cX5_readNoise 15 = .ok (.iconst 0, 1) := by decide +kernel
theorem dX5_readNoise_16 : decode cX5_readNoise 16 = .ok (.ireturn, 1) := by decide +kernel
theorem dX5_readNoise_17 : decode cX5_readNoise 17 = .ok (.aload_n 1, 1) := by decide +kernel
theorem dX5_readNoise_18 : decode cX5_readNoise 18 = .ok (.aload_n 0, 1) := by decide +kernel
theorem dX5_readNoise_19 : decode cX5_readNoise 19 = .ok (.getfield 77, 3) := by decide +kernel
theorem dX5_readNoise_22 : decode cX5_readNoise 22 = .ok (.putfield 121, 3) := by decide +kernel
theorem dX5_readNoise_25 : decode cX5_readNoise 25 = .ok (.iconst 1, 1) := by decide +kernel
theorem dX5_readNoise_26 : decode cX5_readNoise 26 = .ok (.ireturn, 1) := by decide +kernel
theorem dX5_readWave_0 : decode cX5_readWave 0 = .ok (.aload_n 0, 1) := by decide +kernel
theorem dX5_readWave_1 : decode cX5_readWave 1 = .ok (.getfield 18, 3) := by decide +kernel
theorem dX5_readWave_4 : decode cX5_readWave 4 = .ok (.invokevirtual 123, 3) := by decide +kernel
theorem dX5_readWave_7 : decode cX5_readWave 7 = .ok (.astore_n 1, 1) := by decide +kernel
theorem dX5_readWave_8 : decode cX5_readWave 8 = .ok (.aload_n 1, 1) := by decide +kernel
theorem dX5_readWave_9 : decode cX5_readWave 9 = .ok (.ifnonnull 9, 3) := by decide +kernel
theorem dX5_readWave_12 : decode cX5_readWave 12 = .ok (.aload_n 0, 1) := by decide +kernel
theorem dX5_readWave_13 : decode cX5_readWave 13 = .ok (.iconst 4, 1) := by decide +kernel
theorem dX5_readWave_14 : decode cX5_readWave 14 = .ok (.invokevirtual 59, 3) := by decide +kernel
theorem dX5_readWave_17 : decode cX5_readWave 17 = .ok (.ireturn, 1) := by decide +kernel
theorem dX5_readWave_18 : decode cX5_readWave 18 = .ok (.aload_n 0, 1) := by decide +kernel
theorem dX5_readWave_19 : decode cX5_readWave 19 = .ok (.invokevirtual 41, 3) := by decide +kernel
theorem dX5_readWave_22 : decode cX5_readWave 22 = .ok (.aload_n 0, 1) := by decide +kernel
theorem dX5_readWave_23 : decode cX5_readWave 23 = .ok (.invokevirtual 74, 3) := by decide +kernel
theorem dX5_readWave_26 : decode cX5_readWave 26 = .ok (.ifCond .ne 5, 3) := by decide +kernel
theorem dX5_readWave_29 : decode cX5_readWave 29 = .ok (.iconst 0, 1) := by decide +kernel
theorem dX5_readWave_30 : decode cX5_readWave 30 = .ok (.ireturn, 1) := by decide +kernel
theorem dX5_readWave_31 : decode cX5_readWave 31 = .ok (.aload_n 1, 1) := by decide +kernel
theorem dX5_readWave_32 : decode cX5_readWave 32 = .ok (.aload_n 0, 1) := by decide +kernel
theorem dX5_readWave_33 : decode cX5_readWave 33 = .ok (.getfield 77, 3) := by decide +kernel
theorem dX5_readWave_36 : decode cX5_readWave 36 = .ok (.putfield 127, 3) := by decide +kernel
theorem dX5_readWave_39 : decode cX5_readWave 39 = .ok (.aload_n 0, 1) := by decide +kernel
theorem dX5_readWave_40 : decode cX5_readWave 40 = .ok (.aload_n 1, 1) := by decide +kernel
theorem dX5_readWave_41 : decode cX5_readWave 41 = .ok (.invokevirtual 130, 3) := by decide +kernel
theorem dX5_readWave_44 : decode cX5_readWave 44 = .ok (.istore_n 2, 1) := by decide +kernel
theorem dX5_readWave_45 : decode cX5_readWave 45 = .ok (.iconst 0, 1) := by decide +kernel
theorem dX5_readWave_46 : decode cX5_readWave 46 = .ok (.istore_n 3, 1) := by decide +kernel
theorem dX5_readWave_47 : decode cX5_readWave 47 = .ok (.iload_n 3, 1) := by decide +kernel
theorem dX5_readWave_48 : decode cX5_readWave 48 = .ok (.bipush 8, 2) := by decide +kernel
theorem dX5_readWave_50 : decode cX5_readWave 50 = .ok (.if_icmp .gt 32, 3) := by decide +kernel
theorem dX5_readWave_53 : decode cX5_readWave 53 = .ok (.iload_n 2, 1) := by decide +kernel
theorem dX5_readWave_54 : decode cX5_readWave 54 = .ok (.ifCond .eq 28, 3) := by decide +kernel
theorem dX5_readWave_57 : decode cX5_readWave 57 = .ok (.aload_n 0, 1) := by decide +kernel
theorem dX5_readWave_58 : decode cX5_readWave 58 = .ok (.bipush 44, 2) := by decide +kernel
theorem dX5_readWave_60 : decode cX5_readWave 60 = .ok (.invokevirtual 134, 3) := by decide +kernel
theorem dX5_readWave_63 : decode cX5_readWave 63 = .ok (.ifCond .eq 19, 3) := by decide +kernel
theorem dX5_readWave_66 : decode cX5_readWave 66 = .ok (.aload_n 0, 1) := by decide +kernel
theorem dX5_readWave_67 : decode cX5_readWave 67 = .ok (.invokevirtual 41, 3) := by decide +kernel
theorem dX5_readWave_70 : decode cX5_readWave 70 = .ok (.aload_n 0, 1) := by decide +kernel
theorem dX5_readWave_71 : decode cX5_readWave 71 = .ok (.aload_n 1, 1) := by decide +kernel
theorem dX5_readWave_72 : decode cX5_readWave 72 = .ok (.invokevirtual 130, 3) := by decide +kernel
theorem dX5_readWave_75 : decode cX5_readWave 75 = .ok (.istore_n 2, 1) := by decide +kernel
theorem dX5_readWave_76 : decode cX5_readWave 76 = .ok (.iinc 3 1, 3) := by decide +kernel
theorem dX5_readWave_79 : decode cX5_readWave 79 = .ok (.goto (-32), 3) := by decide +kernel
theorem dX5_readWave_82 : decode cX5_readWave 82 = .ok (.iload_n 2, 1) := by decide +kernel
theorem dX5_readWave_83 : decode cX5_readWave 83 = .ok (.ireturn, 1) := by decide +kernel
theorem dX5_readPiece_0 : decode cX5_readPiece 0 = .ok (.aload_n 0, 1) := by decide +kernel
theorem dX5_readPiece_1 : decode cX5_readPiece 1 = .ok (.ldc 137, 2) := by decide +kernel
theorem dX5_readPiece_3 : decode cX5_readPiece 3 = .ok (.invokevirtual 46, 3) := by decide +kernel
theorem dX5_readPiece_6 : decode cX5_readPiece 6 = .ok (.ifCond .eq 7, 3) := by decide +kernel
theorem dX5_readPiece_9 : decode cX5_readPiece 9 = .ok (.iconst 0, 1) := by decide +kernel
theorem dX5_readPiece_10 : decode cX5_readPiece 10 = .ok (.goto 17, 3) := by decide +kernel
theorem dX5_readPiece_13 : decode cX5_readPiece 13 = .ok (.aload_n 0, 1) := by decide +kernel
theorem dX5_readPiece_14 : decode cX5_readPiece 14 = .ok (.ldc 139, 2) := by decide +kernel
theorem dX5_readPiece_16 : decode cX5_readPiece 16 = .ok (.invokevirtual 46, 3) := by decide +kernel
theorem dX5_readPiece_19 : decode cX5_readPiece 19 = .ok (.ifCond .eq 7, 3) := by decide +kernel
theorem dX5_readPiece_22 : decode cX5_readPiece 22 = .ok (.iconst 1, 1) := by decide +kernel
theorem dX5_readPiece_23 : decode cX5_readPiece 23 = .ok (.goto 4, 3) := by decide +kernel
theorem dX5_readPiece_26 : decode cX5_readPiece 26 = .ok (.iconst 2, 1) := by decide +kernel
theorem dX5_readPiece_27 : decode cX5_readPiece 27 = .ok (.istore_n 2, 1) := by decide +kernel
theorem dX5_readPiece_28 : decode cX5_readPiece 28 = .ok (.iload_n 2, 1) := by decide +kernel
theorem dX5_readPiece_29 : decode cX5_readPiece 29 = .ok (.iconst 2, 1) := by decide +kernel
theorem dX5_readPiece_30 : decode cX5_readPiece 30 = .ok (.if_icmp .ne 18, 3) := by decide +kernel
theorem dX5_readPiece_33 : decode cX5_readPiece 33 = .ok (.aload_n 0, 1) := by decide +kernel
theorem dX5_readPiece_34 : decode cX5_readPiece 34 = .ok (.ldc 141, 2) := by decide +kernel
theorem dX5_readPiece_36 : decode cX5_readPiece 36 = .ok (.invokevirtual 46, 3) := by decide +kernel
theorem dX5_readPiece_39 : decode cX5_readPiece 39 = .ok (.ifCond .ne 9, 3) := by decide +kernel
theorem dX5_readPiece_42 : decode cX5_readPiece 42 = .ok (.aload_n 0, 1) := by decide +kernel
theorem dX5_readPiece_43 : decode cX5_readPiece 43 = .ok (.iconst 1, 1) := by decide +kernel
theorem dX5_readPiece_44 : decode cX5_readPiece 44 = .ok (.invokevirtual 59, 3) := by decide +kernel
theorem dX5_readPiece_47 : decode cX5_readPiece 47 = .ok (.ireturn, 1) := by decide +kernel
theorem dX5_readPiece_48 : decode cX5_readPiece 48 = .ok (.aload_n 1, 1) := by decide +kernel
theorem dX5_readPiece_49 : decode cX5_readPiece 49 = .ok (.getfield 143, 3) := by decide +kernel
theorem dX5_readPiece_52 : decode cX5_readPiece 52 = .ok (.bipush 8, 2) := by decide +kernel
theorem dX5_readPiece_54 : decode cX5_readPiece 54 = .ok (.if_icmp .lt 9, 3) := by decide +kernel
theorem dX5_readPiece_57 : decode cX5_readPiece 57 = .ok (.aload_n 0, 1) := by decide +kernel
theorem dX5_readPiece_58 : decode cX5_readPiece 58 = .ok (.iconst 4, 1) := by decide +kernel
theorem dX5_readPiece_59 : decode cX5_readPiece 59 = .ok (.invokevirtual 59, 3) := by decide +kernel
theorem dX5_readPiece_62 : decode cX5_readPiece 62 = .ok (.ireturn, 1) := by decide +kernel
theorem dX5_readPiece_63 : decode cX5_readPiece 63 = .ok (.aload_n 0, 1) := by decide +kernel
theorem dX5_readPiece_64 : decode cX5_readPiece 64 = .ok (.invokevirtual 41, 3) := by decide +kernel
theorem dX5_readPiece_67 : decode cX5_readPiece 67 = .ok (.aload_n 0, 1) := by decide +kernel
theorem dX5_readPiece_68 : decode cX5_readPiece 68 = .ok (.sipush (-1000), 3) := by decide +kernel
theorem dX5_readPiece_71 : decode cX5_readPiece 71 = .ok (.sipush 1000, 3) := by decide +kernel
theorem dX5_readPiece_74 : decode cX5_readPiece 74 = .ok (.invokevirtual 96, 3) := by decide +kernel
theorem dX5_readPiece_77 : decode cX5_readPiece 77 = .ok (.ifCond .ne 5, 3) := by decide +kernel
theorem dX5_readPiece_80 : decode cX5_readPiece 80 = .ok (.iconst 0, 1) := by decide +kernel
theorem dX5_readPiece_81 : decode cX5_readPiece 81 = .ok (.ireturn, 1) := by decide +kernel
theorem dX5_readPiece_82 : decode cX5_readPiece 82 = .ok (.aload_n 0, 1) := by decide +kernel
theorem dX5_readPiece_83 : decode cX5_readPiece 83 = .ok (.getfield 77, 3) := by decide +kernel
theorem dX5_readPiece_86 : decode cX5_readPiece 86 = .ok (.istore_n 3, 1) := by decide +kernel
theorem dX5_readPiece_87 : decode cX5_readPiece 87 = .ok (.iload_n 2, 1) := by decide +kernel
theorem dX5_readPiece_88 : decode cX5_readPiece 88 = .ok (.iconst 1, 1) := by decide +kernel
theorem dX5_readPiece_89 : decode cX5_readPiece 89 = .ok (.if_icmp .ne 27, 3) := by decide +kernel
theorem dX5_readPiece_92 : decode cX5_readPiece 92 = .ok (.aload_n 0, 1) := by decide +kernel
theorem dX5_readPiece_93 : decode cX5_readPiece 93 = .ok (.ldc 146, 2) := by decide +kernel
theorem dX5_readPiece_95 : decode cX5_readPiece 95 = .ok (.invokevirtual 87, 3) := by decide +kernel
theorem dX5_readPiece_98 : decode cX5_readPiece 98 = .ok (.ifCond .eq 16, 3) := by decide +kernel
theorem dX5_readPiece_101 : decode cX5_readPiece 101 = .ok (.aload_n 0, 1) := by decide +kernel
theorem dX5_readPiece_102 : decode cX5_readPiece 102 = .ok (.sipush (-1000), 3) := by decide +kernel
theorem dX5_readPiece_105 : decode cX5_readPiece 105 = .ok (.sipush 1000, 3) := by decide +kernel
theorem dX5_readPiece_108 : decode cX5_readPiece 108 = .ok (.invokevirtual 96, 3) := by decide +kernel
theorem dX5_readPiece_111 : decode cX5_readPiece 111 = .ok (.ifCond .ne 5, 3) := by decide +kernel
theorem dX5_readPiece_114 : decode cX5_readPiece 114 = .ok (.iconst 0, 1) := by decide +kernel
theorem dX5_readPiece_115 : decode cX5_readPiece 115 = .ok (.ireturn, 1) := by decide +kernel
theorem dX5_readPiece_116 : decode cX5_readPiece 116 = .ok (.iload_n 2, 1) := by decide +kernel
theorem dX5_readPiece_117 : decode cX5_readPiece 117 = .ok (.iconst 2, 1) := by decide +kernel
theorem dX5_readPiece_118 : decode cX5_readPiece 118 = .ok (.if_icmp .ne 24, 3) := by decide +kernel
theorem dX5_readPiece_121 : decode cX5_readPiece 121 = .ok (.aload_n 0, 1) := by decide +kernel
theorem dX5_readPiece_122 : decode cX5_readPiece 122 = .ok (.ldc 148, 2) := by decide +kernel
theorem dX5_readPiece_124 : decode cX5_readPiece 124 = .ok (.invokevirtual 87, 3) := by decide +kernel
theorem dX5_readPiece_127 : decode cX5_readPiece 127 = .ok (.ifCond .eq 13, 3) := by decide +kernel
theorem dX5_readPiece_130 : decode cX5_readPiece 130 = .ok (.aload_n 0, 1) := by decide +kernel
theorem dX5_readPiece_131 : decode cX5_readPiece 131 = .ok (.iconst 2, 1) := by decide +kernel
theorem dX5_readPiece_132 : decode cX5_readPiece 132 = .ok (.bipush 99, 2) := by decide +kernel
theorem dX5_readPiece_134 : decode cX5_readPiece 134 = .ok (.invokevirtual 96, 3) := by decide +kernel
theorem dX5_readPiece_137 : decode cX5_readPiece 137 = .ok (.ifCond .ne 5, 3) := by decide +kernel
theorem dX5_readPiece_140 : decode cX5_readPiece 140 = .ok (.iconst 0, 1) := by decide +kernel
theorem dX5_readPiece_141 : decode cX5_readPiece 141 = .ok (.ireturn, 1) := by decide +kernel
theorem dX5_readPiece_142 : decode cX5_readPiece 142 = .ok (.aload_n 0, 1) := by decide +kernel
theorem dX5_readPiece_143 : decode cX5_readPiece 143 = .ok (.getfield 77, 3) := by decide +kernel
theorem dX5_readPiece_146 : decode cX5_readPiece 146 = .ok (.istore 4, 2) := by decide +kernel
theorem dX5_readPiece_148 : decode cX5_readPiece 148 = .ok (.aload_n 0, 1) := by decide +kernel
theorem dX5_readPiece_149 : decode cX5_readPiece 149 = .ok (.ldc 150, 2) := by decide +kernel
theorem dX5_readPiece_151 : decode cX5_readPiece 151 = .ok (.invokevirtual 87, 3) := by decide +kernel
theorem dX5_readPiece_154 : decode cX5_readPiece 154 = .ok (.ifCond .eq 14, 3) := by decide +kernel
theorem dX5_readPiece_157 : decode cX5_readPiece 157 = .ok (.aload_n 0, 1) := by decide +kernel
theorem dX5_readPiece_158 : decode cX5_readPiece 158 = .ok (.iconst 1, 1) := by decide +kernel
theorem dX5_readPiece_159 : decode cX5_readPiece 159 = .ok (.sipush 500, 3) := by decide +kernel
theorem dX5_readPiece_162 : decode cX5_readPiece 162 = .ok (.invokevirtual 96, 3) := by decide +kernel
theorem dX5_readPiece_165 : decode cX5_readPiece 165 = .ok (.ifCond .ne 5, 3) := by decide +kernel
theorem dX5_readPiece_168 : decode cX5_readPiece 168 = .ok (.iconst 0, 1) := by decide +kernel
theorem dX5_readPiece_169 : decode cX5_readPiece 169 = .ok (.ireturn, 1) := by decide +kernel
theorem dX5_readPiece_170 : decode cX5_readPiece 170 = .ok (.aload_n 1, 1) := by decide +kernel
theorem dX5_readPiece_171 : decode cX5_readPiece 171 = .ok (.iload_n 2, 1) := by decide +kernel
theorem dX5_readPiece_172 : decode cX5_readPiece 172 = .ok (.iload_n 3, 1) := by decide +kernel
theorem dX5_readPiece_173 : decode cX5_readPiece 173 = .ok (.iload 4, 2) := by decide +kernel
theorem dX5_readPiece_175 : decode cX5_readPiece 175 = .ok (.aload_n 0, 1) := by decide +kernel
theorem dX5_readPiece_176 : decode cX5_readPiece 176 = .ok (.getfield 77, 3) := by decide +kernel
theorem dX5_readPiece_179 : decode cX5_readPiece 179 = .ok (.invokevirtual 152, 3) := by decide +kernel
theorem dX5_readPiece_182 : decode cX5_readPiece 182 = .ok (.iconst 1, 1) := by decide +kernel
theorem dX5_readPiece_183 : decode cX5_readPiece 183 = .ok (.ireturn, 1) := by decide +kernel
theorem dX5_takeWord_0 : decode cX5_takeWord 0 = .ok (.aload_n 0, 1) := by decide +kernel
theorem dX5_takeWord_1 : decode cX5_takeWord 1 = .ok (.aload_n 1, 1) := by decide +kernel
theorem dX5_takeWord_2 : decode cX5_takeWord 2 = .ok (.invokevirtual 46, 3) := by decide +kernel
theorem dX5_takeWord_5 : decode cX5_takeWord 5 = .ok (.ifCond .ne 9, 3) := by decide +kernel
theorem dX5_takeWord_8 : decode cX5_takeWord 8 = .ok (.aload_n 0, 1) := by decide +kernel
theorem dX5_takeWord_9 : decode cX5_takeWord 9 = .ok (.iconst 1, 1) := by decide +kernel
theorem dX5_takeWord_10 : decode cX5_takeWord 10 = .ok (.invokevirtual 59, 3) := by decide +kernel
theorem dX5_takeWord_13 : decode cX5_takeWord 13 = .ok (.ireturn, 1) := by decide +kernel
theorem dX5_takeWord_14 : decode cX5_takeWord 14 = .ok (.aload_n 0, 1) := by decide +kernel
theorem dX5_takeWord_15 : decode cX5_takeWord 15 = .ok (.invokevirtual 41, 3) := by decide +kernel
theorem dX5_takeWord_18 : decode cX5_takeWord 18 = .ok (.iconst 1, 1) := by decide +kernel
theorem dX5_takeWord_19 : decode cX5_takeWord 19 = .ok (.ireturn, 1) := by decide +kernel
theorem dX5_takeMark_0 : decode cX5_takeMark 0 = .ok (.aload_n 0, 1) := by decide +kernel
theorem dX5_takeMark_1 : decode cX5_takeMark 1 = .ok (.iload_n 1, 1) := by decide +kernel
theorem dX5_takeMark_2 : decode cX5_takeMark 2 = .ok (.invokevirtual 134, 3) := by decide +kernel
theorem dX5_takeMark_5 : decode cX5_takeMark 5 = .ok (.ifCond .ne 9, 3) := by decide +kernel
theorem dX5_takeMark_8 : decode cX5_takeMark 8 = .ok (.aload_n 0, 1) := by decide +kernel
theorem dX5_takeMark_9 : decode cX5_takeMark 9 = .ok (.iconst 1, 1) := by decide +kernel
theorem dX5_takeMark_10 : decode cX5_takeMark 10 = .ok (.invokevirtual 59, 3) := by decide +kernel
theorem dX5_takeMark_13 : decode cX5_takeMark 13 = .ok (.ireturn, 1) := by decide +kernel
theorem dX5_takeMark_14 : decode cX5_takeMark 14 = .ok (.aload_n 0, 1) := by decide +kernel
theorem dX5_takeMark_15 : decode cX5_takeMark 15 = .ok (.invokevirtual 41, 3) := by decide +kernel
theorem dX5_takeMark_18 : decode cX5_takeMark 18 = .ok (.iconst 1, 1) := by decide +kernel
theorem dX5_takeMark_19 : decode cX5_takeMark 19 = .ok (.ireturn, 1) := by decide +kernel
theorem dX5_takeName_0 : decode cX5_takeName 0 = .ok (.aload_n 0, 1) := by decide +kernel
theorem dX5_takeName_1 : decode cX5_takeName 1 = .ok (.getfield 63, 3) := by decide +kernel
theorem dX5_takeName_4 : decode cX5_takeName 4 = .ok (.iconst 1, 1) := by decide +kernel
theorem dX5_takeName_5 : decode cX5_takeName 5 = .ok (.if_icmp .ne 10, 3) := by decide +kernel
theorem dX5_takeName_8 : decode cX5_takeName 8 = .ok (.aload_n 0, 1) := by decide +kernel
theorem dX5_takeName_9 : decode cX5_takeName 9 = .ok (.invokevirtual 156, 3) := by decide +kernel
theorem dX5_takeName_12 : decode cX5_takeName 12 = .ok (.ifCond .eq 9, 3) := by decide +kernel
theorem dX5_takeName_15 : decode cX5_takeName 15 = .ok (.aload_n 0, 1) := by decide +kernel
theorem dX5_takeName_16 : decode cX5_takeName 16 = .ok (.iconst 1, 1) := by decide +kernel
theorem dX5_takeName_17 : decode cX5_takeName 17 = .ok (.invokevirtual 59, 3) := by decide +kernel
theorem dX5_takeName_20 : decode cX5_takeName 20 = .ok (.ireturn, 1) := by decide +kernel
theorem dX5_takeName_21 : decode cX5_takeName 21 = .ok (.aload_n 0, 1) := by decide +kernel
theorem dX5_takeName_22 : decode cX5_takeName 22 = .ok (.getfield 18, 3) := by decide +kernel
theorem dX5_takeName_25 : decode cX5_takeName 25 = .ok (.aload_n 0, 1) := by decide +kernel
theorem dX5_takeName_26 : decode cX5_takeName 26 = .ok (.getfield 159, 3) := by decide +kernel
theorem dX5_takeName_29 : decode cX5_takeName 29 = .ok (.invokevirtual 162, 3) := by decide +kernel
theorem dX5_takeName_32 : decode cX5_takeName 32 = .ok (.ifCond .eq 9, 3) := by decide +kernel
theorem dX5_takeName_35 : decode cX5_takeName 35 = .ok (.aload_n 0, 1) := by decide +kernel
theorem dX5_takeName_36 : decode cX5_takeName 36 = .ok (.iconst 3, 1) := by decide +kernel
theorem dX5_takeName_37 : decode cX5_takeName 37 = .ok (.invokevirtual 59, 3) := by decide +kernel
theorem dX5_takeName_40 : decode cX5_takeName 40 = .ok (.ireturn, 1) := by decide +kernel
theorem dX5_takeName_41 : decode cX5_takeName 41 = .ok (.aload_n 0, 1) := by decide +kernel
theorem dX5_takeName_42 : decode cX5_takeName 42 = .ok (.aload_n 0, 1) := by decide +kernel
theorem dX5_takeName_43 : decode cX5_takeName 43 = .ok (.getfield 159, 3) := by decide +kernel
theorem dX5_takeName_46 : decode cX5_takeName 46 = .ok (.putfield 77, 3) := by decide +kernel
theorem dX5_takeName_49 : decode cX5_takeName 49 = .ok (.aload_n 0, 1) := by decide +kernel
theorem dX5_takeName_50 : decode cX5_takeName 50 = .ok (.invokevirtual 41, 3) := by decide +kernel
theorem dX5_takeName_53 : decode cX5_takeName 53 = .ok (.iconst 1, 1) := by decide +kernel
theorem dX5_takeName_54 : decode cX5_takeName 54 = .ok (.ireturn, 1) := by decide +kernel
theorem dX5_takeNumber_0 : decode cX5_takeNumber 0 = .ok (.iload_n 1, 1) := by decide +kernel
theorem dX5_takeNumber_1 : decode cX5_takeNumber 1 = .ok (.ifCond .ge 16, 3) := by decide +kernel
theorem dX5_takeNumber_4 : decode cX5_takeNumber 4 = .ok (.aload_n 0, 1) := by decide +kernel
theorem dX5_takeNumber_5 : decode cX5_takeNumber 5 = .ok (.bipush 45, 2) := by decide +kernel
theorem dX5_takeNumber_7 : decode cX5_takeNumber 7 = .ok (.invokevirtual 134, 3) := by decide +kernel
theorem dX5_takeNumber_10 : decode cX5_takeNumber 10 = .ok (.ifCond .eq 7, 3) := by decide +kernel
theorem dX5_takeNumber_13 : decode cX5_takeNumber 13 = .ok (.iconst 1, 1) := by decide +kernel
theorem dX5_takeNumber_14 : decode cX5_takeNumber 14 = .ok (.goto 4, 3) := by decide +kernel
theorem dX5_takeNumber_17 : decode cX5_takeNumber 17 = .ok (.iconst 0, 1) := by decide +kernel
theorem dX5_takeNumber_18 : decode cX5_takeNumber 18 = .ok (.istore_n 3, 1) := by decide +kernel
theorem dX5_takeNumber_19 : decode cX5_takeNumber 19 = .ok (.iload_n 3, 1) := by decide +kernel
theorem dX5_takeNumber_20 : decode cX5_takeNumber 20 = .ok (.ifCond .eq 7, 3) := by decide +kernel
theorem dX5_takeNumber_23 : decode cX5_takeNumber 23 = .ok (.aload_n 0, 1) := by decide +kernel
theorem dX5_takeNumber_24 : decode cX5_takeNumber 24 = .ok (.invokevirtual 41, 3) := by decide +kernel
theorem dX5_takeNumber_27 : decode cX5_takeNumber 27 = .ok (.aload_n 0, 1) := by decide +kernel
theorem dX5_takeNumber_28 : decode cX5_takeNumber 28 = .ok (.getfield 63, 3) := by decide +kernel
theorem dX5_takeNumber_31 : decode cX5_takeNumber 31 = .ok (.iconst 2, 1) := by decide +kernel
theorem dX5_takeNumber_32 : decode cX5_takeNumber 32 = .ok (.if_icmp .eq 9, 3) := by decide +kernel
theorem dX5_takeNumber_35 : decode cX5_takeNumber 35 = .ok (.aload_n 0, 1) := by decide +kernel
theorem dX5_takeNumber_36 : decode cX5_takeNumber 36 = .ok (.iconst 1, 1) := by decide +kernel
theorem dX5_takeNumber_37 : decode cX5_takeNumber 37 = .ok (.invokevirtual 59, 3) := by decide +kernel
theorem dX5_takeNumber_40 : decode cX5_takeNumber 40 = .ok (.ireturn, 1) := by decide +kernel
theorem dX5_takeNumber_41 : decode cX5_takeNumber 41 = .ok (.aload_n 0, 1) := by decide +kernel
theorem dX5_takeNumber_42 : decode cX5_takeNumber 42 = .ok (.iload_n 3, 1) := by decide +kernel
theorem dX5_takeNumber_43 : decode cX5_takeNumber 43 = .ok (.ifCond .eq 11, 3) := by decide +kernel
theorem dX5_takeNumber_46 : decode cX5_takeNumber 46 = .ok (.aload_n 0, 1) := by decide +kernel
theorem dX5_takeNumber_47 : decode cX5_takeNumber 47 = .ok (.getfield 159, 3) := by decide +kernel
theorem dX5_takeNumber_50 : decode cX5_takeNumber 50 = .ok (.ineg, 1) := by decide +kernel
theorem dX5_takeNumber_51 : decode cX5_takeNumber 51 = .ok (.goto 7, 3) := by decide +kernel
theorem dX5_takeNumber_54 : decode cX5_takeNumber 54 = .ok (.aload_n 0, 1) := by decide +kernel
theorem dX5_takeNumber_55 : decode cX5_takeNumber 55 = .ok (.getfield 159, 3) := by decide +kernel
theorem dX5_takeNumber_58 : decode cX5_takeNumber 58 = .ok (.putfield 77, 3) := by decide +kernel
theorem dX5_takeNumber_61 : decode cX5_takeNumber 61 = .ok (.aload_n 0, 1) := by decide +kernel
theorem dX5_takeNumber_62 : decode cX5_takeNumber 62 = .ok (.getfield 77, 3) := by decide +kernel
theorem dX5_takeNumber_65 : decode cX5_takeNumber 65 = .ok (.iload_n 1, 1) := by decide +kernel
theorem dX5_takeNumber_66 : decode cX5_takeNumber 66 = .ok (.if_icmp .lt 11, 3) := by decide +kernel
theorem dX5_takeNumber_69 : decode cX5_takeNumber 69 = .ok (.aload_n 0, 1) := by decide +kernel
theorem dX5_takeNumber_70 : decode cX5_takeNumber 70 = .ok (.getfield 77, 3) := by decide +kernel
theorem dX5_takeNumber_73 : decode cX5_takeNumber 73 = .ok (.iload_n 2, 1) := by decide +kernel
theorem dX5_takeNumber_74 : decode cX5_takeNumber 74 = .ok (.if_icmp .le 9, 3) := by decide +kernel
theorem dX5_takeNumber_77 : decode cX5_takeNumber 77 = .ok (.aload_n 0, 1) := by decide +kernel
theorem dX5_takeNumber_78 : decode cX5_takeNumber 78 = .ok (.iconst 2, 1) := by decide +kernel
theorem dX5_takeNumber_79 : decode cX5_takeNumber 79 = .ok (.invokevirtual 59, 3) := by decide +kernel
theorem dX5_takeNumber_82 : decode cX5_takeNumber 82 = .ok (.ireturn, 1) := by decide +kernel
theorem dX5_takeNumber_83 : decode cX5_takeNumber 83 = .ok (.aload_n 0, 1) := by decide +kernel
theorem dX5_takeNumber_84 : decode cX5_takeNumber 84 = .ok (.invokevirtual 41, 3) := by decide +kernel
theorem dX5_takeNumber_87 : decode cX5_takeNumber 87 = .ok (.iconst 1, 1) := by decide +kernel
theorem dX5_takeNumber_88 : decode cX5_takeNumber 88 = .ok (.ireturn, 1) := by decide +kernel
theorem dX5_isReserved_0 : decode cX5_isReserved 0 = .ok (.aload_n 0, 1) := by decide +kernel
theorem dX5_isReserved_1 : decode cX5_isReserved 1 = .ok (.ldc 44, 2) := by decide +kernel
theorem dX5_isReserved_3 : decode cX5_isReserved 3 = .ok (.invokevirtual 46, 3) := by decide +kernel
theorem dX5_isReserved_6 : decode cX5_isReserved 6 = .ok (.ifCond .ne 102, 3) := by decide +kernel
theorem dX5_isReserved_9 : decode cX5_isReserved 9 = .ok (.aload_n 0, 1) := by decide +kernel
theorem dX5_isReserved_10 : decode cX5_isReserved 10 = .ok (.ldc 54, 2) := by decide +kernel
theorem dX5_isReserved_12 : decode cX5_isReserved 12 = .ok (.invokevirtual 46, 3) := by decide +kernel
theorem dX5_isReserved_15 : decode cX5_isReserved 15 = .ok (.ifCond .ne 93, 3) := by decide +kernel
theorem dX5_isReserved_18 : decode cX5_isReserved 18 = .ok (.aload_n 0, 1) := by decide +kernel
theorem dX5_isReserved_19 : decode cX5_isReserved 19 = .ok (.ldc 85, 2) := by decide +kernel
theorem dX5_isReserved_21 : decode cX5_isReserved 21 = .ok (.invokevirtual 46, 3) := by decide +kernel
theorem dX5_isReserved_24 : decode cX5_isReserved 24 = .ok (.ifCond .ne 84, 3) := by decide +kernel
theorem dX5_isReserved_27 : decode cX5_isReserved 27 = .ok (.aload_n 0, 1) := by decide +kernel
theorem dX5_isReserved_28 : decode cX5_isReserved 28 = .ok (.ldc 94, 2) := by decide +kernel
theorem dX5_isReserved_30 : decode cX5_isReserved 30 = .ok (.invokevirtual 46, 3) := by decide +kernel
theorem dX5_isReserved_33 : decode cX5_isReserved 33 = .ok (.ifCond .ne 75, 3) := by decide +kernel
theorem dX5_isReserved_36 : decode cX5_isReserved 36 = .ok (.aload_n 0, 1) := by decide +kernel
theorem dX5_isReserved_37 : decode cX5_isReserved 37 = .ok (.ldc 102, 2) := by decide +kernel
theorem dX5_isReserved_39 : decode cX5_isReserved 39 = .ok (.invokevirtual 46, 3) := by decide +kernel
theorem dX5_isReserved_42 : decode cX5_isReserved 42 = .ok (.ifCond .ne 66, 3) := by decide +kernel
theorem dX5_isReserved_45 : decode cX5_isReserved 45 = .ok (.aload_n 0, 1) := by decide +kernel
theorem dX5_isReserved_46 : decode cX5_isReserved 46 = .ok (.ldc 107, 2) := by decide +kernel
theorem dX5_isReserved_48 : decode cX5_isReserved 48 = .ok (.invokevirtual 46, 3) := by decide +kernel
theorem dX5_isReserved_51 : decode cX5_isReserved 51 = .ok (.ifCond .ne 57, 3) := by decide +kernel
theorem dX5_isReserved_54 : decode cX5_isReserved 54 = .ok (.aload_n 0, 1) := by decide +kernel
theorem dX5_isReserved_55 : decode cX5_isReserved 55 = .ok (.ldc 137, 2) := by decide +kernel
theorem dX5_isReserved_57 : decode cX5_isReserved 57 = .ok (.invokevirtual 46, 3) := by decide +kernel
theorem dX5_isReserved_60 : decode cX5_isReserved 60 = .ok (.ifCond .ne 48, 3) := by decide +kernel
theorem dX5_isReserved_63 : decode cX5_isReserved 63 = .ok (.aload_n 0, 1) := by decide +kernel
theorem dX5_isReserved_64 : decode cX5_isReserved 64 = .ok (.ldc 139, 2) := by decide +kernel
theorem dX5_isReserved_66 : decode cX5_isReserved 66 = .ok (.invokevirtual 46, 3) := by decide +kernel
theorem dX5_isReserved_69 : decode cX5_isReserved 69 = .ok (.ifCond .ne 39, 3) := by decide +kernel
theorem dX5_isReserved_72 : decode cX5_isReserved 72 = .ok (.aload_n 0, 1) := by decide +kernel
theorem dX5_isReserved_73 : decode cX5_isReserved 73 = .ok (.ldc 141, 2) := by decide +kernel
theorem dX5_isReserved_75 : decode cX5_isReserved 75 = .ok (.invokevirtual 46, 3) := by decide +kernel
theorem dX5_isReserved_78 : decode cX5_isReserved 78 = .ok (.ifCond .ne 30, 3) := by decide +kernel
theorem dX5_isReserved_81 : decode cX5_isReserved 81 = .ok (.aload_n 0, 1) := by decide +kernel
theorem dX5_isReserved_82 : decode cX5_isReserved 82 = .ok (.ldc 146, 2) := by decide +kernel
theorem dX5_isReserved_84 : decode cX5_isReserved 84 = .ok (.invokevirtual 46, 3) := by decide +kernel
theorem dX5_isReserved_87 : decode cX5_isReserved 87 = .ok (.ifCond .ne 21, 3) := by decide +kernel
theorem dX5_isReserved_90 : decode cX5_isReserved 90 = .ok (.aload_n 0, 1) := by decide +kernel
theorem dX5_isReserved_91 : decode cX5_isReserved 91 = .ok (.ldc 148, 2) := by decide +kernel
theorem dX5_isReserved_93 : decode cX5_isReserved 93 = .ok (.invokevirtual 46, 3) := by decide +kernel
theorem dX5_isReserved_96 : decode cX5_isReserved 96 = .ok (.ifCond .ne 12, 3) := by decide +kernel
theorem dX5_isReserved_99 : decode cX5_isReserved 99 = .ok (.aload_n 0, 1) := by decide +kernel
theorem dX5_isReserved_100 : decode cX5_isReserved 100 = .ok (.ldc 150, 2) := by decide +kernel
theorem dX5_isReserved_102 : decode cX5_isReserved 102 = .ok (.invokevirtual 46, 3) := by decide +kernel
theorem dX5_isReserved_105 : decode cX5_isReserved 105 = .ok (.ifCond .eq 7, 3) := by decide +kernel
theorem dX5_isReserved_108 : decode cX5_isReserved 108 = .ok (.iconst 1, 1) := by decide +kernel
theorem dX5_isReserved_109 : decode cX5_isReserved 109 = .ok (.goto 4, 3) := by decide +kernel
theorem dX5_isReserved_112 : decode cX5_isReserved 112 = .ok (.iconst 0, 1) := by decide +kernel
theorem dX5_isReserved_113 : decode cX5_isReserved 113 = .ok (.ireturn, 1) := by decide +kernel
theorem dX5_isWord_0 : decode cX5_isWord 0 = .ok (.aload_n 0, 1) := by decide +kernel
theorem dX5_isWord_1 : decode cX5_isWord 1 = .ok (.getfield 63, 3) := by decide +kernel
theorem dX5_isWord_4 : decode cX5_isWord 4 = .ok (.iconst 1, 1) := by decide +kernel
theorem dX5_isWord_5 : decode cX5_isWord 5 = .ok (.if_icmp .ne 18, 3) := by decide +kernel
theorem dX5_isWord_8 : decode cX5_isWord 8 = .ok (.aload_n 0, 1) := by decide +kernel
theorem dX5_isWord_9 : decode cX5_isWord 9 = .ok (.getfield 159, 3) := by decide +kernel
theorem dX5_isWord_12 : decode cX5_isWord 12 = .ok (.aload_n 1, 1) := by decide +kernel
theorem dX5_isWord_13 : decode cX5_isWord 13 = .ok (.invokestatic 165, 3) := by decide +kernel
theorem dX5_isWord_16 : decode cX5_isWord 16 = .ok (.if_icmp .ne 7, 3) := by decide +kernel
theorem dX5_isWord_19 : decode cX5_isWord 19 = .ok (.iconst 1, 1) := by decide +kernel
theorem dX5_isWord_20 : decode cX5_isWord 20 = .ok (.goto 4, 3) := by decide +kernel
theorem dX5_isWord_23 : decode cX5_isWord 23 = .ok (.iconst 0, 1) := by decide +kernel
theorem dX5_isWord_24 : decode cX5_isWord 24 = .ok (.ireturn, 1) := by decide +kernel
theorem dX5_isMark_0 : decode cX5_isMark 0 = .ok (.aload_n 0, 1) := by decide +kernel
theorem dX5_isMark_1 : decode cX5_isMark 1 = .ok (.getfield 63, 3) := by decide +kernel
theorem dX5_isMark_4 : decode cX5_isMark 4 = .ok (.iconst 3, 1) := by decide +kernel
theorem dX5_isMark_5 : decode cX5_isMark 5 = .ok (.if_icmp .ne 15, 3) := by decide +kernel
theorem dX5_isMark_8 : decode cX5_isMark 8 = .ok (.aload_n 0, 1) := by decide +kernel
theorem dX5_isMark_9 : decode cX5_isMark 9 = .ok (.getfield 159, 3) := by decide +kernel
theorem dX5_isMark_12 : decode cX5_isMark 12 = .ok (.iload_n 1, 1) := by decide +kernel
theorem dX5_isMark_13 : decode cX5_isMark 13 = .ok (.if_icmp .ne 7, 3) := by decide +kernel
theorem dX5_isMark_16 : decode cX5_isMark 16 = .ok (.iconst 1, 1) := by decide +kernel
theorem dX5_isMark_17 : decode cX5_isMark 17 = .ok (.goto 4, 3) := by decide +kernel
theorem dX5_isMark_20 : decode cX5_isMark 20 = .ok (.iconst 0, 1) := by decide +kernel
theorem dX5_isMark_21 : decode cX5_isMark 21 = .ok (.ireturn, 1) := by decide +kernel
theorem dX5_failed_0 : decode cX5_failed 0 = .ok (.aload_n 0, 1) := by decide +kernel
theorem dX5_failed_1 : decode cX5_failed 1 = .ok (.iload_n 1, 1) := by decide +kernel
theorem dX5_failed_2 : decode cX5_failed 2 = .ok (.aload_n 0, 1) := by decide +kernel
theorem dX5_failed_3 : decode cX5_failed 3 = .ok (.getfield 112, 3) := by decide +kernel
theorem dX5_failed_6 : decode cX5_failed 6 = .ok (.invokevirtual 118, 3) := by decide +kernel
theorem dX5_failed_9 : decode cX5_failed 9 = .ok (.ireturn, 1) := by decide +kernel
theorem dX5_failedAt_0 : decode cX5_failedAt 0 = .ok (.aload_n 0, 1) := by decide +kernel
theorem dX5_failedAt_1 : decode cX5_failedAt 1 = .ok (.iload_n 1, 1) := by decide +kernel
theorem dX5_failedAt_2 : decode cX5_failedAt 2 = .ok (.putfield 38, 3) := by decide +kernel
theorem dX5_failedAt_5 : decode cX5_failedAt 5 = .ok (.aload_n 0, 1) := by decide +kernel
theorem dX5_failedAt_6 : decode cX5_failedAt 6 = .ok (.iload_n 2, 1) := by decide +kernel
theorem dX5_failedAt_7 : decode cX5_failedAt 7 = .ok (.putfield 169, 3) := by decide +kernel
theorem dX5_failedAt_10 : decode cX5_failedAt 10 = .ok (.iconst 0, 1) := by decide +kernel
theorem dX5_failedAt_11 : decode cX5_failedAt 11 = .ok (.ireturn, 1) := by decide +kernel
theorem dX5_step_0 : decode cX5_step 0 = .ok (.aload_n 0, 1) := by decide +kernel
theorem dX5_step_1 : decode cX5_step 1 = .ok (.getfield 35, 3) := by decide +kernel
theorem dX5_step_4 : decode cX5_step 4 = .ok (.aload_n 0, 1) := by decide +kernel
theorem dX5_step_5 : decode cX5_step 5 = .ok (.getfield 31, 3) := by decide +kernel
theorem dX5_step_8 : decode cX5_step 8 = .ok (.if_icmp .ge 30, 3) := by decide +kernel
theorem dX5_step_11 : decode cX5_step 11 = .ok (.aload_n 0, 1) := by decide +kernel
theorem dX5_step_12 : decode cX5_step 12 = .ok (.getfield 9, 3) := by decide +kernel
theorem dX5_step_15 : decode cX5_step 15 = .ok (.aload_n 0, 1) := by decide +kernel
theorem dX5_step_16 : decode cX5_step 16 = .ok (.getfield 35, 3) := by decide +kernel
theorem dX5_step_19 : decode cX5_step 19 = .ok (.baload, 1) := by decide +kernel
theorem dX5_step_20 : decode cX5_step 20 = .ok (.bipush 32, 2) := by decide +kernel
theorem dX5_step_22 : decode cX5_step 22 = .ok (.if_icmp .ne 16, 3) := by decide +kernel
theorem dX5_step_25 : decode cX5_step 25 = .ok (.aload_n 0, 1) := by decide +kernel
theorem dX5_step_26 : decode cX5_step 26 = .ok (.dup, 1) := by decide +kernel
theorem dX5_step_27 : decode cX5_step 27 = .ok (.getfield 35, 3) := by decide +kernel
theorem dX5_step_30 : decode cX5_step 30 = .ok (.iconst 1, 1) := by decide +kernel
theorem dX5_step_31 : decode cX5_step 31 = .ok (.iadd, 1) := by decide +kernel
theorem dX5_step_32 : decode cX5_step 32 = .ok (.putfield 35, 3) := by decide +kernel
theorem dX5_step_35 : decode cX5_step 35 = .ok (.goto (-35), 3) := by decide +kernel
theorem dX5_step_38 : decode cX5_step 38 = .ok (.aload_n 0, 1) := by decide +kernel
theorem dX5_step_39 : decode cX5_step 39 = .ok (.aload_n 0, 1) := by decide +kernel
theorem dX5_step_40 : decode cX5_step 40 = .ok (.getfield 35, 3) := by decide +kernel
theorem dX5_step_43 : decode cX5_step 43 = .ok (.putfield 112, 3) := by decide +kernel
theorem dX5_step_46 : decode cX5_step 46 = .ok (.aload_n 0, 1) := by decide +kernel
theorem dX5_step_47 : decode cX5_step 47 = .ok (.getfield 35, 3) := by decide +kernel
theorem dX5_step_50 : decode cX5_step 50 = .ok (.aload_n 0, 1) := by decide +kernel
theorem dX5_step_51 : decode cX5_step 51 = .ok (.getfield 31, 3) := by decide +kernel
theorem dX5_step_54 : decode cX5_step 54 = .ok (.if_icmp .lt 11, 3) := by decide +kernel
theorem dX5_step_57 : decode cX5_step 57 = .ok (.aload_n 0, 1) := by decide +kernel
theorem dX5_step_58 : decode cX5_step 58 = .ok (.iconst 0, 1) := by decide +kernel
theorem dX5_step_59 : decode cX5_step 59 = .ok (.putfield 63, 3) := by decide +kernel
theorem dX5_step_62 : decode cX5_step 62 = .ok (.goto 132, 3) := by decide +kernel
theorem dX5_step_65 : decode cX5_step 65 = .ok (.aload_n 0, 1) := by decide +kernel
theorem dX5_step_66 : decode cX5_step 66 = .ok (.getfield 9, 3) := by decide +kernel
theorem dX5_step_69 : decode cX5_step 69 = .ok (.aload_n 0, 1) := by decide +kernel
theorem dX5_step_70 : decode cX5_step 70 = .ok (.getfield 35, 3) := by decide +kernel
theorem dX5_step_73 : decode cX5_step 73 = .ok (.baload, 1) := by decide +kernel
theorem dX5_step_74 : decode cX5_step 74 = .ok (.bipush 97, 2) := by decide +kernel
theorem dX5_step_76 : decode cX5_step 76 = .ok (.if_icmp .lt 24, 3) := by decide +kernel
theorem dX5_step_79 : decode cX5_step 79 = .ok (.aload_n 0, 1) := by decide +kernel
theorem dX5_step_80 : decode cX5_step 80 = .ok (.getfield 9, 3) := by decide +kernel
theorem dX5_step_83 : decode cX5_step 83 = .ok (.aload_n 0, 1) := by decide +kernel
theorem dX5_step_84 : decode cX5_step 84 = .ok (.getfield 35, 3) := by decide +kernel
theorem dX5_step_87 : decode cX5_step 87 = .ok (.baload, 1) := by decide +kernel
theorem dX5_step_88 : decode cX5_step 88 = .ok (.bipush 122, 2) := by decide +kernel
theorem dX5_step_90 : decode cX5_step 90 = .ok (.if_icmp .gt 10, 3) := by decide +kernel
theorem dX5_step_93 : decode cX5_step 93 = .ok (.aload_n 0, 1) := by decide +kernel
theorem dX5_step_94 : decode cX5_step 94 = .ok (.invokevirtual 172, 3) := by decide +kernel
theorem dX5_step_97 : decode cX5_step 97 = .ok (.goto 97, 3) := by decide +kernel
theorem dX5_step_100 : decode cX5_step 100 = .ok (.aload_n 0, 1) := by decide +kernel
theorem dX5_step_101 : decode cX5_step 101 = .ok (.getfield 9, 3) := by decide +kernel
theorem dX5_step_104 : decode cX5_step 104 = .ok (.aload_n 0, 1) := by decide +kernel
theorem dX5_step_105 : decode cX5_step 105 = .ok (.getfield 35, 3) := by decide +kernel
theorem dX5_step_108 : decode cX5_step 108 = .ok (.baload, 1) := by decide +kernel
theorem dX5_step_109 : decode cX5_step 109 = .ok (.bipush 48, 2) := by decide +kernel
theorem dX5_step_111 : decode cX5_step 111 = .ok (.if_icmp .lt 24, 3) := by decide +kernel
theorem dX5_step_114 : decode cX5_step 114 = .ok (.aload_n 0, 1) := by decide +kernel
theorem dX5_step_115 : decode cX5_step 115 = .ok (.getfield 9, 3) := by decide +kernel
theorem dX5_step_118 : decode cX5_step 118 = .ok (.aload_n 0, 1) := by decide +kernel
theorem dX5_step_119 : decode cX5_step 119 = .ok (.getfield 35, 3) := by decide +kernel
theorem dX5_step_122 : decode cX5_step 122 = .ok (.baload, 1) := by decide +kernel
theorem dX5_step_123 : decode cX5_step 123 = .ok (.bipush 57, 2) := by decide +kernel
theorem dX5_step_125 : decode cX5_step 125 = .ok (.if_icmp .gt 10, 3) := by decide +kernel
theorem dX5_step_128 : decode cX5_step 128 = .ok (.aload_n 0, 1) := by decide +kernel
theorem dX5_step_129 : decode cX5_step 129 = .ok (.invokevirtual 175, 3) := by decide +kernel
theorem dX5_step_132 : decode cX5_step 132 = .ok (.goto 62, 3) := by decide +kernel
theorem dX5_step_135 : decode cX5_step 135 = .ok (.aload_n 0, 1) := by decide +kernel
theorem dX5_step_136 : decode cX5_step 136 = .ok (.aload_n 0, 1) := by decide +kernel
theorem dX5_step_137 : decode cX5_step 137 = .ok (.getfield 9, 3) := by decide +kernel
theorem dX5_step_140 : decode cX5_step 140 = .ok (.aload_n 0, 1) := by decide +kernel
theorem dX5_step_141 : decode cX5_step 141 = .ok (.getfield 35, 3) := by decide +kernel
theorem dX5_step_144 : decode cX5_step 144 = .ok (.baload, 1) := by decide +kernel
theorem dX5_step_145 : decode cX5_step 145 = .ok (.putfield 159, 3) := by decide +kernel
theorem dX5_step_148 : decode cX5_step 148 = .ok (.aload_n 0, 1) := by decide +kernel
theorem dX5_step_149 : decode cX5_step 149 = .ok (.aload_n 0, 1) := by decide +kernel
theorem dX5_step_150 : decode cX5_step 150 = .ok (.getfield 159, 3) := by decide +kernel
theorem dX5_step_153 : decode cX5_step 153 = .ok (.bipush 59, 2) := by decide +kernel
theorem dX5_step_155 : decode cX5_step 155 = .ok (.if_icmp .eq 21, 3) := by decide +kernel
theorem dX5_step_158 : decode cX5_step 158 = .ok (.aload_n 0, 1) := by decide +kernel
theorem dX5_step_159 : decode cX5_step 159 = .ok (.getfield 159, 3) := by decide +kernel
theorem dX5_step_162 : decode cX5_step 162 = .ok (.bipush 44, 2) := by decide +kernel
theorem dX5_step_164 : decode cX5_step 164 = .ok (.if_icmp .eq 12, 3) := by decide +kernel
theorem dX5_step_167 : decode cX5_step 167 = .ok (.aload_n 0, 1) := by decide +kernel
theorem dX5_step_168 : decode cX5_step 168 = .ok (.getfield 159, 3) := by decide +kernel
theorem dX5_step_171 : decode cX5_step 171 = .ok (.bipush 45, 2) := by decide +kernel
theorem dX5_step_173 : decode cX5_step 173 = .ok (.if_icmp .ne 7, 3) := by decide +kernel
theorem dX5_step_176 : decode cX5_step 176 = .ok (.iconst 3, 1) := by decide +kernel
theorem dX5_step_177 : decode cX5_step 177 = .ok (.goto 4, 3) := by decide +kernel
theorem dX5_step_180 : decode cX5_step 180 = .ok (.iconst 4, 1) := by decide +kernel
theorem dX5_step_181 : decode cX5_step 181 = .ok (.putfield 63, 3) := by decide +kernel
theorem dX5_step_184 : decode cX5_step 184 = .ok (.aload_n 0, 1) := by decide +kernel
theorem dX5_step_185 : decode cX5_step 185 = .ok (.dup, 1) := by decide +kernel
theorem dX5_step_186 : decode cX5_step 186 = .ok (.getfield 35, 3) := by decide +kernel
theorem dX5_step_189 : decode cX5_step 189 = .ok (.iconst 1, 1) := by decide +kernel
theorem dX5_step_190 : decode cX5_step 190 = .ok (.iadd, 1) := by decide +kernel
theorem dX5_step_191 : decode cX5_step 191 = .ok (.putfield 35, 3) := by decide +kernel
theorem dX5_step_194 : decode cX5_step 194 = .ok (.return_, 1) := by decide +kernel
theorem dX5_scanWord_0 : decode cX5_scanWord 0 = .ok (.iconst 0, 1) := by decide +kernel
theorem dX5_scanWord_1 : decode cX5_scanWord 1 = .ok (.istore_n 1, 1) := by decide +kernel
theorem dX5_scanWord_2 : decode cX5_scanWord 2 = .ok (.aload_n 0, 1) := by decide +kernel
theorem dX5_scanWord_3 : decode cX5_scanWord 3 = .ok (.iconst 0, 1) := by decide +kernel
theorem dX5_scanWord_4 : decode cX5_scanWord 4 = .ok (.putfield 159, 3) := by decide +kernel
theorem dX5_scanWord_7 : decode cX5_scanWord 7 = .ok (.aload_n 0, 1) := by decide +kernel
theorem dX5_scanWord_8 : decode cX5_scanWord 8 = .ok (.getfield 35, 3) := by decide +kernel
theorem dX5_scanWord_11 : decode cX5_scanWord 11 = .ok (.aload_n 0, 1) := by decide +kernel
theorem dX5_scanWord_12 : decode cX5_scanWord 12 = .ok (.getfield 31, 3) := by decide +kernel
theorem dX5_scanWord_15 : decode cX5_scanWord 15 = .ok (.if_icmp .ge 80, 3) := by decide +kernel
theorem dX5_scanWord_18 : decode cX5_scanWord 18 = .ok (.aload_n 0, 1) := by decide +kernel
theorem dX5_scanWord_19 : decode cX5_scanWord 19 = .ok (.getfield 9, 3) := by decide +kernel
theorem dX5_scanWord_22 : decode cX5_scanWord 22 = .ok (.aload_n 0, 1) := by decide +kernel
theorem dX5_scanWord_23 : decode cX5_scanWord 23 = .ok (.getfield 35, 3) := by decide +kernel
theorem dX5_scanWord_26 : decode cX5_scanWord 26 = .ok (.baload, 1) := by decide +kernel
theorem dX5_scanWord_27 : decode cX5_scanWord 27 = .ok (.bipush 97, 2) := by decide +kernel
theorem dX5_scanWord_29 : decode cX5_scanWord 29 = .ok (.if_icmp .lt 66, 3) := by decide +kernel
theorem dX5_scanWord_32 : decode cX5_scanWord 32 = .ok (.aload_n 0, 1) := by decide +kernel
theorem dX5_scanWord_33 : decode cX5_scanWord 33 = .ok (.getfield 9, 3) := by decide +kernel
theorem dX5_scanWord_36 : decode cX5_scanWord 36 = .ok (.aload_n 0, 1) := by decide +kernel
theorem dX5_scanWord_37 : decode cX5_scanWord 37 = .ok (.getfield 35, 3) := by decide +kernel
theorem dX5_scanWord_40 : decode cX5_scanWord 40 = .ok (.baload, 1) := by decide +kernel
theorem dX5_scanWord_41 : decode cX5_scanWord 41 = .ok (.bipush 122, 2) := by decide +kernel
theorem dX5_scanWord_43 : decode cX5_scanWord 43 = .ok (.if_icmp .gt 52, 3) := by decide +kernel
theorem dX5_scanWord_46 : decode cX5_scanWord 46 = .ok (.iload_n 1, 1) := by decide +kernel
theorem dX5_scanWord_47 : decode cX5_scanWord 47 = .ok (.bipush 6, 2) := by decide +kernel
theorem dX5_scanWord_49 : decode cX5_scanWord 49 = .ok (.if_icmp .ge 30, 3) := by decide +kernel
theorem dX5_scanWord_52 : decode cX5_scanWord 52 = .ok (.aload_n 0, 1) := by decide +kernel
theorem dX5_scanWord_53 : decode cX5_scanWord 53 = .ok (.dup, 1) := by decide +kernel
theorem dX5_scanWord_54 : decode cX5_scanWord 54 = .ok (.getfield 159, 3) := by decide +kernel
theorem dX5_scanWord_57 : decode cX5_scanWord 57 = .ok (.aload_n 0, 1) := by decide +kernel
theorem dX5_scanWord_58 : decode cX5_scanWord 58 = .ok (.getfield 9, 3) := by decide +kernel
theorem dX5_scanWord_61 : decode cX5_scanWord 61 = .ok (.aload_n 0, 1) := by decide +kernel
theorem dX5_scanWord_62 : decode cX5_scanWord 62 = .ok (.getfield 35, 3) := by decide +kernel
theorem dX5_scanWord_65 : decode cX5_scanWord 65 = .ok (.baload, 1) := by decide +kernel
theorem dX5_scanWord_66 : decode cX5_scanWord 66 = .ok (.bipush 97, 2) := by decide +kernel
theorem dX5_scanWord_68 : decode cX5_scanWord 68 = .ok (.isub, 1) := by decide +kernel
theorem dX5_scanWord_69 : decode cX5_scanWord 69 = .ok (.iconst 1, 1) := by decide +kernel
theorem dX5_scanWord_70 : decode cX5_scanWord 70 = .ok (.iadd, 1) := by decide +kernel
theorem dX5_scanWord_71 : decode cX5_scanWord 71 = .ok (.iconst 5, 1) := by decide +kernel
theorem dX5_scanWord_72 : decode cX5_scanWord 72 = .ok (.iload_n 1, 1) := by decide +kernel
theorem dX5_scanWord_73 : decode cX5_scanWord 73 = .ok (.imul, 1) := by decide +kernel
theorem dX5_scanWord_74 : decode cX5_scanWord 74 = .ok (.ishl, 1) := by decide +kernel
theorem dX5_scanWord_75 : decode cX5_scanWord 75 = .ok (.ior, 1) := by decide +kernel
theorem dX5_scanWord_76 : decode cX5_scanWord 76 = .ok (.putfield 159, 3) := by decide +kernel
theorem dX5_scanWord_79 : decode cX5_scanWord 79 = .ok (.iinc 1 1, 3) := by decide +kernel
theorem dX5_scanWord_82 : decode cX5_scanWord 82 = .ok (.aload_n 0, 1) := by decide +kernel
theorem dX5_scanWord_83 : decode cX5_scanWord 83 = .ok (.dup, 1) := by decide +kernel
theorem dX5_scanWord_84 : decode cX5_scanWord 84 = .ok (.getfield 35, 3) := by decide +kernel
theorem dX5_scanWord_87 : decode cX5_scanWord 87 = .ok (.iconst 1, 1) := by decide +kernel
theorem dX5_scanWord_88 : decode cX5_scanWord 88 = .ok (.iadd, 1) := by decide +kernel
theorem dX5_scanWord_89 : decode cX5_scanWord 89 = .ok (.putfield 35, 3) := by decide +kernel
theorem dX5_scanWord_92 : decode cX5_scanWord 92 = .ok (.goto (-85), 3) := by decide +kernel
theorem dX5_scanWord_95 : decode cX5_scanWord 95 = .ok (.aload_n 0, 1) := by decide +kernel
theorem dX5_scanWord_96 : decode cX5_scanWord 96 = .ok (.iload_n 1, 1) := by decide +kernel
theorem dX5_scanWord_97 : decode cX5_scanWord 97 = .ok (.bipush 6, 2) := by decide +kernel
theorem dX5_scanWord_99 : decode cX5_scanWord 99 = .ok (.if_icmp .le 7, 3) := by decide +kernel
theorem dX5_scanWord_102 : decode cX5_scanWord 102 = .ok (.iconst 4, 1) := by decide +kernel
theorem dX5_scanWord_103 : decode cX5_scanWord 103 = .ok (.goto 4, 3) := by decide +kernel
theorem dX5_scanWord_106 : decode cX5_scanWord 106 = .ok (.iconst 1, 1) := by decide +kernel
theorem dX5_scanWord_107 : decode cX5_scanWord 107 = .ok (.putfield 63, 3) := by decide +kernel
theorem dX5_scanWord_110 : decode cX5_scanWord 110 = .ok (.return_, 1) := by decide +kernel
theorem dX5_scanWhole_0 : decode cX5_scanWhole 0 = .ok (.iconst 0, 1) := by decide +kernel
theorem dX5_scanWhole_1 : decode cX5_scanWhole 1 = .ok (.istore_n 1, 1) := by decide +kernel
theorem dX5_scanWhole_2 : decode cX5_scanWhole 2 = .ok (.aload_n 0, 1) := by decide +kernel
theorem dX5_scanWhole_3 : decode cX5_scanWhole 3 = .ok (.iconst 0, 1) := by decide +kernel
theorem dX5_scanWhole_4 : decode cX5_scanWhole 4 = .ok (.putfield 159, 3) := by decide +kernel
theorem dX5_scanWhole_7 : decode cX5_scanWhole 7 = .ok (.aload_n 0, 1) := by decide +kernel
theorem dX5_scanWhole_8 : decode cX5_scanWhole 8 = .ok (.getfield 35, 3) := by decide +kernel
theorem dX5_scanWhole_11 : decode cX5_scanWhole 11 = .ok (.aload_n 0, 1) := by decide +kernel
theorem dX5_scanWhole_12 : decode cX5_scanWhole 12 = .ok (.getfield 31, 3) := by decide +kernel
theorem dX5_scanWhole_15 : decode cX5_scanWhole 15 = .ok (.if_icmp .ge 76, 3) := by decide +kernel
theorem dX5_scanWhole_18 : decode cX5_scanWhole 18 = .ok (.aload_n 0, 1) := by decide +kernel
theorem dX5_scanWhole_19 : decode cX5_scanWhole 19 = .ok (.getfield 9, 3) := by decide +kernel
theorem dX5_scanWhole_22 : decode cX5_scanWhole 22 = .ok (.aload_n 0, 1) := by decide +kernel
theorem dX5_scanWhole_23 : decode cX5_scanWhole 23 = .ok (.getfield 35, 3) := by decide +kernel
theorem dX5_scanWhole_26 : decode cX5_scanWhole 26 = .ok (.baload, 1) := by decide +kernel
theorem dX5_scanWhole_27 : decode cX5_scanWhole 27 = .ok (.bipush 48, 2) := by decide +kernel
theorem dX5_scanWhole_29 : decode cX5_scanWhole 29 = .ok (.if_icmp .lt 62, 3) := by decide +kernel
theorem dX5_scanWhole_32 : decode cX5_scanWhole 32 = .ok (.aload_n 0, 1) := by decide +kernel
theorem dX5_scanWhole_33 : decode cX5_scanWhole 33 = .ok (.getfield 9, 3) := by decide +kernel
theorem dX5_scanWhole_36 : decode cX5_scanWhole 36 = .ok (.aload_n 0, 1) := by decide +kernel
theorem dX5_scanWhole_37 : decode cX5_scanWhole 37 = .ok (.getfield 35, 3) := by decide +kernel
theorem dX5_scanWhole_40 : decode cX5_scanWhole 40 = .ok (.baload, 1) := by decide +kernel
theorem dX5_scanWhole_41 : decode cX5_scanWhole 41 = .ok (.bipush 57, 2) := by decide +kernel
theorem dX5_scanWhole_43 : decode cX5_scanWhole 43 = .ok (.if_icmp .gt 48, 3) := by decide +kernel
theorem dX5_scanWhole_46 : decode cX5_scanWhole 46 = .ok (.iload_n 1, 1) := by decide +kernel
theorem dX5_scanWhole_47 : decode cX5_scanWhole 47 = .ok (.iconst 4, 1) := by decide +kernel
theorem dX5_scanWhole_48 : decode cX5_scanWhole 48 = .ok (.if_icmp .ge 27, 3) := by decide +kernel
theorem dX5_scanWhole_51 : decode cX5_scanWhole 51 = .ok (.aload_n 0, 1) := by decide +kernel
theorem dX5_scanWhole_52 : decode cX5_scanWhole 52 = .ok (.aload_n 0, 1) := by decide +kernel
theorem dX5_scanWhole_53 : decode cX5_scanWhole 53 = .ok (.getfield 159, 3) := by decide +kernel
theorem dX5_scanWhole_56 : decode cX5_scanWhole 56 = .ok (.bipush 10, 2) := by decide +kernel
theorem dX5_scanWhole_58 : decode cX5_scanWhole 58 = .ok (.imul, 1) := by decide +kernel
theorem dX5_scanWhole_59 : decode cX5_scanWhole 59 = .ok (.aload_n 0, 1) := by decide +kernel
theorem dX5_scanWhole_60 : decode cX5_scanWhole 60 = .ok (.getfield 9, 3) := by decide +kernel
theorem dX5_scanWhole_63 : decode cX5_scanWhole 63 = .ok (.aload_n 0, 1) := by decide +kernel
theorem dX5_scanWhole_64 : decode cX5_scanWhole 64 = .ok (.getfield 35, 3) := by decide +kernel
theorem dX5_scanWhole_67 : decode cX5_scanWhole 67 = .ok (.baload, 1) := by decide +kernel
theorem dX5_scanWhole_68 : decode cX5_scanWhole 68 = .ok (.iadd, 1) := by decide +kernel
theorem dX5_scanWhole_69 : decode cX5_scanWhole 69 = .ok (.bipush 48, 2) := by decide +kernel
theorem dX5_scanWhole_71 : decode cX5_scanWhole 71 = .ok (.isub, 1) := by decide +kernel
theorem dX5_scanWhole_72 : decode cX5_scanWhole 72 = .ok (.putfield 159, 3) := by decide +kernel
theorem dX5_scanWhole_75 : decode cX5_scanWhole 75 = .ok (.iinc 1 1, 3) := by decide +kernel
theorem dX5_scanWhole_78 : decode cX5_scanWhole 78 = .ok (.aload_n 0, 1) := by decide +kernel
theorem dX5_scanWhole_79 : decode cX5_scanWhole 79 = .ok (.dup, 1) := by decide +kernel
theorem dX5_scanWhole_80 : decode cX5_scanWhole 80 = .ok (.getfield 35, 3) := by decide +kernel
theorem dX5_scanWhole_83 : decode cX5_scanWhole 83 = .ok (.iconst 1, 1) := by decide +kernel
theorem dX5_scanWhole_84 : decode cX5_scanWhole 84 = .ok (.iadd, 1) := by decide +kernel
theorem dX5_scanWhole_85 : decode cX5_scanWhole 85 = .ok (.putfield 35, 3) := by decide +kernel
theorem dX5_scanWhole_88 : decode cX5_scanWhole 88 = .ok (.goto (-81), 3) := by decide +kernel
theorem dX5_scanWhole_91 : decode cX5_scanWhole 91 = .ok (.aload_n 0, 1) := by decide +kernel
theorem dX5_scanWhole_92 : decode cX5_scanWhole 92 = .ok (.iload_n 1, 1) := by decide +kernel
theorem dX5_scanWhole_93 : decode cX5_scanWhole 93 = .ok (.iconst 4, 1) := by decide +kernel
theorem dX5_scanWhole_94 : decode cX5_scanWhole 94 = .ok (.if_icmp .le 7, 3) := by decide +kernel
theorem dX5_scanWhole_97 : decode cX5_scanWhole 97 = .ok (.iconst 4, 1) := by decide +kernel
theorem dX5_scanWhole_98 : decode cX5_scanWhole 98 = .ok (.goto 4, 3) := by decide +kernel
theorem dX5_scanWhole_101 : decode cX5_scanWhole 101 = .ok (.iconst 2, 1) := by decide +kernel
theorem dX5_scanWhole_102 : decode cX5_scanWhole 102 = .ok (.putfield 63, 3) := by decide +kernel
theorem dX5_scanWhole_105 : decode cX5_scanWhole 105 = .ok (.return_, 1) := by decide +kernel
theorem dX6_init_0 : decode cX6_init 0 = .ok (.aload_n 0, 1) := by decide +kernel
theorem dX6_init_1 : decode cX6_init 1 = .ok (.invokespecial 3, 3) := by decide +kernel
theorem dX6_init_4 : decode cX6_init 4 = .ok (.aload_n 0, 1) := by decide +kernel
theorem dX6_init_5 : decode cX6_init 5 = .ok (.new 9, 3) := by decide +kernel
theorem dX6_init_8 : decode cX6_init 8 = .ok (.dup, 1) := by decide +kernel
theorem dX6_init_9 : decode cX6_init 9 = .ok (.invokespecial 11, 3) := by decide +kernel
theorem dX6_init_12 : decode cX6_init 12 = .ok (.putfield 12, 3) := by decide +kernel
theorem dX6_init_15 : decode cX6_init 15 = .ok (.aload_n 0, 1) := by decide +kernel
theorem dX6_init_16 : decode cX6_init 16 = .ok (.sipush 4096, 3) := by decide +kernel
theorem dX6_init_19 : decode cX6_init 19 = .ok (.newarray .byte, 2) := by decide +kernel
theorem dX6_init_21 : decode cX6_init 21 = .ok (.putfield 18, 3) := by decide +kernel
theorem dX6_init_24 : decode cX6_init 24 = .ok (.aload_n 0, 1) := by decide +kernel
theorem dX6_init_25 : decode cX6_init 25 = .ok (.sipush 4096, 3) := by decide +kernel
theorem dX6_init_28 : decode cX6_init 28 = .ok (.newarray .int, 2) := by decide +kernel
theorem dX6_init_30 : decode cX6_init 30 = .ok (.putfield 22, 3) := by decide +kernel
theorem dX6_init_33 : decode cX6_init 33 = .ok (.aload_n 0, 1) := by decide +kernel
theorem dX6_init_34 : decode cX6_init 34 = .ok (.iconst 3, 1) := by decide +kernel
theorem dX6_init_35 : decode cX6_init 35 = .ok (.newarray .int, 2) := by decide +kernel
theorem dX6_init_37 : decode cX6_init 37 = .ok (.putfield 26, 3) := by decide +kernel
theorem dX6_init_40 : decode cX6_init 40 = .ok (.aload_n 0, 1) := by decide +kernel
theorem dX6_init_41 : decode cX6_init 41 = .ok (.new 29, 3) := by decide +kernel
theorem dX6_init_44 : decode cX6_init 44 = .ok (.dup, 1) := by decide +kernel
theorem dX6_init_45 : decode cX6_init 45 = .ok (.invokespecial 31, 3) := by decide +kernel
theorem dX6_init_48 : decode cX6_init 48 = .ok (.putfield 32, 3) := by decide +kernel
theorem dX6_init_51 : decode cX6_init 51 = .ok (.return_, 1) := by decide +kernel
theorem dX6_start_0 : decode cX6_start 0 = .ok (.aload_n 1, 1) := by decide +kernel
theorem dX6_start_1 : decode cX6_start 1 = .ok (.iload_n 2, 1) := by decide +kernel
theorem dX6_start_2 : decode cX6_start 2 = .ok (.invokevirtual 36, 3) := by decide +kernel
theorem dX6_start_5 : decode cX6_start 5 = .ok (.astore 5, 2) := by decide +kernel
theorem dX6_start_7 : decode cX6_start 7 = .ok (.aload_n 1, 1) := by decide +kernel
theorem dX6_start_8 : decode cX6_start 8 = .ok (.iload_n 3, 1) := by decide +kernel
theorem dX6_start_9 : decode cX6_start 9 = .ok (.invokevirtual 42, 3) := by decide +kernel
theorem dX6_start_12 : decode cX6_start 12 = .ok (.astore 6, 2) := by decide +kernel
theorem dX6_start_14 : decode cX6_start 14 = .ok (.aload 5, 2) := by decide +kernel
theorem dX6_start_16 : decode cX6_start 16 = .ok (.ifnull 8, 3) := by decide +kernel
theorem dX6_start_19 : decode cX6_start 19 = .ok (.aload 6, 2) := by decide +kernel
theorem dX6_start_21 : decode cX6_start 21 = .ok (.ifnonnull 4, 3) := by decide +kernel
theorem dX6_start_24 : decode cX6_start 24 = .ok (.return_, 1) := by decide +kernel
theorem dX6_start_25 : decode cX6_start 25 = .ok (.aload_n 0, 1) := by decide +kernel
theorem dX6_start_26 : decode cX6_start 26 = .ok (.getfield 12, 3) := by decide +kernel
theorem dX6_start_29 : decode cX6_start 29 = .ok (.aload 5, 2) := by decide +kernel
theorem dX6_start_31 : decode cX6_start 31 = .ok (.iload 4, 2) := by decide +kernel
theorem dX6_start_33 : decode cX6_start 33 = .ok (.invokevirtual 46, 3) := by decide +kernel
theorem dX6_start_36 : decode cX6_start 36 = .ok (.aload_n 0, 1) := by decide +kernel
theorem dX6_start_37 : decode cX6_start 37 = .ok (.aload 6, 2) := by decide +kernel
theorem dX6_start_39 : decode cX6_start 39 = .ok (.putfield 32, 3) := by decide +kernel
theorem dX6_start_42 : decode cX6_start 42 = .ok (.aload_n 0, 1) := by decide +kernel
theorem dX6_start_43 : decode cX6_start 43 = .ok (.iload_n 2, 1) := by decide +kernel
theorem dX6_start_44 : decode cX6_start 44 = .ok (.putfield 50, 3) := by decide +kernel
theorem dX6_start_47 : decode cX6_start 47 = .ok (.aload_n 0, 1) := by decide +kernel
theorem dX6_start_48 : decode cX6_start 48 = .ok (.iload_n 3, 1) := by decide +kernel
theorem dX6_start_49 : decode cX6_start 49 = .ok (.putfield 54, 3) := by decide +kernel
theorem dX6_start_52 : decode cX6_start 52 = .ok (.aload_n 0, 1) := by decide +kernel
theorem dX6_start_53 : decode cX6_start 53 = .ok (.iload 4, 2) := by decide +kernel
theorem dX6_start_55 : decode cX6_start 55 = .ok (.putfield 57, 3) := by decide +kernel
theorem dX6_start_58 : decode cX6_start 58 = .ok (.aload_n 0, 1) := by decide +kernel
theorem dX6_start_59 : decode cX6_start 59 = .ok (.iconst 0, 1) := by decide +kernel
theorem dX6_start_60 : decode cX6_start 60 = .ok (.putfield 60, 3) := by decide +kernel
theorem dX6_start_63 : decode cX6_start 63 = .ok (.aload_n 0, 1) := by decide +kernel
theorem dX6_start_64 : decode cX6_start 64 = .ok (.getfield 26, 3) := by decide +kernel
theorem dX6_start_67 : decode cX6_start 67 = .ok (.iconst 0, 1) := by decide +kernel
theorem dX6_start_68 : decode cX6_start 68 = .ok (.invokestatic 63, 3) := by decide +kernel
theorem dX6_start_71 : decode cX6_start 71 = .ok (.aload_n 0, 1) := by decide +kernel
theorem dX6_start_72 : decode cX6_start 72 = .ok (.iconst 1, 1) := by decide +kernel
theorem dX6_start_73 : decode cX6_start 73 = .ok (.putfield 69, 3) := by decide +kernel
theorem dX6_start_76 : decode cX6_start 76 = .ok (.return_, 1) := by decide +kernel
theorem dX6_go_0 : decode cX6_go 0 = .ok (.iconst 0, 1) := by decide +kernel
theorem dX6_go_1 : decode cX6_go 1 = .ok (.istore_n 2, 1) := by decide +kernel
theorem dX6_go_2 : decode cX6_go 2 = .ok (.iconst 0, 1) := by decide +kernel
theorem dX6_go_3 : decode cX6_go 3 = .ok (.istore_n 3, 1) := by decide +kernel
theorem dX6_go_4 : decode cX6_go 4 = .ok (.iload_n 3, 1) := by decide +kernel
theorem dX6_go_5 : decode cX6_go 5 = .ok (.iload_n 1, 1) := by decide +kernel
theorem dX6_go_6 : decode cX6_go 6 = .ok (.if_icmp .ge 92, 3) := by decide +kernel
theorem dX6_go_9 : decode cX6_go 9 = .ok (.aload_n 0, 1) := by decide +kernel
theorem dX6_go_10 : decode cX6_go 10 = .ok (.getfield 60, 3) := by decide +kernel
theorem dX6_go_13 : decode cX6_go 13 = .ok (.sipush 4096, 3) := by decide +kernel
theorem dX6_go_16 : decode cX6_go 16 = .ok (.if_icmp .ge 82, 3) := by decide +kernel
theorem dX6_go_19 : decode cX6_go 19 = .ok (.aload_n 0, 1) := by decide +kernel
theorem dX6_go_20 : decode cX6_go 20 = .ok (.getfield 32, 3) := by decide +kernel
theorem dX6_go_23 : decode cX6_go 23 = .ok (.aload_n 0, 1) := by decide +kernel
theorem dX6_go_24 : decode cX6_go 24 = .ok (.getfield 60, 3) := by decide +kernel
theorem dX6_go_27 : decode cX6_go 27 = .ok (.invokevirtual 73, 3) := by decide +kernel
theorem dX6_go_30 : decode cX6_go 30 = .ok (.istore 4, 2) := by decide +kernel
theorem dX6_go_32 : decode cX6_go 32 = .ok (.aload_n 0, 1) := by decide +kernel
theorem dX6_go_33 : decode cX6_go 33 = .ok (.getfield 12, 3) := by decide +kernel
theorem dX6_go_36 : decode cX6_go 36 = .ok (.iload 4, 2) := by decide +kernel
theorem dX6_go_38 : decode cX6_go 38 = .ok (.invokevirtual 77, 3) := by decide +kernel
theorem dX6_go_41 : decode cX6_go 41 = .ok (.istore 5, 2) := by decide +kernel
theorem dX6_go_43 : decode cX6_go 43 = .ok (.aload_n 0, 1) := by decide +kernel
theorem dX6_go_44 : decode cX6_go 44 = .ok (.getfield 18, 3) := by decide +kernel
theorem dX6_go_47 : decode cX6_go 47 = .ok (.aload_n 0, 1) := by decide +kernel
theorem dX6_go_48 : decode cX6_go 48 = .ok (.getfield 60, 3) := by decide +kernel
theorem dX6_go_51 : decode cX6_go 51 = .ok (.iload 5, 2) := by decide +kernel
theorem dX6_go_53 : decode cX6_go 53 = .ok (.i2b, 1) := by decide +kernel
theorem dX6_go_54 : decode cX6_go 54 = .ok (.bastore, 1) := by decide +kernel
theorem dX6_go_55 : decode cX6_go 55 = .ok (.aload_n 0, 1) := by decide +kernel
theorem dX6_go_56 : decode cX6_go 56 = .ok (.getfield 22, 3) := by decide +kernel
theorem dX6_go_59 : decode cX6_go 59 = .ok (.aload_n 0, 1) := by decide +kernel
theorem dX6_go_60 : decode cX6_go 60 = .ok (.getfield 60, 3) := by decide +kernel
theorem dX6_go_63 : decode cX6_go 63 = .ok (.sipush 1000, 3) := by decide +kernel
theorem dX6_go_66 : decode cX6_go 66 = .ok (.iload 5, 2) := by decide +kernel
theorem dX6_go_68 : decode cX6_go 68 = .ok (.imul, 1) := by decide +kernel
theorem dX6_go_69 : decode cX6_go 69 = .ok (.iload 4, 2) := by decide +kernel
theorem dX6_go_71 : decode cX6_go 71 = .ok (.isub, 1) := by decide +kernel
theorem dX6_go_72 : decode cX6_go 72 = .ok (.iastore, 1) := by decide +kernel
theorem dX6_go_73 : decode cX6_go 73 = .ok (.aload_n 0, 1) := by decide +kernel
theorem dX6_go_74 : decode cX6_go 74 = .ok (.dup, 1) := by decide +kernel
theorem dX6_go_75 : decode cX6_go 75 = .ok (.getfield 60, 3) := by decide +kernel
theorem dX6_go_78 : decode cX6_go 78 = .ok (.iconst 1, 1) := by decide +kernel
theorem dX6_go_79 : decode cX6_go 79 = .ok (.iadd, 1) := by decide +kernel
theorem dX6_go_80 : decode cX6_go 80 = .ok (.putfield 60, 3) := by decide +kernel
theorem dX6_go_83 : decode cX6_go 83 = .ok (.iload_n 2, 1) := by decide +kernel
theorem dX6_go_84 : decode cX6_go 84 = .ok (.iload 5, 2) := by decide +kernel
theorem dX6_go_86 : decode cX6_go 86 = .ok (.iadd, 1) := by decide +kernel
theorem dX6_go_87 : decode cX6_go 87 = .ok (.istore_n 2, 1) := by decide +kernel
theorem dX6_go_88 : decode cX6_go 88 = .ok (.aload_n 0, 1) := by decide +kernel
theorem dX6_go_89 : decode cX6_go 89 = .ok (.invokevirtual 80, 3) := by decide +kernel
theorem dX6_go_92 : decode cX6_go 92 = .ok (.iinc 3 1, 3) := by decide +kernel
theorem dX6_go_95 : decode cX6_go 95 = .ok (.goto (-91), 3) := by decide +kernel
theorem dX6_go_98 : decode cX6_go 98 = .ok (.iload_n 2, 1) := by decide +kernel
theorem dX6_go_99 : decode cX6_go 99 = .ok (.ireturn, 1) := by decide +kernel
theorem dX6_noteSizes_0 : decode cX6_noteSizes 0 = .ok (.iconst 0, 1) := by decide +kernel
theorem dX6_noteSizes_1 : decode cX6_noteSizes 1 = .ok (.istore_n 1, 1) := by decide +kernel
theorem dX6_noteSizes_2 : decode cX6_noteSizes 2 = .ok (.iload_n 1, 1) := by decide +kernel
theorem dX6_noteSizes_3 : decode cX6_noteSizes 3 = .ok (.aload_n 0, 1) := by decide +kernel
theorem dX6_noteSizes_4 : decode cX6_noteSizes 4 = .ok (.getfield 26, 3) := by decide +kernel
theorem dX6_noteSizes_7 : decode cX6_noteSizes 7 = .ok (.arraylength, 1) := by decide +kernel
theorem dX6_noteSizes_8 : decode cX6_noteSizes 8 = .ok (.if_icmp .ge 36, 3) := by decide +kernel
theorem dX6_noteSizes_11 : decode cX6_noteSizes 11 = .ok (.aload_n 0, 1) := by decide +kernel
theorem dX6_noteSizes_12 : decode cX6_noteSizes 12 = .ok (.getfield 26, 3) := by decide +kernel
theorem dX6_noteSizes_15 : decode cX6_noteSizes 15 = .ok (.iload_n 1, 1) := by decide +kernel
theorem dX6_noteSizes_16 : decode cX6_noteSizes 16 = .ok (.aload_n 0, 1) := by decide +kernel
theorem dX6_noteSizes_17 : decode cX6_noteSizes 17 = .ok (.getfield 26, 3) := by decide +kernel
theorem dX6_noteSizes_20 : decode cX6_noteSizes 20 = .ok (.iload_n 1, 1) := by decide +kernel
theorem dX6_noteSizes_21 : decode cX6_noteSizes 21 = .ok (.iaload, 1) := by decide +kernel
theorem dX6_noteSizes_22 : decode cX6_noteSizes 22 = .ok (.aload_n 0, 1) := by decide +kernel
theorem dX6_noteSizes_23 : decode cX6_noteSizes 23 = .ok (.getfield 12, 3) := by decide +kernel
theorem dX6_noteSizes_26 : decode cX6_noteSizes 26 = .ok (.getfield 83, 3) := by decide +kernel
theorem dX6_noteSizes_29 : decode cX6_noteSizes 29 = .ok (.iload_n 1, 1) := by decide +kernel
theorem dX6_noteSizes_30 : decode cX6_noteSizes 30 = .ok (.iaload, 1) := by decide +kernel
theorem dX6_noteSizes_31 : decode cX6_noteSizes 31 = .ok (.invokestatic 86, 3) := by decide +kernel
theorem dX6_noteSizes_34 : decode cX6_noteSizes 34 = .ok (.invokestatic 91, 3) := by decide +kernel
theorem dX6_noteSizes_37 : decode cX6_noteSizes 37 = .ok (.iastore, 1) := by decide +kernel
theorem dX6_noteSizes_38 : decode cX6_noteSizes 38 = .ok (.iinc 1 1, 3) := by decide +kernel
theorem dX6_noteSizes_41 : decode cX6_noteSizes 41 = .ok (.goto (-39), 3) := by decide +kernel
theorem dX6_noteSizes_44 : decode cX6_noteSizes 44 = .ok (.return_, 1) := by decide +kernel
theorem dX6_property_0 : decode cX6_property 0 = .ok (.iload_n 1, 1) := by decide +kernel
theorem dX6_property_1 : decode cX6_property 1 = .ok (.tableswitch 54 0 3 #[31, 36, 41, 46], 31) := by decide +kernel
theorem dX6_property_32 : decode cX6_property 32 = .ok (.aload_n 0, 1) := by decide +kernel
theorem dX6_property_33 : decode cX6_property 33 = .ok (.getfield 50, 3) := by decide +kernel
theorem dX6_property_36 : decode cX6_property 36 = .ok (.ireturn, 1) := by decide +kernel
theorem dX6_property_37 : decode cX6_property 37 = .ok (.aload_n 0, 1) := by decide +kernel
theorem dX6_property_38 : decode cX6_property 38 = .ok (.getfield 54, 3) := by decide +kernel
theorem dX6_property_41 : decode cX6_property 41 = .ok (.ireturn, 1) := by decide +kernel
theorem dX6_property_42 : decode cX6_property 42 = .ok (.aload_n 0, 1) := by decide +kernel
theorem dX6_property_43 : decode cX6_property 43 = .ok (.getfield 60, 3) := by decide +kernel
theorem dX6_property_46 : decode cX6_property 46 = .ok (.ireturn, 1) := by decide +kernel
theorem dX6_property_47 : decode cX6_property 47 = .ok (.aload_n 0, 1) := by decide +kernel
theorem dX6_property_48 : decode cX6_property 48 = .ok (.getfield 12, 3) := by decide +kernel
theorem dX6_property_51 : decode cX6_property 51 = .ok (.getfield 95, 3) := by decide +kernel
theorem dX6_property_54 : decode cX6_property 54 = .ok (.ireturn, 1) := by decide +kernel
theorem dX6_property_55 : decode cX6_property 55 = .ok (.aload_n 0, 1) := by decide +kernel
theorem dX6_property_56 : decode cX6_property 56 = .ok (.getfield 12, 3) := by decide +kernel
theorem dX6_property_59 : decode cX6_property 59 = .ok (.getfield 98, 3) := by decide +kernel
theorem dX6_property_62 : decode cX6_property 62 = .ok (.ireturn, 1) := by decide +kernel
theorem dX6_hasStage_0 : decode cX6_hasStage 0 = .ok (.aload_n 0, 1) := by decide +kernel
theorem dX6_hasStage_1 : decode cX6_hasStage 1 = .ok (.getfield 69, 3) := by decide +kernel
theorem dX6_hasStage_4 : decode cX6_hasStage 4 = .ok (.ifCond .eq 25, 3) := by decide +kernel
theorem dX6_hasStage_7 : decode cX6_hasStage 7 = .ok (.iload_n 1, 1) := by decide +kernel
theorem dX6_hasStage_8 : decode cX6_hasStage 8 = .ok (.ifCond .lt 21, 3) := by decide +kernel
theorem dX6_hasStage_11 : decode cX6_hasStage 11 = .ok (.iload_n 1, 1) := by decide +kernel
theorem dX6_hasStage_12 : decode cX6_hasStage 12 = .ok (.aload_n 0, 1) := by decide +kernel
theorem dX6_hasStage_13 : decode cX6_hasStage 13 = .ok (.getfield 12, 3) := by decide +kernel
theorem dX6_hasStage_16 : decode cX6_hasStage 16 = .ok (.getfield 101, 3) := by decide +kernel
theorem dX6_hasStage_19 : decode cX6_hasStage 19 = .ok (.getfield 105, 3) := by decide +kernel
theorem dX6_hasStage_22 : decode cX6_hasStage 22 = .ok (.if_icmp .ge 7, 3) := by decide +kernel
theorem dX6_hasStage_25 : decode cX6_hasStage 25 = .ok (.iconst 1, 1) := by decide +kernel
theorem dX6_hasStage_26 : decode cX6_hasStage 26 = .ok (.goto 4, 3) := by decide +kernel
theorem dX6_hasStage_29 : decode cX6_hasStage 29 = .ok (.iconst 0, 1) := by decide +kernel
theorem dX6_hasStage_30 : decode cX6_hasStage 30 = .ok (.ireturn, 1) := by decide +kernel
theorem dX6_hasStretch_0 : decode cX6_hasStretch 0 = .ok (.iload_n 1, 1) := by decide +kernel
theorem dX6_hasStretch_1 : decode cX6_hasStretch 1 = .ok (.ifCond .lt 20, 3) := by decide +kernel
theorem dX6_hasStretch_4 : decode cX6_hasStretch 4 = .ok (.iload_n 1, 1) := by decide +kernel
theorem dX6_hasStretch_5 : decode cX6_hasStretch 5 = .ok (.iload_n 2, 1) := by decide +kernel
theorem dX6_hasStretch_6 : decode cX6_hasStretch 6 = .ok (.if_icmp .gt 15, 3) := by decide +kernel
theorem dX6_hasStretch_9 : decode cX6_hasStretch 9 = .ok (.iload_n 2, 1) := by decide +kernel
theorem dX6_hasStretch_10 : decode cX6_hasStretch 10 = .ok (.aload_n 0, 1) := by decide +kernel
theorem dX6_hasStretch_11 : decode cX6_hasStretch 11 = .ok (.getfield 60, 3) := by decide +kernel
theorem dX6_hasStretch_14 : decode cX6_hasStretch 14 = .ok (.if_icmp .ge 7, 3) := by decide +kernel
theorem dX6_hasStretch_17 : decode cX6_hasStretch 17 = .ok (.iconst 1, 1) := by decide +kernel
theorem dX6_hasStretch_18 : decode cX6_hasStretch 18 = .ok (.goto 4, 3) := by decide +kernel
theorem dX6_hasStretch_21 : decode cX6_hasStretch 21 = .ok (.iconst 0, 1) := by decide +kernel
theorem dX6_hasStretch_22 : decode cX6_hasStretch 22 = .ok (.ireturn, 1) := by decide +kernel
theorem dX6_countOf_0 : decode cX6_countOf 0 = .ok (.iconst 0, 1) := by decide +kernel
theorem dX6_countOf_1 : decode cX6_countOf 1 = .ok (.istore 4, 2) := by decide +kernel
theorem dX6_countOf_3 : decode cX6_countOf 3 = .ok (.iload_n 2, 1) := by decide +kernel
theorem dX6_countOf_4 : decode cX6_countOf 4 = .ok (.istore 5, 2) := by decide +kernel
theorem dX6_countOf_6 : decode cX6_countOf 6 = .ok (.iload 5, 2) := by decide +kernel
theorem dX6_countOf_8 : decode cX6_countOf 8 = .ok (.iload_n 3, 1) := by decide +kernel
theorem dX6_countOf_9 : decode cX6_countOf 9 = .ok (.if_icmp .gt 30, 3) := by decide +kernel
theorem dX6_countOf_12 : decode cX6_countOf 12 = .ok (.iload 4, 2) := by decide +kernel
theorem dX6_countOf_14 : decode cX6_countOf 14 = .ok (.aload_n 0, 1) := by decide +kernel
theorem dX6_countOf_15 : decode cX6_countOf 15 = .ok (.getfield 18, 3) := by decide +kernel
theorem dX6_countOf_18 : decode cX6_countOf 18 = .ok (.iload 5, 2) := by decide +kernel
theorem dX6_countOf_20 : decode cX6_countOf 20 = .ok (.baload, 1) := by decide +kernel
theorem dX6_countOf_21 : decode cX6_countOf 21 = .ok (.iload_n 1, 1) := by decide +kernel
theorem dX6_countOf_22 : decode cX6_countOf 22 = .ok (.if_icmp .ne 7, 3) := by decide +kernel
theorem dX6_countOf_25 : decode cX6_countOf 25 = .ok (.iconst 1, 1) := by decide +kernel
theorem dX6_countOf_26 : decode cX6_countOf 26 = .ok (.goto 4, 3) := by decide +kernel
theorem dX6_countOf_29 : decode cX6_countOf 29 = .ok (.iconst 0, 1) := by decide +kernel
theorem dX6_countOf_30 : decode cX6_countOf 30 = .ok (.iadd, 1) := by decide +kernel
theorem dX6_countOf_31 : decode cX6_countOf 31 = .ok (.istore 4, 2) := by decide +kernel
theorem dX6_countOf_33 : decode cX6_countOf 33 = .ok (.iinc 5 1, 3) := by decide +kernel
theorem dX6_countOf_36 : decode cX6_countOf 36 = .ok (.goto (-30), 3) := by decide +kernel
theorem dX6_countOf_39 : decode cX6_countOf 39 = .ok (.iload 4, 2) := by decide +kernel
theorem dX6_countOf_41 : decode cX6_countOf 41 = .ok (.ireturn, 1) := by decide +kernel
theorem dX6_gapsAdded_0 : decode cX6_gapsAdded 0 = .ok (.iconst 0, 1) := by decide +kernel
theorem dX6_gapsAdded_1 : decode cX6_gapsAdded 1 = .ok (.istore_n 3, 1) := by decide +kernel
theorem dX6_gapsAdded_2 : decode cX6_gapsAdded 2 = .ok (.iload_n 1, 1) := by decide +kernel
theorem dX6_gapsAdded_3 : decode cX6_gapsAdded 3 = .ok (.istore 4, 2) := by decide +kernel
theorem dX6_gapsAdded_5 : decode cX6_gapsAdded 5 = .ok (.iload 4, 2) := by decide +kernel
theorem dX6_gapsAdded_7 : decode cX6_gapsAdded 7 = .ok (.iload_n 2, 1) := by decide +kernel
theorem dX6_gapsAdded_8 : decode cX6_gapsAdded 8 = .ok (.if_icmp .gt 19, 3) := by decide +kernel
theorem dX6_gapsAdded_11 : decode cX6_gapsAdded 11 = .ok (.iload_n 3, 1) := by decide +kernel
theorem dX6_gapsAdded_12 : decode cX6_gapsAdded 12 = .ok (.aload_n 0, 1) := by decide +kernel
theorem dX6_gapsAdded_13 : decode cX6_gapsAdded 13 = .ok (.getfield 22, 3) := by decide +kernel
theorem dX6_gapsAdded_16 : decode cX6_gapsAdded 16 = .ok (.iload 4, 2) := by decide +kernel
theorem dX6_gapsAdded_18 : decode cX6_gapsAdded 18 = .ok (.iaload, 1) := by decide +kernel
theorem dX6_gapsAdded_19 : decode cX6_gapsAdded 19 = .ok (.iadd, 1) := by decide +kernel
theorem dX6_gapsAdded_20 : decode cX6_gapsAdded 20 = .ok (.istore_n 3, 1) := by decide +kernel
theorem dX6_gapsAdded_21 : decode cX6_gapsAdded 21 = .ok (.iinc 4 1, 3) := by decide +kernel
theorem dX6_gapsAdded_24 : decode cX6_gapsAdded 24 = .ok (.goto (-19), 3) := by decide +kernel
theorem dX6_gapsAdded_27 : decode cX6_gapsAdded 27 = .ok (.iload_n 3, 1) := by decide +kernel
theorem dX6_gapsAdded_28 : decode cX6_gapsAdded 28 = .ok (.ireturn, 1) := by decide +kernel
theorem dX6_outsAdded_0 : decode cX6_outsAdded 0 = .ok (.iconst 0, 1) := by decide +kernel
theorem dX6_outsAdded_1 : decode cX6_outsAdded 1 = .ok (.istore_n 3, 1) := by decide +kernel
theorem dX6_outsAdded_2 : decode cX6_outsAdded 2 = .ok (.iload_n 1, 1) := by decide +kernel
theorem dX6_outsAdded_3 : decode cX6_outsAdded 3 = .ok (.istore 4, 2) := by decide +kernel
theorem dX6_outsAdded_5 : decode cX6_outsAdded 5 = .ok (.iload 4, 2) := by decide +kernel
theorem dX6_outsAdded_7 : decode cX6_outsAdded 7 = .ok (.iload_n 2, 1) := by decide +kernel
theorem dX6_outsAdded_8 : decode cX6_outsAdded 8 = .ok (.if_icmp .gt 19, 3) := by decide +kernel
theorem dX6_outsAdded_11 : decode cX6_outsAdded 11 = .ok (.iload_n 3, 1) := by decide +kernel
theorem dX6_outsAdded_12 : decode cX6_outsAdded 12 = .ok (.aload_n 0, 1) := by decide +kernel
theorem dX6_outsAdded_13 : decode cX6_outsAdded 13 = .ok (.getfield 18, 3) := by decide +kernel
theorem dX6_outsAdded_16 : decode cX6_outsAdded 16 = .ok (.iload 4, 2) := by decide +kernel
theorem dX6_outsAdded_18 : decode cX6_outsAdded 18 = .ok (.baload, 1) := by decide +kernel
theorem dX6_outsAdded_19 : decode cX6_outsAdded 19 = .ok (.iadd, 1) := by decide +kernel
theorem dX6_outsAdded_20 : decode cX6_outsAdded 20 = .ok (.istore_n 3, 1) := by decide +kernel
theorem dX6_outsAdded_21 : decode cX6_outsAdded 21 = .ok (.iinc 4 1, 3) := by decide +kernel
theorem dX6_outsAdded_24 : decode cX6_outsAdded 24 = .ok (.goto (-19), 3) := by decide +kernel
theorem dX6_outsAdded_27 : decode cX6_outsAdded 27 = .ok (.iload_n 3, 1) := by decide +kernel
theorem dX6_outsAdded_28 : decode cX6_outsAdded 28 = .ok (.ireturn, 1) := by decide +kernel
theorem dX6_longestRow_0 : decode cX6_longestRow 0 = .ok (.iconst 1, 1) := by decide +kernel
theorem dX6_longestRow_1 : decode cX6_longestRow 1 = .ok (.istore_n 3, 1) := by decide +kernel
theorem dX6_longestRow_2 : decode cX6_longestRow 2 = .ok (.iconst 1, 1) := by decide +kernel
theorem dX6_longestRow_3 : decode cX6_longestRow 3 = .ok (.istore 4, 2) := by decide +kernel
theorem dX6_longestRow_5 : decode cX6_longestRow 5 = .ok (.iload_n 1, 1) := by decide +kernel
theorem dX6_longestRow_6 : decode cX6_longestRow 6 = .ok (.iconst 1, 1) := by decide +kernel
theorem dX6_longestRow_7 : decode cX6_longestRow 7 = .ok (.iadd, 1) := by decide +kernel
theorem dX6_longestRow_8 : decode cX6_longestRow 8 = .ok (.istore 5, 2) := by decide +kernel
theorem dX6_longestRow_10 : decode cX6_longestRow 10 = .ok (.iload 5, 2) := by decide +kernel
theorem dX6_longestRow_12 : decode cX6_longestRow 12 = .ok (.iload_n 2, 1) := by decide +kernel
theorem dX6_longestRow_13 : decode cX6_longestRow 13 = .ok (.if_icmp .gt 45, 3) := by decide +kernel
theorem dX6_longestRow_16 : decode cX6_longestRow 16 = .ok (.aload_n 0, 1) := by decide +kernel
theorem dX6_longestRow_17 : decode cX6_longestRow 17 = .ok (.getfield 18, 3) := by decide +kernel
theorem dX6_longestRow_20 : decode cX6_longestRow 20 = .ok (.iload 5, 2) := by decide +kernel
theorem dX6_longestRow_22 : decode cX6_longestRow 22 = .ok (.baload, 1) := by decide +kernel
theorem dX6_longestRow_23 : decode cX6_longestRow 23 = .ok (.aload_n 0, 1) := by decide +kernel
theorem dX6_longestRow_24 : decode cX6_longestRow 24 = .ok (.getfield 18, 3) := by decide +kernel
theorem dX6_longestRow_27 : decode cX6_longestRow 27 = .ok (.iload 5, 2) := by decide +kernel
theorem dX6_longestRow_29 : decode cX6_longestRow 29 = .ok (.iconst 1, 1) := by decide +kernel
theorem dX6_longestRow_30 : decode cX6_longestRow 30 = .ok (.isub, 1) := by decide +kernel
theorem dX6_longestRow_31 : decode cX6_longestRow 31 = .ok (.baload, 1) := by decide +kernel
theorem dX6_longestRow_32 : decode cX6_longestRow 32 = .ok (.if_icmp .ne 10, 3) := by decide +kernel
theorem dX6_longestRow_35 : decode cX6_longestRow 35 = .ok (.iload 4, 2) := by decide +kernel
theorem dX6_longestRow_37 : decode cX6_longestRow 37 = .ok (.iconst 1, 1) := by decide +kernel
theorem dX6_longestRow_38 : decode cX6_longestRow 38 = .ok (.iadd, 1) := by decide +kernel
theorem dX6_longestRow_39 : decode cX6_longestRow 39 = .ok (.goto 4, 3) := by decide +kernel
theorem dX6_longestRow_42 : decode cX6_longestRow 42 = .ok (.iconst 1, 1) := by decide +kernel
theorem dX6_longestRow_43 : decode cX6_longestRow 43 = .ok (.istore 4, 2) := by decide +kernel
theorem dX6_longestRow_45 : decode cX6_longestRow 45 = .ok (.iload_n 3, 1) := by decide +kernel
theorem dX6_longestRow_46 : decode cX6_longestRow 46 = .ok (.iload 4, 2) := by decide +kernel
theorem dX6_longestRow_48 : decode cX6_longestRow 48 = .ok (.invokestatic 91, 3) := by decide +kernel
theorem dX6_longestRow_51 : decode cX6_longestRow 51 = .ok (.istore_n 3, 1) := by decide +kernel
theorem dX6_longestRow_52 : decode cX6_longestRow 52 = .ok (.iinc 5 1, 3) := by decide +kernel
theorem dX6_longestRow_55 : decode cX6_longestRow 55 = .ok (.goto (-45), 3) := by decide +kernel
theorem dX6_longestRow_58 : decode cX6_longestRow 58 = .ok (.iload_n 3, 1) := by decide +kernel
theorem dX6_longestRow_59 : decode cX6_longestRow 59 = .ok (.ireturn, 1) := by decide +kernel
theorem dX6_changes_0 : decode cX6_changes 0 = .ok (.iconst 0, 1) := by decide +kernel
theorem dX6_changes_1 : decode cX6_changes 1 = .ok (.istore_n 3, 1) := by decide +kernel
theorem dX6_changes_2 : decode cX6_changes 2 = .ok (.iload_n 1, 1) := by decide +kernel
theorem dX6_changes_3 : decode cX6_changes 3 = .ok (.iconst 1, 1) := by decide +kernel
theorem dX6_changes_4 : decode cX6_changes 4 = .ok (.iadd, 1) := by decide +kernel
theorem dX6_changes_5 : decode cX6_changes 5 = .ok (.istore 4, 2) := by decide +kernel
theorem dX6_changes_7 : decode cX6_changes 7 = .ok (.iload 4, 2) := by decide +kernel
theorem dX6_changes_9 : decode cX6_changes 9 = .ok (.iload_n 2, 1) := by decide +kernel
theorem dX6_changes_10 : decode cX6_changes 10 = .ok (.if_icmp .gt 36, 3) := by decide +kernel
theorem dX6_changes_13 : decode cX6_changes 13 = .ok (.iload_n 3, 1) := by decide +kernel
theorem dX6_changes_14 : decode cX6_changes 14 = .ok (.aload_n 0, 1) := by decide +kernel
theorem dX6_changes_15 : decode cX6_changes 15 = .ok (.getfield 18, 3) := by decide +kernel
theorem dX6_changes_18 : decode cX6_changes 18 = .ok (.iload 4, 2) := by decide +kernel
theorem dX6_changes_20 : decode cX6_changes 20 = .ok (.baload, 1) := by decide +kernel
theorem dX6_changes_21 : decode cX6_changes 21 = .ok (.aload_n 0, 1) := by decide +kernel
theorem dX6_changes_22 : decode cX6_changes 22 = .ok (.getfield 18, 3) := by decide +kernel
theorem dX6_changes_25 : decode cX6_changes 25 = .ok (.iload 4, 2) := by decide +kernel
theorem dX6_changes_27 : decode cX6_changes 27 = .ok (.iconst 1, 1) := by decide +kernel
theorem dX6_changes_28 : decode cX6_changes 28 = .ok (.isub, 1) := by decide +kernel
theorem dX6_changes_29 : decode cX6_changes 29 = .ok (.baload, 1) := by decide +kernel
theorem dX6_changes_30 : decode cX6_changes 30 = .ok (.if_icmp .eq 7, 3) := by decide +kernel
theorem dX6_changes_33 : decode cX6_changes 33 = .ok (.iconst 1, 1) := by decide +kernel
theorem dX6_changes_34 : decode cX6_changes 34 = .ok (.goto 4, 3) := by decide +kernel
theorem dX6_changes_37 : decode cX6_changes 37 = .ok (.iconst 0, 1) := by decide +kernel
theorem dX6_changes_38 : decode cX6_changes 38 = .ok (.iadd, 1) := by decide +kernel
theorem dX6_changes_39 : decode cX6_changes 39 = .ok (.istore_n 3, 1) := by decide +kernel
theorem dX6_changes_40 : decode cX6_changes 40 = .ok (.iinc 4 1, 3) := by decide +kernel
theorem dX6_changes_43 : decode cX6_changes 43 = .ok (.goto (-36), 3) := by decide +kernel
theorem dX6_changes_46 : decode cX6_changes 46 = .ok (.iload_n 3, 1) := by decide +kernel
theorem dX6_changes_47 : decode cX6_changes 47 = .ok (.ireturn, 1) := by decide +kernel
theorem dX6_likePairs_0 : decode cX6_likePairs 0 = .ok (.iconst 0, 1) := by decide +kernel
theorem dX6_likePairs_1 : decode cX6_likePairs 1 = .ok (.istore 4, 2) := by decide +kernel
theorem dX6_likePairs_3 : decode cX6_likePairs 3 = .ok (.iload_n 1, 1) := by decide +kernel
theorem dX6_likePairs_4 : decode cX6_likePairs 4 = .ok (.istore 5, 2) := by decide +kernel
theorem dX6_likePairs_6 : decode cX6_likePairs 6 = .ok (.iload 5, 2) := by decide +kernel
theorem dX6_likePairs_8 : decode cX6_likePairs 8 = .ok (.iload_n 3, 1) := by decide +kernel
theorem dX6_likePairs_9 : decode cX6_likePairs 9 = .ok (.iadd, 1) := by decide +kernel
theorem dX6_likePairs_10 : decode cX6_likePairs 10 = .ok (.iload_n 2, 1) := by decide +kernel
theorem dX6_likePairs_11 : decode cX6_likePairs 11 = .ok (.if_icmp .gt 38, 3) := by decide +kernel
theorem dX6_likePairs_14 : decode cX6_likePairs 14 = .ok (.iload 4, 2) := by decide +kernel
theorem dX6_likePairs_16 : decode cX6_likePairs 16 = .ok (.aload_n 0, 1) := by decide +kernel
theorem dX6_likePairs_17 : decode cX6_likePairs 17 = .ok (.getfield 18, 3) := by decide +kernel
theorem dX6_likePairs_20 : decode cX6_likePairs 20 = .ok (.iload 5, 2) := by decide +kernel
theorem dX6_likePairs_22 : decode cX6_likePairs 22 = .ok (.baload, 1) := by decide +kernel
theorem dX6_likePairs_23 : decode cX6_likePairs 23 = .ok (.aload_n 0, 1) := by decide +kernel
theorem dX6_likePairs_24 : decode cX6_likePairs 24 = .ok (.getfield 18, 3) := by decide +kernel
theorem dX6_likePairs_27 : decode cX6_likePairs 27 = .ok (.iload 5, 2) := by decide +kernel
theorem dX6_likePairs_29 : decode cX6_likePairs 29 = .ok (.iload_n 3, 1) := by decide +kernel
theorem dX6_likePairs_30 : decode cX6_likePairs 30 = .ok (.iadd, 1) := by decide +kernel
theorem dX6_likePairs_31 : decode cX6_likePairs 31 = .ok (.baload, 1) := by decide +kernel
theorem dX6_likePairs_32 : decode cX6_likePairs 32 = .ok (.if_icmp .ne 7, 3) := by decide +kernel
theorem dX6_likePairs_35 : decode cX6_likePairs 35 = .ok (.iconst 1, 1) := by decide +kernel
theorem dX6_likePairs_36 : decode cX6_likePairs 36 = .ok (.goto 4, 3) := by decide +kernel
theorem dX6_likePairs_39 : decode cX6_likePairs 39 = .ok (.iconst 0, 1) := by decide +kernel
theorem dX6_likePairs_40 : decode cX6_likePairs 40 = .ok (.iadd, 1) := by decide +kernel
theorem dX6_likePairs_41 : decode cX6_likePairs 41 = .ok (.istore 4, 2) := by decide +kernel
theorem dX6_likePairs_43 : decode cX6_likePairs 43 = .ok (.iinc 5 1, 3) := by decide +kernel
theorem dX6_likePairs_46 : decode cX6_likePairs 46 = .ok (.goto (-40), 3) := by decide +kernel
theorem dX6_likePairs_49 : decode cX6_likePairs 49 = .ok (.iload 4, 2) := by decide +kernel
theorem dX6_likePairs_51 : decode cX6_likePairs 51 = .ok (.ireturn, 1) := by decide +kernel
theorem dX6_bestLag_0 : decode cX6_bestLag 0 = .ok (.bipush (-2), 2) := by decide +kernel
theorem dX6_bestLag_2 : decode cX6_bestLag 2 = .ok (.istore 4, 2) := by decide +kernel
theorem dX6_bestLag_4 : decode cX6_bestLag 4 = .ok (.iconst 0, 1) := by decide +kernel
theorem dX6_bestLag_5 : decode cX6_bestLag 5 = .ok (.istore 5, 2) := by decide +kernel
theorem dX6_bestLag_7 : decode cX6_bestLag 7 = .ok (.iconst 0, 1) := by decide +kernel
theorem dX6_bestLag_8 : decode cX6_bestLag 8 = .ok (.istore 6, 2) := by decide +kernel
theorem dX6_bestLag_10 : decode cX6_bestLag 10 = .ok (.iconst 1, 1) := by decide +kernel
theorem dX6_bestLag_11 : decode cX6_bestLag 11 = .ok (.istore 7, 2) := by decide +kernel
theorem dX6_bestLag_13 : decode cX6_bestLag 13 = .ok (.iload 7, 2) := by decide +kernel
theorem dX6_bestLag_15 : decode cX6_bestLag 15 = .ok (.iload_n 3, 1) := by decide +kernel
theorem dX6_bestLag_16 : decode cX6_bestLag 16 = .ok (.if_icmp .gt 69, 3) := by decide +kernel
theorem dX6_bestLag_19 : decode cX6_bestLag 19 = .ok (.iload_n 1, 1) := by decide +kernel
theorem dX6_bestLag_20 : decode cX6_bestLag 20 = .ok (.iload 7, 2) := by decide +kernel
theorem dX6_bestLag_22 : decode cX6_bestLag 22 = .ok (.iadd, 1) := by decide +kernel
theorem dX6_bestLag_23 : decode cX6_bestLag 23 = .ok (.iload_n 2, 1) := by decide +kernel
theorem dX6_bestLag_24 : decode cX6_bestLag 24 = .ok (.if_icmp .gt 61, 3) := by decide +kernel
theorem dX6_bestLag_27 : decode cX6_bestLag 27 = .ok (.iload_n 2, 1) := by decide +kernel
theorem dX6_bestLag_28 : decode cX6_bestLag 28 = .ok (.iload_n 1, 1) := by decide +kernel
theorem dX6_bestLag_29 : decode cX6_bestLag 29 = .ok (.isub, 1) := by decide +kernel
theorem dX6_bestLag_30 : decode cX6_bestLag 30 = .ok (.iconst 1, 1) := by decide +kernel
theorem dX6_bestLag_31 : decode cX6_bestLag 31 = .ok (.iadd, 1) := by decide +kernel
theorem dX6_bestLag_32 : decode cX6_bestLag 32 = .ok (.iload 7, 2) := by decide +kernel
theorem dX6_bestLag_34 : decode cX6_bestLag 34 = .ok (.isub, 1) := by decide +kernel
theorem dX6_bestLag_35 : decode cX6_bestLag 35 = .ok (.istore 8, 2) := by decide +kernel
theorem dX6_bestLag_37 : decode cX6_bestLag 37 = .ok (.aload_n 0, 1) := by decide +kernel
theorem dX6_bestLag_38 : decode cX6_bestLag 38 = .ok (.iload_n 1, 1) := by decide +kernel
theorem dX6_bestLag_39 : decode cX6_bestLag 39 = .ok (.iload_n 2, 1) := by decide +kernel
theorem dX6_bestLag_40 : decode cX6_bestLag 40 = .ok (.iload 7, 2) := by decide +kernel
theorem dX6_bestLag_42 : decode cX6_bestLag 42 = .ok (.invokevirtual 110, 3) := by decide +kernel
theorem dX6_bestLag_45 : decode cX6_bestLag 45 = .ok (.istore 9, 2) := by decide +kernel
theorem dX6_bestLag_47 : decode cX6_bestLag 47 = .ok (.iload 4, 2) := by decide +kernel
theorem dX6_bestLag_49 : decode cX6_bestLag 49 = .ok (.bipush (-2), 2) := by decide +kernel
theorem dX6_bestLag_51 : decode cX6_bestLag 51 = .ok (.if_icmp .eq 16, 3) := by decide +kernel
theorem dX6_bestLag_54 : decode cX6_bestLag 54 = .ok (.iload 9, 2) := by decide +kernel
theorem dX6_bestLag_56 : decode cX6_bestLag 56 = .ok (.iload 6, 2) := by decide +kernel
theorem dX6_bestLag_58 : decode cX6_bestLag 58 = .ok (.imul, 1) := by decide +kernel
theorem dX6_bestLag_59 : decode cX6_bestLag 59 = .ok (.iload 5, 2) := by decide +kernel
theorem dX6_bestLag_61 : decode cX6_bestLag 61 = .ok (.iload 8, 2) := by decide +kernel
theorem dX6_bestLag_63 : decode cX6_bestLag 63 = .ok (.imul, 1) := by decide +kernel
theorem dX6_bestLag_64 : decode cX6_bestLag 64 = .ok (.if_icmp .le 15, 3) := by decide +kernel
theorem dX6_bestLag_67 : decode cX6_bestLag 67 = .ok (.iload 7, 2) := by decide +kernel
theorem dX6_bestLag_69 : decode cX6_bestLag 69 = .ok (.istore 4, 2) := by decide +kernel
theorem dX6_bestLag_71 : decode cX6_bestLag 71 = .ok (.iload 9, 2) := by decide +kernel
theorem dX6_bestLag_73 : decode cX6_bestLag 73 = .ok (.istore 5, 2) := by decide +kernel
theorem dX6_bestLag_75 : decode cX6_bestLag 75 = .ok (.iload 8, 2) := by decide +kernel
theorem dX6_bestLag_77 : decode cX6_bestLag 77 = .ok (.istore 6, 2) := by decide +kernel
theorem dX6_bestLag_79 : decode cX6_bestLag 79 = .ok (.iinc 7 1, 3) := by decide +kernel
theorem dX6_bestLag_82 : decode cX6_bestLag 82 = .ok (.goto (-69), 3) := by decide +kernel
theorem dX6_bestLag_85 : decode cX6_bestLag 85 = .ok (.iload 4, 2) := by decide +kernel
theorem dX6_bestLag_87 : decode cX6_bestLag 87 = .ok (.ireturn, 1) := by decide +kernel
theorem dX6_clockOf_0 : decode cX6_clockOf 0 = .ok (.iconst 0, 1) := by decide +kernel
theorem dX6_clockOf_1 : decode cX6_clockOf 1 = .ok (.istore_n 3, 1) := by decide +kernel
theorem dX6_clockOf_2 : decode cX6_clockOf 2 = .ok (.iconst 0, 1) := by decide +kernel
theorem dX6_clockOf_3 : decode cX6_clockOf 3 = .ok (.istore 4, 2) := by decide +kernel
theorem dX6_clockOf_5 : decode cX6_clockOf 5 = .ok (.iload 4, 2) := by decide +kernel
theorem dX6_clockOf_7 : decode cX6_clockOf 7 = .ok (.aload_n 0, 1) := by decide +kernel
theorem dX6_clockOf_8 : decode cX6_clockOf 8 = .ok (.getfield 60, 3) := by decide +kernel
theorem dX6_clockOf_11 : decode cX6_clockOf 11 = .ok (.if_icmp .ge 31, 3) := by decide +kernel
theorem dX6_clockOf_14 : decode cX6_clockOf 14 = .ok (.aload_n 0, 1) := by decide +kernel
theorem dX6_clockOf_15 : decode cX6_clockOf 15 = .ok (.getfield 18, 3) := by decide +kernel
theorem dX6_clockOf_18 : decode cX6_clockOf 18 = .ok (.iload 4, 2) := by decide +kernel
theorem dX6_clockOf_20 : decode cX6_clockOf 20 = .ok (.baload, 1) := by decide +kernel
theorem dX6_clockOf_21 : decode cX6_clockOf 21 = .ok (.iload_n 1, 1) := by decide +kernel
theorem dX6_clockOf_22 : decode cX6_clockOf 22 = .ok (.if_icmp .ne 14, 3) := by decide +kernel
theorem dX6_clockOf_25 : decode cX6_clockOf 25 = .ok (.iload_n 3, 1) := by decide +kernel
theorem dX6_clockOf_26 : decode cX6_clockOf 26 = .ok (.iload_n 2, 1) := by decide +kernel
theorem dX6_clockOf_27 : decode cX6_clockOf 27 = .ok (.if_icmp .ne 6, 3) := by decide +kernel
theorem dX6_clockOf_30 : decode cX6_clockOf 30 = .ok (.iload 4, 2) := by decide +kernel
theorem dX6_clockOf_32 : decode cX6_clockOf 32 = .ok (.ireturn, 1) := by decide +kernel
theorem dX6_clockOf_33 : decode cX6_clockOf 33 = .ok (.iinc 3 1, 3) := by decide +kernel
theorem dX6_clockOf_36 : decode cX6_clockOf 36 = .ok (.iinc 4 1, 3) := by decide +kernel
theorem dX6_clockOf_39 : decode cX6_clockOf 39 = .ok (.goto (-34), 3) := by decide +kernel
theorem dX6_clockOf_42 : decode cX6_clockOf 42 = .ok (.bipush (-2), 2) := by decide +kernel
theorem dX6_clockOf_44 : decode cX6_clockOf 44 = .ok (.ireturn, 1) := by decide +kernel
theorem dX6_eightBits_0 : decode cX6_eightBits 0 = .ok (.iconst 0, 1) := by decide +kernel
theorem dX6_eightBits_1 : decode cX6_eightBits 1 = .ok (.istore_n 2, 1) := by decide +kernel
theorem dX6_eightBits_2 : decode cX6_eightBits 2 = .ok (.iload_n 1, 1) := by decide +kernel
theorem dX6_eightBits_3 : decode cX6_eightBits 3 = .ok (.istore_n 3, 1) := by decide +kernel
theorem dX6_eightBits_4 : decode cX6_eightBits 4 = .ok (.iload_n 3, 1) := by decide +kernel
theorem dX6_eightBits_5 : decode cX6_eightBits 5 = .ok (.iload_n 1, 1) := by decide +kernel
theorem dX6_eightBits_6 : decode cX6_eightBits 6 = .ok (.bipush 8, 2) := by decide +kernel
theorem dX6_eightBits_8 : decode cX6_eightBits 8 = .ok (.iadd, 1) := by decide +kernel
theorem dX6_eightBits_9 : decode cX6_eightBits 9 = .ok (.if_icmp .ge 29, 3) := by decide +kernel
theorem dX6_eightBits_12 : decode cX6_eightBits 12 = .ok (.iload_n 2, 1) := by decide +kernel
theorem dX6_eightBits_13 : decode cX6_eightBits 13 = .ok (.iconst 2, 1) := by decide +kernel
theorem dX6_eightBits_14 : decode cX6_eightBits 14 = .ok (.imul, 1) := by decide +kernel
theorem dX6_eightBits_15 : decode cX6_eightBits 15 = .ok (.aload_n 0, 1) := by decide +kernel
theorem dX6_eightBits_16 : decode cX6_eightBits 16 = .ok (.getfield 18, 3) := by decide +kernel
theorem dX6_eightBits_19 : decode cX6_eightBits 19 = .ok (.iload_n 3, 1) := by decide +kernel
theorem dX6_eightBits_20 : decode cX6_eightBits 20 = .ok (.baload, 1) := by decide +kernel
theorem dX6_eightBits_21 : decode cX6_eightBits 21 = .ok (.iconst 1, 1) := by decide +kernel
theorem dX6_eightBits_22 : decode cX6_eightBits 22 = .ok (.if_icmp .ne 7, 3) := by decide +kernel
theorem dX6_eightBits_25 : decode cX6_eightBits 25 = .ok (.iconst 1, 1) := by decide +kernel
theorem dX6_eightBits_26 : decode cX6_eightBits 26 = .ok (.goto 4, 3) := by decide +kernel
theorem dX6_eightBits_29 : decode cX6_eightBits 29 = .ok (.iconst 0, 1) := by decide +kernel
theorem dX6_eightBits_30 : decode cX6_eightBits 30 = .ok (.iadd, 1) := by decide +kernel
theorem dX6_eightBits_31 : decode cX6_eightBits 31 = .ok (.istore_n 2, 1) := by decide +kernel
theorem dX6_eightBits_32 : decode cX6_eightBits 32 = .ok (.iinc 3 1, 3) := by decide +kernel
theorem dX6_eightBits_35 : decode cX6_eightBits 35 = .ok (.goto (-31), 3) := by decide +kernel
theorem dX6_eightBits_38 : decode cX6_eightBits 38 = .ok (.iload_n 2, 1) := by decide +kernel
theorem dX6_eightBits_39 : decode cX6_eightBits 39 = .ok (.ireturn, 1) := by decide +kernel
theorem dX6_summedMany_0 : decode cX6_summedMany 0 = .ok (.iload_n 1, 1) := by decide +kernel
theorem dX6_summedMany_1 : decode cX6_summedMany 1 = .ok (.iload_n 2, 1) := by decide +kernel
theorem dX6_summedMany_2 : decode cX6_summedMany 2 = .ok (.iconst 1, 1) := by decide +kernel
theorem dX6_summedMany_3 : decode cX6_summedMany 3 = .ok (.isub, 1) := by decide +kernel
theorem dX6_summedMany_4 : decode cX6_summedMany 4 = .ok (.imul, 1) := by decide +kernel
theorem dX6_summedMany_5 : decode cX6_summedMany 5 = .ok (.istore_n 3, 1) := by decide +kernel
theorem dX6_summedMany_6 : decode cX6_summedMany 6 = .ok (.iload_n 2, 1) := by decide +kernel
theorem dX6_summedMany_7 : decode cX6_summedMany 7 = .ok (.iconst 1, 1) := by decide +kernel
theorem dX6_summedMany_8 : decode cX6_summedMany 8 = .ok (.if_icmp .lt 11, 3) := by decide +kernel
theorem dX6_summedMany_11 : decode cX6_summedMany 11 = .ok (.iload_n 3, 1) := by decide +kernel
theorem dX6_summedMany_12 : decode cX6_summedMany 12 = .ok (.aload_n 0, 1) := by decide +kernel
theorem dX6_summedMany_13 : decode cX6_summedMany 13 = .ok (.getfield 60, 3) := by decide +kernel
theorem dX6_summedMany_16 : decode cX6_summedMany 16 = .ok (.if_icmp .lt 7, 3) := by decide +kernel
theorem dX6_summedMany_19 : decode cX6_summedMany 19 = .ok (.iconst 0, 1) := by decide +kernel
theorem dX6_summedMany_20 : decode cX6_summedMany 20 = .ok (.goto 15, 3) := by decide +kernel
theorem dX6_summedMany_23 : decode cX6_summedMany 23 = .ok (.aload_n 0, 1) := by decide +kernel
theorem dX6_summedMany_24 : decode cX6_summedMany 24 = .ok (.getfield 60, 3) := by decide +kernel
theorem dX6_summedMany_27 : decode cX6_summedMany 27 = .ok (.iconst 1, 1) := by decide +kernel
theorem dX6_summedMany_28 : decode cX6_summedMany 28 = .ok (.isub, 1) := by decide +kernel
theorem dX6_summedMany_29 : decode cX6_summedMany 29 = .ok (.iload_n 3, 1) := by decide +kernel
theorem dX6_summedMany_30 : decode cX6_summedMany 30 = .ok (.isub, 1) := by decide +kernel
theorem dX6_summedMany_31 : decode cX6_summedMany 31 = .ok (.iload_n 2, 1) := by decide +kernel
theorem dX6_summedMany_32 : decode cX6_summedMany 32 = .ok (.idiv, 1) := by decide +kernel
theorem dX6_summedMany_33 : decode cX6_summedMany 33 = .ok (.iconst 1, 1) := by decide +kernel
theorem dX6_summedMany_34 : decode cX6_summedMany 34 = .ok (.iadd, 1) := by decide +kernel
theorem dX6_summedMany_35 : decode cX6_summedMany 35 = .ok (.ireturn, 1) := by decide +kernel
theorem dX6_weighedOuts_0 : decode cX6_weighedOuts 0 = .ok (.iconst 0, 1) := by decide +kernel
theorem dX6_weighedOuts_1 : decode cX6_weighedOuts 1 = .ok (.istore_n 3, 1) := by decide +kernel
theorem dX6_weighedOuts_2 : decode cX6_weighedOuts 2 = .ok (.iconst 0, 1) := by decide +kernel
theorem dX6_weighedOuts_3 : decode cX6_weighedOuts 3 = .ok (.istore 4, 2) := by decide +kernel
theorem dX6_weighedOuts_5 : decode cX6_weighedOuts 5 = .ok (.iload 4, 2) := by decide +kernel
theorem dX6_weighedOuts_7 : decode cX6_weighedOuts 7 = .ok (.aload_n 1, 1) := by decide +kernel
theorem dX6_weighedOuts_8 : decode cX6_weighedOuts 8 = .ok (.getfield 114, 3) := by decide +kernel
theorem dX6_weighedOuts_11 : decode cX6_weighedOuts 11 = .ok (.if_icmp .ge 29, 3) := by decide +kernel
theorem dX6_weighedOuts_14 : decode cX6_weighedOuts 14 = .ok (.iload_n 3, 1) := by decide +kernel
theorem dX6_weighedOuts_15 : decode cX6_weighedOuts 15 = .ok (.aload_n 1, 1) := by decide +kernel
theorem dX6_weighedOuts_16 : decode cX6_weighedOuts 16 = .ok (.getfield 119, 3) := by decide +kernel
theorem dX6_weighedOuts_19 : decode cX6_weighedOuts 19 = .ok (.iload 4, 2) := by decide +kernel
theorem dX6_weighedOuts_21 : decode cX6_weighedOuts 21 = .ok (.iaload, 1) := by decide +kernel
theorem dX6_weighedOuts_22 : decode cX6_weighedOuts 22 = .ok (.aload_n 0, 1) := by decide +kernel
theorem dX6_weighedOuts_23 : decode cX6_weighedOuts 23 = .ok (.getfield 18, 3) := by decide +kernel
theorem dX6_weighedOuts_26 : decode cX6_weighedOuts 26 = .ok (.iload_n 2, 1) := by decide +kernel
theorem dX6_weighedOuts_27 : decode cX6_weighedOuts 27 = .ok (.iload 4, 2) := by decide +kernel
theorem dX6_weighedOuts_29 : decode cX6_weighedOuts 29 = .ok (.iadd, 1) := by decide +kernel
theorem dX6_weighedOuts_30 : decode cX6_weighedOuts 30 = .ok (.baload, 1) := by decide +kernel
theorem dX6_weighedOuts_31 : decode cX6_weighedOuts 31 = .ok (.imul, 1) := by decide +kernel
theorem dX6_weighedOuts_32 : decode cX6_weighedOuts 32 = .ok (.iadd, 1) := by decide +kernel
theorem dX6_weighedOuts_33 : decode cX6_weighedOuts 33 = .ok (.istore_n 3, 1) := by decide +kernel
theorem dX6_weighedOuts_34 : decode cX6_weighedOuts 34 = .ok (.iinc 4 1, 3) := by decide +kernel
theorem dX6_weighedOuts_37 : decode cX6_weighedOuts 37 = .ok (.goto (-32), 3) := by decide +kernel
theorem dX6_weighedOuts_40 : decode cX6_weighedOuts 40 = .ok (.iload_n 3, 1) := by decide +kernel
theorem dX6_weighedOuts_41 : decode cX6_weighedOuts 41 = .ok (.ireturn, 1) := by decide +kernel
theorem dX6_weighedGaps_0 : decode cX6_weighedGaps 0 = .ok (.iconst 0, 1) := by decide +kernel
theorem dX6_weighedGaps_1 : decode cX6_weighedGaps 1 = .ok (.istore_n 3, 1) := by decide +kernel
theorem dX6_weighedGaps_2 : decode cX6_weighedGaps 2 = .ok (.iconst 0, 1) := by decide +kernel
theorem dX6_weighedGaps_3 : decode cX6_weighedGaps 3 = .ok (.istore 4, 2) := by decide +kernel
theorem dX6_weighedGaps_5 : decode cX6_weighedGaps 5 = .ok (.iload 4, 2) := by decide +kernel
theorem dX6_weighedGaps_7 : decode cX6_weighedGaps 7 = .ok (.aload_n 1, 1) := by decide +kernel
theorem dX6_weighedGaps_8 : decode cX6_weighedGaps 8 = .ok (.getfield 114, 3) := by decide +kernel
theorem dX6_weighedGaps_11 : decode cX6_weighedGaps 11 = .ok (.if_icmp .ge 29, 3) := by decide +kernel
theorem dX6_weighedGaps_14 : decode cX6_weighedGaps 14 = .ok (.iload_n 3, 1) := by decide +kernel
theorem dX6_weighedGaps_15 : decode cX6_weighedGaps 15 = .ok (.aload_n 1, 1) := by decide +kernel
theorem dX6_weighedGaps_16 : decode cX6_weighedGaps 16 = .ok (.getfield 119, 3) := by decide +kernel
theorem dX6_weighedGaps_19 : decode cX6_weighedGaps 19 = .ok (.iload 4, 2) := by decide +kernel
theorem dX6_weighedGaps_21 : decode cX6_weighedGaps 21 = .ok (.iaload, 1) := by decide +kernel
theorem dX6_weighedGaps_22 : decode cX6_weighedGaps 22 = .ok (.aload_n 0, 1) := by decide +kernel
theorem dX6_weighedGaps_23 : decode cX6_weighedGaps 23 = .ok (.getfield 22, 3) := by decide +kernel
theorem dX6_weighedGaps_26 : decode cX6_weighedGaps 26 = .ok (.iload_n 2, 1) := by decide +kernel
theorem dX6_weighedGaps_27 : decode cX6_weighedGaps 27 = .ok (.iload 4, 2) := by decide +kernel
theorem dX6_weighedGaps_29 : decode cX6_weighedGaps 29 = .ok (.iadd, 1) := by decide +kernel
theorem dX6_weighedGaps_30 : decode cX6_weighedGaps 30 = .ok (.iaload, 1) := by decide +kernel
theorem dX6_weighedGaps_31 : decode cX6_weighedGaps 31 = .ok (.imul, 1) := by decide +kernel
theorem dX6_weighedGaps_32 : decode cX6_weighedGaps 32 = .ok (.iadd, 1) := by decide +kernel
theorem dX6_weighedGaps_33 : decode cX6_weighedGaps 33 = .ok (.istore_n 3, 1) := by decide +kernel
theorem dX6_weighedGaps_34 : decode cX6_weighedGaps 34 = .ok (.iinc 4 1, 3) := by decide +kernel
theorem dX6_weighedGaps_37 : decode cX6_weighedGaps 37 = .ok (.goto (-32), 3) := by decide +kernel
theorem dX6_weighedGaps_40 : decode cX6_weighedGaps 40 = .ok (.iload_n 3, 1) := by decide +kernel
theorem dX6_weighedGaps_41 : decode cX6_weighedGaps 41 = .ok (.ireturn, 1) := by decide +kernel
theorem dX7_init_0 : decode cX7_init 0 = .ok (.aload_n 0, 1) := by decide +kernel
theorem dX7_init_1 : decode cX7_init 1 = .ok (.invokespecial 3, 3) := by decide +kernel
theorem dX7_init_4 : decode cX7_init 4 = .ok (.aload_n 0, 1) := by decide +kernel
theorem dX7_init_5 : decode cX7_init 5 = .ok (.bipush 8, 2) := by decide +kernel
theorem dX7_init_7 : decode cX7_init 7 = .ok (.newarray .int, 2) := by decide +kernel
theorem dX7_init_9 : decode cX7_init 9 = .ok (.putfield 9, 3) := by decide +kernel
theorem dX7_init_12 : decode cX7_init 12 = .ok (.aload_n 0, 1) := by decide +kernel
theorem dX7_init_13 : decode cX7_init 13 = .ok (.bipush 8, 2) := by decide +kernel
theorem dX7_init_15 : decode cX7_init 15 = .ok (.newarray .int, 2) := by decide +kernel
theorem dX7_init_17 : decode cX7_init 17 = .ok (.putfield 15, 3) := by decide +kernel
theorem dX7_init_20 : decode cX7_init 20 = .ok (.aload_n 0, 1) := by decide +kernel
theorem dX7_init_21 : decode cX7_init 21 = .ok (.bipush 8, 2) := by decide +kernel
theorem dX7_init_23 : decode cX7_init 23 = .ok (.newarray .int, 2) := by decide +kernel
theorem dX7_init_25 : decode cX7_init 25 = .ok (.putfield 18, 3) := by decide +kernel
theorem dX7_init_28 : decode cX7_init 28 = .ok (.aload_n 0, 1) := by decide +kernel
theorem dX7_init_29 : decode cX7_init 29 = .ok (.bipush 8, 2) := by decide +kernel
theorem dX7_init_31 : decode cX7_init 31 = .ok (.newarray .int, 2) := by decide +kernel
theorem dX7_init_33 : decode cX7_init 33 = .ok (.putfield 21, 3) := by decide +kernel
theorem dX7_init_36 : decode cX7_init 36 = .ok (.return_, 1) := by decide +kernel
theorem dX7_clear_0 : decode cX7_clear 0 = .ok (.aload_n 0, 1) := by decide +kernel
theorem dX7_clear_1 : decode cX7_clear 1 = .ok (.iconst 0, 1) := by decide +kernel
theorem dX7_clear_2 : decode cX7_clear 2 = .ok (.putfield 24, 3) := by decide +kernel
theorem dX7_clear_5 : decode cX7_clear 5 = .ok (.aload_n 0, 1) := by decide +kernel
theorem dX7_clear_6 : decode cX7_clear 6 = .ok (.iconst 0, 1) := by decide +kernel
theorem dX7_clear_7 : decode cX7_clear 7 = .ok (.putfield 28, 3) := by decide +kernel
theorem dX7_clear_10 : decode cX7_clear 10 = .ok (.aload_n 0, 1) := by decide +kernel
theorem dX7_clear_11 : decode cX7_clear 11 = .ok (.iconst 0, 1) := by decide +kernel
theorem dX7_clear_12 : decode cX7_clear 12 = .ok (.putfield 31, 3) := by decide +kernel
theorem dX7_clear_15 : decode cX7_clear 15 = .ok (.return_, 1) := by decide +kernel
theorem dX7_addPiece_0 : decode cX7_addPiece 0 = .ok (.aload_n 0, 1) := by decide +kernel
theorem dX7_addPiece_1 : decode cX7_addPiece 1 = .ok (.getfield 28, 3) := by decide +kernel
theorem dX7_addPiece_4 : decode cX7_addPiece 4 = .ok (.bipush 8, 2) := by decide +kernel
theorem dX7_addPiece_6 : decode cX7_addPiece 6 = .ok (.if_icmp .lt 4, 3) := by decide +kernel
theorem dX7_addPiece_9 : decode cX7_addPiece 9 = .ok (.return_, 1) := by decide +kernel
theorem dX7_addPiece_10 : decode cX7_addPiece 10 = .ok (.aload_n 0, 1) := by decide +kernel
theorem dX7_addPiece_11 : decode cX7_addPiece 11 = .ok (.getfield 9, 3) := by decide +kernel
theorem dX7_addPiece_14 : decode cX7_addPiece 14 = .ok (.aload_n 0, 1) := by decide +kernel
theorem dX7_addPiece_15 : decode cX7_addPiece 15 = .ok (.getfield 28, 3) := by decide +kernel
theorem dX7_addPiece_18 : decode cX7_addPiece 18 = .ok (.iload_n 1, 1) := by decide +kernel
theorem dX7_addPiece_19 : decode cX7_addPiece 19 = .ok (.iastore, 1) := by decide +kernel
theorem dX7_addPiece_20 : decode cX7_addPiece 20 = .ok (.aload_n 0, 1) := by decide +kernel
theorem dX7_addPiece_21 : decode cX7_addPiece 21 = .ok (.getfield 15, 3) := by decide +kernel
theorem dX7_addPiece_24 : decode cX7_addPiece 24 = .ok (.aload_n 0, 1) := by decide +kernel
theorem dX7_addPiece_25 : decode cX7_addPiece 25 = .ok (.getfield 28, 3) := by decide +kernel
theorem dX7_addPiece_28 : decode cX7_addPiece 28 = .ok (.iload_n 2, 1) := by decide +kernel
theorem dX7_addPiece_29 : decode cX7_addPiece 29 = .ok (.iastore, 1) := by decide +kernel
theorem dX7_addPiece_30 : decode cX7_addPiece 30 = .ok (.aload_n 0, 1) := by decide +kernel
theorem dX7_addPiece_31 : decode cX7_addPiece 31 = .ok (.getfield 18, 3) := by decide +kernel
theorem dX7_addPiece_34 : decode cX7_addPiece 34 = .ok (.aload_n 0, 1) := by decide +kernel
theorem dX7_addPiece_35 : decode cX7_addPiece 35 = .ok (.getfield 28, 3) := by decide +kernel
theorem dX7_addPiece_38 : decode cX7_addPiece 38 = .ok (.iload_n 3, 1) := by decide +kernel
theorem dX7_addPiece_39 : decode cX7_addPiece 39 = .ok (.iastore, 1) := by decide +kernel
theorem dX7_addPiece_40 : decode cX7_addPiece 40 = .ok (.aload_n 0, 1) := by decide +kernel
theorem dX7_addPiece_41 : decode cX7_addPiece 41 = .ok (.getfield 21, 3) := by decide +kernel
theorem dX7_addPiece_44 : decode cX7_addPiece 44 = .ok (.aload_n 0, 1) := by decide +kernel
theorem dX7_addPiece_45 : decode cX7_addPiece 45 = .ok (.getfield 28, 3) := by decide +kernel
theorem dX7_addPiece_48 : decode cX7_addPiece 48 = .ok (.iload 4, 2) := by decide +kernel
theorem dX7_addPiece_50 : decode cX7_addPiece 50 = .ok (.iastore, 1) := by decide +kernel
theorem dX7_addPiece_51 : decode cX7_addPiece 51 = .ok (.aload_n 0, 1) := by decide +kernel
theorem dX7_addPiece_52 : decode cX7_addPiece 52 = .ok (.dup, 1) := by decide +kernel
theorem dX7_addPiece_53 : decode cX7_addPiece 53 = .ok (.getfield 28, 3) := by decide +kernel
theorem dX7_addPiece_56 : decode cX7_addPiece 56 = .ok (.iconst 1, 1) := by decide +kernel
theorem dX7_addPiece_57 : decode cX7_addPiece 57 = .ok (.iadd, 1) := by decide +kernel
theorem dX7_addPiece_58 : decode cX7_addPiece 58 = .ok (.putfield 28, 3) := by decide +kernel
theorem dX7_addPiece_61 : decode cX7_addPiece 61 = .ok (.aload_n 0, 1) := by decide +kernel
theorem dX7_addPiece_62 : decode cX7_addPiece 62 = .ok (.dup, 1) := by decide +kernel
theorem dX7_addPiece_63 : decode cX7_addPiece 63 = .ok (.getfield 31, 3) := by decide +kernel
theorem dX7_addPiece_66 : decode cX7_addPiece 66 = .ok (.iload 4, 2) := by decide +kernel
theorem dX7_addPiece_68 : decode cX7_addPiece 68 = .ok (.iadd, 1) := by decide +kernel
theorem dX7_addPiece_69 : decode cX7_addPiece 69 = .ok (.putfield 31, 3) := by decide +kernel
theorem dX7_addPiece_72 : decode cX7_addPiece 72 = .ok (.return_, 1) := by decide +kernel
theorem dX7_property_0 : decode cX7_property 0 = .ok (.iload_n 1, 1) := by decide +kernel
theorem dX7_property_1 : decode cX7_property 1 = .ok (.tableswitch 42 0 2 #[27, 32, 37], 27) := by decide +kernel
theorem dX7_property_28 : decode cX7_property 28 = .ok (.aload_n 0, 1) := by decide +kernel
theorem dX7_property_29 : decode cX7_property 29 = .ok (.getfield 28, 3) := by decide +kernel
theorem dX7_property_32 : decode cX7_property 32 = .ok (.ireturn, 1) := by decide +kernel
theorem dX7_property_33 : decode cX7_property 33 = .ok (.aload_n 0, 1) := by decide +kernel
theorem dX7_property_34 : decode cX7_property 34 = .ok (.getfield 31, 3) := by decide +kernel
theorem dX7_property_37 : decode cX7_property 37 = .ok (.ireturn, 1) := by decide +kernel
theorem dX7_property_38 : decode cX7_property 38 = .ok (.aload_n 0, 1) := by decide +kernel
theorem dX7_property_39 : decode cX7_property 39 = .ok (.invokevirtual 34, 3) := by decide +kernel
theorem dX7_property_42 : decode cX7_property 42 = .ok (.ireturn, 1) := by decide +kernel
theorem dX7_property_43 : decode cX7_property 43 = .ok (.aload_n 0, 1) := by decide +kernel
theorem dX7_property_44 : decode cX7_property 44 = .ok (.invokevirtual 38, 3) := by decide +kernel
theorem dX7_property_47 : decode cX7_property 47 = .ok (.ireturn, 1) := by decide +kernel
theorem dX7_least_0 : decode cX7_least 0 = .ok (.sipush 1000, 3) := by decide +kernel
theorem dX7_least_3 : decode cX7_least 3 = .ok (.istore_n 1, 1) := by decide +kernel
theorem dX7_least_4 : decode cX7_least 4 = .ok (.iconst 0, 1) := by decide +kernel
theorem dX7_least_5 : decode cX7_least 5 = .ok (.istore_n 2, 1) := by decide +kernel
theorem dX7_least_6 : decode cX7_least 6 = .ok (.iload_n 2, 1) := by decide +kernel
theorem dX7_least_7 : decode cX7_least 7 = .ok (.aload_n 0, 1) := by decide +kernel
theorem dX7_least_8 : decode cX7_least 8 = .ok (.getfield 31, 3) := by decide +kernel
theorem dX7_least_11 : decode cX7_least 11 = .ok (.if_icmp .ge 19, 3) := by decide +kernel
theorem dX7_least_14 : decode cX7_least 14 = .ok (.iload_n 1, 1) := by decide +kernel
theorem dX7_least_15 : decode cX7_least 15 = .ok (.aload_n 0, 1) := by decide +kernel
theorem dX7_least_16 : decode cX7_least 16 = .ok (.iload_n 2, 1) := by decide +kernel
theorem dX7_least_17 : decode cX7_least 17 = .ok (.invokevirtual 41, 3) := by decide +kernel
theorem dX7_least_20 : decode cX7_least 20 = .ok (.invokestatic 45, 3) := by decide +kernel
theorem dX7_least_23 : decode cX7_least 23 = .ok (.istore_n 1, 1) := by decide +kernel
theorem dX7_least_24 : decode cX7_least 24 = .ok (.iinc 2 1, 3) := by decide +kernel
theorem dX7_least_27 : decode cX7_least 27 = .ok (.goto (-21), 3) := by decide +kernel
theorem dX7_least_30 : decode cX7_least 30 = .ok (.iload_n 1, 1) := by decide +kernel
theorem dX7_least_31 : decode cX7_least 31 = .ok (.ireturn, 1) := by decide +kernel
theorem dX7_greatest_0 : decode cX7_greatest 0 = .ok (.sipush (-1000), 3) := by decide +kernel
theorem dX7_greatest_3 : decode cX7_greatest 3 = .ok (.istore_n 1, 1) := by decide +kernel
theorem dX7_greatest_4 : decode cX7_greatest 4 = .ok (.iconst 0, 1) := by decide +kernel
theorem dX7_greatest_5 : decode cX7_greatest 5 = .ok (.istore_n 2, 1) := by decide +kernel
theorem dX7_greatest_6 : decode cX7_greatest 6 = .ok (.iload_n 2, 1) := by decide +kernel
theorem dX7_greatest_7 : decode cX7_greatest 7 = .ok (.aload_n 0, 1) := by decide +kernel
theorem dX7_greatest_8 : decode cX7_greatest 8 = .ok (.getfield 31, 3) := by decide +kernel
theorem dX7_greatest_11 : decode cX7_greatest 11 = .ok (.if_icmp .ge 19, 3) := by decide +kernel
theorem dX7_greatest_14 : decode cX7_greatest 14 = .ok (.iload_n 1, 1) := by decide +kernel
theorem dX7_greatest_15 : decode cX7_greatest 15 = .ok (.aload_n 0, 1) := by decide +kernel
theorem dX7_greatest_16 : decode cX7_greatest 16 = .ok (.iload_n 2, 1) := by decide +kernel
theorem dX7_greatest_17 : decode cX7_greatest 17 = .ok (.invokevirtual 41, 3) := by decide +kernel
theorem dX7_greatest_20 : decode cX7_greatest 20 = .ok (.invokestatic 51, 3) := by decide +kernel
theorem dX7_greatest_23 : decode cX7_greatest 23 = .ok (.istore_n 1, 1) := by decide +kernel
theorem dX7_greatest_24 : decode cX7_greatest 24 = .ok (.iinc 2 1, 3) := by decide +kernel
theorem dX7_greatest_27 : decode cX7_greatest 27 = .ok (.goto (-21), 3) := by decide +kernel
theorem dX7_greatest_30 : decode cX7_greatest 30 = .ok (.iload_n 1, 1) := by decide +kernel
theorem dX7_greatest_31 : decode cX7_greatest 31 = .ok (.ireturn, 1) := by decide +kernel
theorem dX7_levelAt_0 : decode cX7_levelAt 0 = .ok (.aload_n 0, 1) := by decide +kernel
theorem dX7_levelAt_1 : decode cX7_levelAt 1 = .ok (.getfield 31, 3) := by decide +kernel
theorem dX7_levelAt_4 : decode cX7_levelAt 4 = .ok (.ifCond .le 14, 3) := by decide +kernel
theorem dX7_levelAt_7 : decode cX7_levelAt 7 = .ok (.iload_n 1, 1) := by decide +kernel
theorem dX7_levelAt_8 : decode cX7_levelAt 8 = .ok (.aload_n 0, 1) := by decide +kernel
theorem dX7_levelAt_9 : decode cX7_levelAt 9 = .ok (.getfield 31, 3) := by decide +kernel
theorem dX7_levelAt_12 : decode cX7_levelAt 12 = .ok (.invokestatic 54, 3) := by decide +kernel
theorem dX7_levelAt_15 : decode cX7_levelAt 15 = .ok (.goto 4, 3) := by decide +kernel
theorem dX7_levelAt_18 : decode cX7_levelAt 18 = .ok (.iconst 0, 1) := by decide +kernel
theorem dX7_levelAt_19 : decode cX7_levelAt 19 = .ok (.istore_n 2, 1) := by decide +kernel
theorem dX7_levelAt_20 : decode cX7_levelAt 20 = .ok (.iconst 0, 1) := by decide +kernel
theorem dX7_levelAt_21 : decode cX7_levelAt 21 = .ok (.istore_n 3, 1) := by decide +kernel
theorem dX7_levelAt_22 : decode cX7_levelAt 22 = .ok (.iload_n 3, 1) := by decide +kernel
theorem dX7_levelAt_23 : decode cX7_levelAt 23 = .ok (.aload_n 0, 1) := by decide +kernel
theorem dX7_levelAt_24 : decode cX7_levelAt 24 = .ok (.getfield 28, 3) := by decide +kernel
theorem dX7_levelAt_27 : decode cX7_levelAt 27 = .ok (.if_icmp .ge 35, 3) := by decide +kernel
theorem dX7_levelAt_30 : decode cX7_levelAt 30 = .ok (.iload_n 2, 1) := by decide +kernel
theorem dX7_levelAt_31 : decode cX7_levelAt 31 = .ok (.aload_n 0, 1) := by decide +kernel
theorem dX7_levelAt_32 : decode cX7_levelAt 32 = .ok (.getfield 21, 3) := by decide +kernel
theorem dX7_levelAt_35 : decode cX7_levelAt 35 = .ok (.iload_n 3, 1) := by decide +kernel
theorem dX7_levelAt_36 : decode cX7_levelAt 36 = .ok (.iaload, 1) := by decide +kernel
theorem dX7_levelAt_37 : decode cX7_levelAt 37 = .ok (.if_icmp .ge 10, 3) := by decide +kernel
theorem dX7_levelAt_40 : decode cX7_levelAt 40 = .ok (.aload_n 0, 1) := by decide +kernel
theorem dX7_levelAt_41 : decode cX7_levelAt 41 = .ok (.iload_n 3, 1) := by decide +kernel
theorem dX7_levelAt_42 : decode cX7_levelAt 42 = .ok (.iload_n 2, 1) := by decide +kernel
theorem dX7_levelAt_43 : decode cX7_levelAt 43 = .ok (.invokevirtual 57, 3) := by decide +kernel
theorem dX7_levelAt_46 : decode cX7_levelAt 46 = .ok (.ireturn, 1) := by decide +kernel
theorem dX7_levelAt_47 : decode cX7_levelAt 47 = .ok (.iload_n 2, 1) := by decide +kernel
theorem dX7_levelAt_48 : decode cX7_levelAt 48 = .ok (.aload_n 0, 1) := by decide +kernel
theorem dX7_levelAt_49 : decode cX7_levelAt 49 = .ok (.getfield 21, 3) := by decide +kernel
theorem dX7_levelAt_52 : decode cX7_levelAt 52 = .ok (.iload_n 3, 1) := by decide +kernel
theorem dX7_levelAt_53 : decode cX7_levelAt 53 = .ok (.iaload, 1) := by decide +kernel
theorem dX7_levelAt_54 : decode cX7_levelAt 54 = .ok (.isub, 1) := by decide +kernel
theorem dX7_levelAt_55 : decode cX7_levelAt 55 = .ok (.istore_n 2, 1) := by decide +kernel
theorem dX7_levelAt_56 : decode cX7_levelAt 56 = .ok (.iinc 3 1, 3) := by decide +kernel
theorem dX7_levelAt_59 : decode cX7_levelAt 59 = .ok (.goto (-37), 3) := by decide +kernel
theorem dX7_levelAt_62 : decode cX7_levelAt 62 = .ok (.iconst 0, 1) := by decide +kernel
theorem dX7_levelAt_63 : decode cX7_levelAt 63 = .ok (.ireturn, 1) := by decide +kernel
theorem dX7_levelIn_0 : decode cX7_levelIn 0 = .ok (.aload_n 0, 1) := by decide +kernel
theorem dX7_levelIn_1 : decode cX7_levelIn 1 = .ok (.getfield 15, 3) := by decide +kernel
theorem dX7_levelIn_4 : decode cX7_levelIn 4 = .ok (.iload_n 1, 1) := by decide +kernel
theorem dX7_levelIn_5 : decode cX7_levelIn 5 = .ok (.iaload, 1) := by decide +kernel
theorem dX7_levelIn_6 : decode cX7_levelIn 6 = .ok (.istore_n 3, 1) := by decide +kernel
theorem dX7_levelIn_7 : decode cX7_levelIn 7 = .ok (.aload_n 0, 1) := by decide +kernel
theorem dX7_levelIn_8 : decode cX7_levelIn 8 = .ok (.getfield 18, 3) := by decide +kernel
theorem dX7_levelIn_11 : decode cX7_levelIn 11 = .ok (.iload_n 1, 1) := by decide +kernel
theorem dX7_levelIn_12 : decode cX7_levelIn 12 = .ok (.iaload, 1) := by decide +kernel
theorem dX7_levelIn_13 : decode cX7_levelIn 13 = .ok (.istore 4, 2) := by decide +kernel
theorem dX7_levelIn_15 : decode cX7_levelIn 15 = .ok (.aload_n 0, 1) := by decide +kernel
theorem dX7_levelIn_16 : decode cX7_levelIn 16 = .ok (.getfield 9, 3) := by decide +kernel
theorem dX7_levelIn_19 : decode cX7_levelIn 19 = .ok (.iload_n 1, 1) := by decide +kernel
theorem dX7_levelIn_20 : decode cX7_levelIn 20 = .ok (.iaload, 1) := by decide +kernel
theorem dX7_levelIn_21 : decode cX7_levelIn 21 = .ok (.iconst 1, 1) := by decide +kernel
theorem dX7_levelIn_22 : decode cX7_levelIn 22 = .ok (.if_icmp .ne 30, 3) := by decide +kernel
theorem dX7_levelIn_25 : decode cX7_levelIn 25 = .ok (.aload_n 0, 1) := by decide +kernel
theorem dX7_levelIn_26 : decode cX7_levelIn 26 = .ok (.getfield 21, 3) := by decide +kernel
theorem dX7_levelIn_29 : decode cX7_levelIn 29 = .ok (.iload_n 1, 1) := by decide +kernel
theorem dX7_levelIn_30 : decode cX7_levelIn 30 = .ok (.iaload, 1) := by decide +kernel
theorem dX7_levelIn_31 : decode cX7_levelIn 31 = .ok (.ifCond .le 21, 3) := by decide +kernel
theorem dX7_levelIn_34 : decode cX7_levelIn 34 = .ok (.iload_n 3, 1) := by decide +kernel
theorem dX7_levelIn_35 : decode cX7_levelIn 35 = .ok (.iload 4, 2) := by decide +kernel
theorem dX7_levelIn_37 : decode cX7_levelIn 37 = .ok (.iload_n 3, 1) := by decide +kernel
theorem dX7_levelIn_38 : decode cX7_levelIn 38 = .ok (.isub, 1) := by decide +kernel
theorem dX7_levelIn_39 : decode cX7_levelIn 39 = .ok (.iload_n 2, 1) := by decide +kernel
theorem dX7_levelIn_40 : decode cX7_levelIn 40 = .ok (.imul, 1) := by decide +kernel
theorem dX7_levelIn_41 : decode cX7_levelIn 41 = .ok (.aload_n 0, 1) := by decide +kernel
theorem dX7_levelIn_42 : decode cX7_levelIn 42 = .ok (.getfield 21, 3) := by decide +kernel
theorem dX7_levelIn_45 : decode cX7_levelIn 45 = .ok (.iload_n 1, 1) := by decide +kernel
theorem dX7_levelIn_46 : decode cX7_levelIn 46 = .ok (.iaload, 1) := by decide +kernel
theorem dX7_levelIn_47 : decode cX7_levelIn 47 = .ok (.invokestatic 60, 3) := by decide +kernel
theorem dX7_levelIn_50 : decode cX7_levelIn 50 = .ok (.iadd, 1) := by decide +kernel
theorem dX7_levelIn_51 : decode cX7_levelIn 51 = .ok (.ireturn, 1) := by decide +kernel
theorem dX7_levelIn_52 : decode cX7_levelIn 52 = .ok (.aload_n 0, 1) := by decide +kernel
theorem dX7_levelIn_53 : decode cX7_levelIn 53 = .ok (.getfield 9, 3) := by decide +kernel
theorem dX7_levelIn_56 : decode cX7_levelIn 56 = .ok (.iload_n 1, 1) := by decide +kernel
theorem dX7_levelIn_57 : decode cX7_levelIn 57 = .ok (.iaload, 1) := by decide +kernel
theorem dX7_levelIn_58 : decode cX7_levelIn 58 = .ok (.iconst 2, 1) := by decide +kernel
theorem dX7_levelIn_59 : decode cX7_levelIn 59 = .ok (.if_icmp .ne 41, 3) := by decide +kernel
theorem dX7_levelIn_62 : decode cX7_levelIn 62 = .ok (.iload 4, 2) := by decide +kernel
theorem dX7_levelIn_64 : decode cX7_levelIn 64 = .ok (.ifCond .le 36, 3) := by decide +kernel
theorem dX7_levelIn_67 : decode cX7_levelIn 67 = .ok (.iload_n 2, 1) := by decide +kernel
theorem dX7_levelIn_68 : decode cX7_levelIn 68 = .ok (.iload 4, 2) := by decide +kernel
theorem dX7_levelIn_70 : decode cX7_levelIn 70 = .ok (.irem, 1) := by decide +kernel
theorem dX7_levelIn_71 : decode cX7_levelIn 71 = .ok (.istore 5, 2) := by decide +kernel
theorem dX7_levelIn_73 : decode cX7_levelIn 73 = .ok (.iload 5, 2) := by decide +kernel
theorem dX7_levelIn_75 : decode cX7_levelIn 75 = .ok (.iload 4, 2) := by decide +kernel
theorem dX7_levelIn_77 : decode cX7_levelIn 77 = .ok (.iload 5, 2) := by decide +kernel
theorem dX7_levelIn_79 : decode cX7_levelIn 79 = .ok (.isub, 1) := by decide +kernel
theorem dX7_levelIn_80 : decode cX7_levelIn 80 = .ok (.invokestatic 45, 3) := by decide +kernel
theorem dX7_levelIn_83 : decode cX7_levelIn 83 = .ok (.istore 6, 2) := by decide +kernel
theorem dX7_levelIn_85 : decode cX7_levelIn 85 = .ok (.iload_n 3, 1) := by decide +kernel
theorem dX7_levelIn_86 : decode cX7_levelIn 86 = .ok (.iload 4, 2) := by decide +kernel
theorem dX7_levelIn_88 : decode cX7_levelIn 88 = .ok (.iconst 4, 1) := by decide +kernel
theorem dX7_levelIn_89 : decode cX7_levelIn 89 = .ok (.iload 6, 2) := by decide +kernel
theorem dX7_levelIn_91 : decode cX7_levelIn 91 = .ok (.imul, 1) := by decide +kernel
theorem dX7_levelIn_92 : decode cX7_levelIn 92 = .ok (.isub, 1) := by decide +kernel
theorem dX7_levelIn_93 : decode cX7_levelIn 93 = .ok (.imul, 1) := by decide +kernel
theorem dX7_levelIn_94 : decode cX7_levelIn 94 = .ok (.iload 4, 2) := by decide +kernel
theorem dX7_levelIn_96 : decode cX7_levelIn 96 = .ok (.invokestatic 60, 3) := by decide +kernel
theorem dX7_levelIn_99 : decode cX7_levelIn 99 = .ok (.ireturn, 1) := by decide +kernel
theorem dX7_levelIn_100 : decode cX7_levelIn 100 = .ok (.iload_n 3, 1) := by decide +kernel
theorem dX7_levelIn_101 : decode cX7_levelIn 101 = .ok (.ireturn, 1) := by decide +kernel
theorem dX8_init_0 : decode cX8_init 0 = .ok (.aload_n 0, 1) := by decide +kernel
theorem dX8_init_1 : decode cX8_init 1 = .ok (.invokespecial 3, 3) := by decide +kernel
theorem dX8_init_4 : decode cX8_init 4 = .ok (.aload_n 0, 1) := by decide +kernel
theorem dX8_init_5 : decode cX8_init 5 = .ok (.bipush 94, 2) := by decide +kernel
theorem dX8_init_7 : decode cX8_init 7 = .ok (.newarray .int, 2) := by decide +kernel
theorem dX8_init_9 : decode cX8_init 9 = .ok (.putfield 9, 3) := by decide +kernel
theorem dX8_init_12 : decode cX8_init 12 = .ok (.return_, 1) := by decide +kernel
theorem dX8_prepare_0 : decode cX8_prepare 0 = .ok (.aload_n 0, 1) := by decide +kernel
theorem dX8_prepare_1 : decode cX8_prepare 1 = .ok (.getfield 9, 3) := by decide +kernel
theorem dX8_prepare_4 : decode cX8_prepare 4 = .ok (.iconst 0, 1) := by decide +kernel
theorem dX8_prepare_5 : decode cX8_prepare 5 = .ok (.invokestatic 15, 3) := by decide +kernel
theorem dX8_prepare_8 : decode cX8_prepare 8 = .ok (.aload_n 0, 1) := by decide +kernel
theorem dX8_prepare_9 : decode cX8_prepare 9 = .ok (.getfield 9, 3) := by decide +kernel
theorem dX8_prepare_12 : decode cX8_prepare 12 = .ok (.iconst 0, 1) := by decide +kernel
theorem dX8_prepare_13 : decode cX8_prepare 13 = .ok (.iconst 1, 1) := by decide +kernel
theorem dX8_prepare_14 : decode cX8_prepare 14 = .ok (.iastore, 1) := by decide +kernel
theorem dX8_prepare_15 : decode cX8_prepare 15 = .ok (.aload_n 0, 1) := by decide +kernel
theorem dX8_prepare_16 : decode cX8_prepare 16 = .ok (.iconst 1, 1) := by decide +kernel
theorem dX8_prepare_17 : decode cX8_prepare 17 = .ok (.putfield 21, 3) := by decide +kernel
theorem dX8_prepare_20 : decode cX8_prepare 20 = .ok (.iconst 0, 1) := by decide +kernel
theorem dX8_prepare_21 : decode cX8_prepare 21 = .ok (.istore_n 3, 1) := by decide +kernel
theorem dX8_prepare_22 : decode cX8_prepare 22 = .ok (.iload_n 3, 1) := by decide +kernel
theorem dX8_prepare_23 : decode cX8_prepare 23 = .ok (.iload_n 1, 1) := by decide +kernel
theorem dX8_prepare_24 : decode cX8_prepare 24 = .ok (.if_icmp .ge 42, 3) := by decide +kernel
theorem dX8_prepare_27 : decode cX8_prepare 27 = .ok (.aload_n 0, 1) := by decide +kernel
theorem dX8_prepare_28 : decode cX8_prepare 28 = .ok (.getfield 21, 3) := by decide +kernel
theorem dX8_prepare_31 : decode cX8_prepare 31 = .ok (.iload_n 2, 1) := by decide +kernel
theorem dX8_prepare_32 : decode cX8_prepare 32 = .ok (.iadd, 1) := by decide +kernel
theorem dX8_prepare_33 : decode cX8_prepare 33 = .ok (.iconst 1, 1) := by decide +kernel
theorem dX8_prepare_34 : decode cX8_prepare 34 = .ok (.isub, 1) := by decide +kernel
theorem dX8_prepare_35 : decode cX8_prepare 35 = .ok (.aload_n 0, 1) := by decide +kernel
theorem dX8_prepare_36 : decode cX8_prepare 36 = .ok (.getfield 9, 3) := by decide +kernel
theorem dX8_prepare_39 : decode cX8_prepare 39 = .ok (.arraylength, 1) := by decide +kernel
theorem dX8_prepare_40 : decode cX8_prepare 40 = .ok (.if_icmp .gt 26, 3) := by decide +kernel
theorem dX8_prepare_43 : decode cX8_prepare 43 = .ok (.aload_n 0, 1) := by decide +kernel
theorem dX8_prepare_44 : decode cX8_prepare 44 = .ok (.dup, 1) := by decide +kernel
theorem dX8_prepare_45 : decode cX8_prepare 45 = .ok (.getfield 21, 3) := by decide +kernel
theorem dX8_prepare_48 : decode cX8_prepare 48 = .ok (.iload_n 2, 1) := by decide +kernel
theorem dX8_prepare_49 : decode cX8_prepare 49 = .ok (.iconst 1, 1) := by decide +kernel
theorem dX8_prepare_50 : decode cX8_prepare 50 = .ok (.isub, 1) := by decide +kernel
theorem dX8_prepare_51 : decode cX8_prepare 51 = .ok (.iadd, 1) := by decide +kernel
theorem dX8_prepare_52 : decode cX8_prepare 52 = .ok (.putfield 21, 3) := by decide +kernel
theorem dX8_prepare_55 : decode cX8_prepare 55 = .ok (.aload_n 0, 1) := by decide +kernel
theorem dX8_prepare_56 : decode cX8_prepare 56 = .ok (.iload_n 2, 1) := by decide +kernel
theorem dX8_prepare_57 : decode cX8_prepare 57 = .ok (.invokevirtual 25, 3) := by decide +kernel
theorem dX8_prepare_60 : decode cX8_prepare 60 = .ok (.iinc 3 1, 3) := by decide +kernel
theorem dX8_prepare_63 : decode cX8_prepare 63 = .ok (.goto (-41), 3) := by decide +kernel
theorem dX8_prepare_66 : decode cX8_prepare 66 = .ok (.return_, 1) := by decide +kernel
theorem dX8_addUp_0 : decode cX8_addUp 0 = .ok (.aload_n 0, 1) := by decide +kernel
theorem dX8_addUp_1 : decode cX8_addUp 1 = .ok (.getfield 21, 3) := by decide +kernel
theorem dX8_addUp_4 : decode cX8_addUp 4 = .ok (.iconst 1, 1) := by decide +kernel
theorem dX8_addUp_5 : decode cX8_addUp 5 = .ok (.isub, 1) := by decide +kernel
theorem dX8_addUp_6 : decode cX8_addUp 6 = .ok (.istore_n 2, 1) := by decide +kernel
theorem dX8_addUp_7 : decode cX8_addUp 7 = .ok (.iload_n 2, 1) := by decide +kernel
theorem dX8_addUp_8 : decode cX8_addUp 8 = .ok (.ifCond .lt 51, 3) := by decide +kernel
theorem dX8_addUp_11 : decode cX8_addUp 11 = .ok (.iconst 0, 1) := by decide +kernel
theorem dX8_addUp_12 : decode cX8_addUp 12 = .ok (.istore_n 3, 1) := by decide +kernel
theorem dX8_addUp_13 : decode cX8_addUp 13 = .ok (.iconst 0, 1) := by decide +kernel
theorem dX8_addUp_14 : decode cX8_addUp 14 = .ok (.istore 4, 2) := by decide +kernel
theorem dX8_addUp_16 : decode cX8_addUp 16 = .ok (.iload 4, 2) := by decide +kernel
theorem dX8_addUp_18 : decode cX8_addUp 18 = .ok (.iload_n 1, 1) := by decide +kernel
theorem dX8_addUp_19 : decode cX8_addUp 19 = .ok (.if_icmp .ge 27, 3) := by decide +kernel
theorem dX8_addUp_22 : decode cX8_addUp 22 = .ok (.iload 4, 2) := by decide +kernel
theorem dX8_addUp_24 : decode cX8_addUp 24 = .ok (.iload_n 2, 1) := by decide +kernel
theorem dX8_addUp_25 : decode cX8_addUp 25 = .ok (.if_icmp .gt 21, 3) := by decide +kernel
theorem dX8_addUp_28 : decode cX8_addUp 28 = .ok (.iload_n 3, 1) := by decide +kernel
theorem dX8_addUp_29 : decode cX8_addUp 29 = .ok (.aload_n 0, 1) := by decide +kernel
theorem dX8_addUp_30 : decode cX8_addUp 30 = .ok (.getfield 9, 3) := by decide +kernel
theorem dX8_addUp_33 : decode cX8_addUp 33 = .ok (.iload_n 2, 1) := by decide +kernel
theorem dX8_addUp_34 : decode cX8_addUp 34 = .ok (.iload 4, 2) := by decide +kernel
theorem dX8_addUp_36 : decode cX8_addUp 36 = .ok (.isub, 1) := by decide +kernel
theorem dX8_addUp_37 : decode cX8_addUp 37 = .ok (.iaload, 1) := by decide +kernel
theorem dX8_addUp_38 : decode cX8_addUp 38 = .ok (.iadd, 1) := by decide +kernel
theorem dX8_addUp_39 : decode cX8_addUp 39 = .ok (.istore_n 3, 1) := by decide +kernel
theorem dX8_addUp_40 : decode cX8_addUp 40 = .ok (.iinc 4 1, 3) := by decide +kernel
theorem dX8_addUp_43 : decode cX8_addUp 43 = .ok (.goto (-27), 3) := by decide +kernel
theorem dX8_addUp_46 : decode cX8_addUp 46 = .ok (.aload_n 0, 1) := by decide +kernel
theorem dX8_addUp_47 : decode cX8_addUp 47 = .ok (.getfield 9, 3) := by decide +kernel
theorem dX8_addUp_50 : decode cX8_addUp 50 = .ok (.iload_n 2, 1) := by decide +kernel
theorem dX8_addUp_51 : decode cX8_addUp 51 = .ok (.iload_n 3, 1) := by decide +kernel
theorem dX8_addUp_52 : decode cX8_addUp 52 = .ok (.iastore, 1) := by decide +kernel
theorem dX8_addUp_53 : decode cX8_addUp 53 = .ok (.iinc 2 (-1), 3) := by decide +kernel
theorem dX8_addUp_56 : decode cX8_addUp 56 = .ok (.goto (-49), 3) := by decide +kernel
theorem dX8_addUp_59 : decode cX8_addUp 59 = .ok (.return_, 1) := by decide +kernel
theorem dX9_init_0 : decode cX9_init 0 = .ok (.aload_n 0, 1) := by decide +kernel
theorem dX9_init_1 : decode cX9_init 1 = .ok (.invokespecial 1, 3) := by decide +kernel
theorem dX9_init_4 : decode cX9_init 4 = .ok (.aload_n 0, 1) := by decide +kernel
theorem dX9_init_5 : decode cX9_init 5 = .ok (.new 7, 3) := by decide +kernel
theorem dX9_init_8 : decode cX9_init 8 = .ok (.dup, 1) := by decide +kernel
theorem dX9_init_9 : decode cX9_init 9 = .ok (.invokespecial 9, 3) := by decide +kernel
theorem dX9_init_12 : decode cX9_init 12 = .ok (.putfield 10, 3) := by decide +kernel
theorem dX9_init_15 : decode cX9_init 15 = .ok (.aload_n 0, 1) := by decide +kernel
theorem dX9_init_16 : decode cX9_init 16 = .ok (.iconst 2, 1) := by decide +kernel
theorem dX9_init_17 : decode cX9_init 17 = .ok (.anewarray 16, 3) := by decide +kernel
theorem dX9_init_20 : decode cX9_init 20 = .ok (.dup, 1) := by decide +kernel
theorem dX9_init_21 : decode cX9_init 21 = .ok (.iconst 0, 1) := by decide +kernel
theorem dX9_init_22 : decode cX9_init 22 = .ok (.new 16, 3) := by decide +kernel
theorem dX9_init_25 : decode cX9_init 25 = .ok (.dup, 1) := by decide +kernel
theorem dX9_init_26 : decode cX9_init 26 = .ok (.invokespecial 18, 3) := by decide +kernel
theorem dX9_init_29 : decode cX9_init 29 = .ok (.aastore, 1) := by decide +kernel
theorem dX9_init_30 : decode cX9_init 30 = .ok (.dup, 1) := by decide +kernel
theorem dX9_init_31 : decode cX9_init 31 = .ok (.iconst 1, 1) := by decide +kernel
theorem dX9_init_32 : decode cX9_init 32 = .ok (.new 16, 3) := by decide +kernel
theorem dX9_init_35 : decode cX9_init 35 = .ok (.dup, 1) := by decide +kernel
theorem dX9_init_36 : decode cX9_init 36 = .ok (.invokespecial 18, 3) := by decide +kernel
theorem dX9_init_39 : decode cX9_init 39 = .ok (.aastore, 1) := by decide +kernel
theorem dX9_init_40 : decode cX9_init 40 = .ok (.putfield 19, 3) := by decide +kernel
theorem dX9_init_43 : decode cX9_init 43 = .ok (.aload_n 0, 1) := by decide +kernel
theorem dX9_init_44 : decode cX9_init 44 = .ok (.new 23, 3) := by decide +kernel
theorem dX9_init_47 : decode cX9_init 47 = .ok (.dup, 1) := by decide +kernel
theorem dX9_init_48 : decode cX9_init 48 = .ok (.invokespecial 25, 3) := by decide +kernel
theorem dX9_init_51 : decode cX9_init 51 = .ok (.putfield 26, 3) := by decide +kernel
theorem dX9_init_54 : decode cX9_init 54 = .ok (.aload_n 0, 1) := by decide +kernel
theorem dX9_init_55 : decode cX9_init 55 = .ok (.new 30, 3) := by decide +kernel
theorem dX9_init_58 : decode cX9_init 58 = .ok (.dup, 1) := by decide +kernel
theorem dX9_init_59 : decode cX9_init 59 = .ok (.invokespecial 32, 3) := by decide +kernel
theorem dX9_init_62 : decode cX9_init 62 = .ok (.putfield 33, 3) := by decide +kernel
theorem dX9_init_65 : decode cX9_init 65 = .ok (.aload_n 0, 1) := by decide +kernel
theorem dX9_init_66 : decode cX9_init 66 = .ok (.new 37, 3) := by decide +kernel
theorem dX9_init_69 : decode cX9_init 69 = .ok (.dup, 1) := by decide +kernel
theorem dX9_init_70 : decode cX9_init 70 = .ok (.invokespecial 39, 3) := by decide +kernel
theorem dX9_init_73 : decode cX9_init 73 = .ok (.putfield 40, 3) := by decide +kernel
theorem dX9_init_76 : decode cX9_init 76 = .ok (.aload_n 0, 1) := by decide +kernel
theorem dX9_init_77 : decode cX9_init 77 = .ok (.new 37, 3) := by decide +kernel
theorem dX9_init_80 : decode cX9_init 80 = .ok (.dup, 1) := by decide +kernel
theorem dX9_init_81 : decode cX9_init 81 = .ok (.invokespecial 39, 3) := by decide +kernel
theorem dX9_init_84 : decode cX9_init 84 = .ok (.putfield 44, 3) := by decide +kernel
theorem dX9_init_87 : decode cX9_init 87 = .ok (.aload_n 0, 1) := by decide +kernel
theorem dX9_init_88 : decode cX9_init 88 = .ok (.new 47, 3) := by decide +kernel
theorem dX9_init_91 : decode cX9_init 91 = .ok (.dup, 1) := by decide +kernel
theorem dX9_init_92 : decode cX9_init 92 = .ok (.invokespecial 49, 3) := by decide +kernel
theorem dX9_init_95 : decode cX9_init 95 = .ok (.putfield 50, 3) := by decide +kernel
theorem dX9_init_98 : decode cX9_init 98 = .ok (.aload_n 0, 1) := by decide +kernel
theorem dX9_init_99 : decode cX9_init 99 = .ok (.new 54, 3) := by decide +kernel
theorem dX9_init_102 : decode cX9_init 102 = .ok (.dup, 1) := by decide +kernel
theorem dX9_init_103 : decode cX9_init 103 = .ok (.invokespecial 56, 3) := by decide +kernel
theorem dX9_init_106 : decode cX9_init 106 = .ok (.putfield 57, 3) := by decide +kernel
theorem dX9_init_109 : decode cX9_init 109 = .ok (.aload_n 0, 1) := by decide +kernel
theorem dX9_init_110 : decode cX9_init 110 = .ok (.iconst 1, 1) := by decide +kernel
theorem dX9_init_111 : decode cX9_init 111 = .ok (.putfield 61, 3) := by decide +kernel
theorem dX9_init_114 : decode cX9_init 114 = .ok (.aload_n 0, 1) := by decide +kernel
theorem dX9_init_115 : decode cX9_init 115 = .ok (.iconst (-1), 1) := by decide +kernel
theorem dX9_init_116 : decode cX9_init 116 = .ok (.putfield 65, 3) := by decide +kernel
theorem dX9_init_119 : decode cX9_init 119 = .ok (.return_, 1) := by decide +kernel
theorem dX9_feed_0 : decode cX9_feed 0 = .ok (.aload_n 0, 1) := by decide +kernel
theorem dX9_feed_1 : decode cX9_feed 1 = .ok (.getfield 68, 3) := by decide +kernel
theorem dX9_feed_4 : decode cX9_feed 4 = .ok (.bipush 20, 2) := by decide +kernel
theorem dX9_feed_6 : decode cX9_feed 6 = .ok (.iadd, 1) := by decide +kernel
theorem dX9_feed_7 : decode cX9_feed 7 = .ok (.sipush 600, 3) := by decide +kernel
theorem dX9_feed_10 : decode cX9_feed 10 = .ok (.if_icmp .le 5, 3) := by decide +kernel
theorem dX9_feed_13 : decode cX9_feed 13 = .ok (.iconst (-1), 1) := by decide +kernel
theorem dX9_feed_14 : decode cX9_feed 14 = .ok (.ireturn, 1) := by decide +kernel
theorem dX9_feed_15 : decode cX9_feed 15 = .ok (.aload_n 0, 1) := by decide +kernel
theorem dX9_feed_16 : decode cX9_feed 16 = .ok (.iload_n 1, 1) := by decide +kernel
theorem dX9_feed_17 : decode cX9_feed 17 = .ok (.invokevirtual 71, 3) := by decide +kernel
theorem dX9_feed_20 : decode cX9_feed 20 = .ok (.aload_n 0, 1) := by decide +kernel
theorem dX9_feed_21 : decode cX9_feed 21 = .ok (.iload_n 2, 1) := by decide +kernel
theorem dX9_feed_22 : decode cX9_feed 22 = .ok (.invokevirtual 71, 3) := by decide +kernel
theorem dX9_feed_25 : decode cX9_feed 25 = .ok (.aload_n 0, 1) := by decide +kernel
theorem dX9_feed_26 : decode cX9_feed 26 = .ok (.iload_n 3, 1) := by decide +kernel
theorem dX9_feed_27 : decode cX9_feed 27 = .ok (.invokevirtual 71, 3) := by decide +kernel
theorem dX9_feed_30 : decode cX9_feed 30 = .ok (.aload_n 0, 1) := by decide +kernel
theorem dX9_feed_31 : decode cX9_feed 31 = .ok (.iload 4, 2) := by decide +kernel
theorem dX9_feed_33 : decode cX9_feed 33 = .ok (.invokevirtual 71, 3) := by decide +kernel
theorem dX9_feed_36 : decode cX9_feed 36 = .ok (.aload_n 0, 1) := by decide +kernel
theorem dX9_feed_37 : decode cX9_feed 37 = .ok (.iload 5, 2) := by decide +kernel
theorem dX9_feed_39 : decode cX9_feed 39 = .ok (.invokevirtual 71, 3) := by decide +kernel
theorem dX9_feed_42 : decode cX9_feed 42 = .ok (.aload_n 0, 1) := by decide +kernel
theorem dX9_feed_43 : decode cX9_feed 43 = .ok (.getfield 68, 3) := by decide +kernel
theorem dX9_feed_46 : decode cX9_feed 46 = .ok (.ireturn, 1) := by decide +kernel
theorem dX9_text_0 : decode cX9_text 0 = .ok (.iload_n 1, 1) := by decide +kernel
theorem dX9_text_1 : decode cX9_text 1 = .ok (.ifCond .lt 11, 3) := by decide +kernel
theorem dX9_text_4 : decode cX9_text 4 = .ok (.iload_n 1, 1) := by decide +kernel
theorem dX9_text_5 : decode cX9_text 5 = .ok (.aload_n 0, 1) := by decide +kernel
theorem dX9_text_6 : decode cX9_text 6 = .ok (.getfield 68, 3) := by decide +kernel
theorem dX9_text_9 : decode cX9_text 9 = .ok (.if_icmp .le 10, 3) := by decide +kernel
theorem dX9_text_12 : decode cX9_text 12 = .ok (.aload_n 0, 1) := by decide +kernel
theorem dX9_text_13 : decode cX9_text 13 = .ok (.iconst 2, 1) := by decide +kernel
theorem dX9_text_14 : decode cX9_text 14 = .ok (.iconst (-1), 1) := by decide +kernel
theorem dX9_text_15 : decode cX9_text 15 = .ok (.invokevirtual 75, 3) := by decide +kernel
theorem dX9_text_18 : decode cX9_text 18 = .ok (.ireturn, 1) := by decide +kernel
theorem dX9_text_19 : decode cX9_text 19 = .ok (.aload_n 0, 1) := by decide +kernel
theorem dX9_text_20 : decode cX9_text 20 = .ok (.iconst 0, 1) := by decide +kernel
theorem dX9_text_21 : decode cX9_text 21 = .ok (.putfield 68, 3) := by decide +kernel
theorem dX9_text_24 : decode cX9_text 24 = .ok (.aload_n 0, 1) := by decide +kernel
theorem dX9_text_25 : decode cX9_text 25 = .ok (.getfield 50, 3) := by decide +kernel
theorem dX9_text_28 : decode cX9_text 28 = .ok (.iload_n 1, 1) := by decide +kernel
theorem dX9_text_29 : decode cX9_text 29 = .ok (.invokevirtual 79, 3) := by decide +kernel
theorem dX9_text_32 : decode cX9_text 32 = .ok (.istore_n 2, 1) := by decide +kernel
theorem dX9_text_33 : decode cX9_text 33 = .ok (.aload_n 0, 1) := by decide +kernel
theorem dX9_text_34 : decode cX9_text 34 = .ok (.aload_n 0, 1) := by decide +kernel
theorem dX9_text_35 : decode cX9_text 35 = .ok (.getfield 50, 3) := by decide +kernel
theorem dX9_text_38 : decode cX9_text 38 = .ok (.getfield 83, 3) := by decide +kernel
theorem dX9_text_41 : decode cX9_text 41 = .ok (.putfield 86, 3) := by decide +kernel
theorem dX9_text_44 : decode cX9_text 44 = .ok (.iload_n 2, 1) := by decide +kernel
theorem dX9_text_45 : decode cX9_text 45 = .ok (.ifCond .ne 23, 3) := by decide +kernel
theorem dX9_text_48 : decode cX9_text 48 = .ok (.aload_n 0, 1) := by decide +kernel
theorem dX9_text_49 : decode cX9_text 49 = .ok (.iconst 4, 1) := by decide +kernel
theorem dX9_text_50 : decode cX9_text 50 = .ok (.iconst (-1), 1) := by decide +kernel
theorem dX9_text_51 : decode cX9_text 51 = .ok (.invokevirtual 75, 3) := by decide +kernel
theorem dX9_text_54 : decode cX9_text 54 = .ok (.pop, 1) := by decide +kernel
theorem dX9_text_55 : decode cX9_text 55 = .ok (.aload_n 0, 1) := by decide +kernel
theorem dX9_text_56 : decode cX9_text 56 = .ok (.aload_n 0, 1) := by decide +kernel
theorem dX9_text_57 : decode cX9_text 57 = .ok (.getfield 50, 3) := by decide +kernel
theorem dX9_text_60 : decode cX9_text 60 = .ok (.getfield 89, 3) := by decide +kernel
theorem dX9_text_63 : decode cX9_text 63 = .ok (.putfield 65, 3) := by decide +kernel
theorem dX9_text_66 : decode cX9_text 66 = .ok (.iconst (-1), 1) := by decide +kernel
theorem dX9_text_67 : decode cX9_text 67 = .ok (.ireturn, 1) := by decide +kernel
theorem dX9_text_68 : decode cX9_text 68 = .ok (.aload_n 0, 1) := by decide +kernel
theorem dX9_text_69 : decode cX9_text 69 = .ok (.invokevirtual 90, 3) := by decide +kernel
theorem dX9_text_72 : decode cX9_text 72 = .ok (.aload_n 0, 1) := by decide +kernel
theorem dX9_text_73 : decode cX9_text 73 = .ok (.aload_n 0, 1) := by decide +kernel
theorem dX9_text_74 : decode cX9_text 74 = .ok (.getfield 57, 3) := by decide +kernel
theorem dX9_text_77 : decode cX9_text 77 = .ok (.getfield 93, 3) := by decide +kernel
theorem dX9_text_80 : decode cX9_text 80 = .ok (.invokevirtual 96, 3) := by decide +kernel
theorem dX9_text_83 : decode cX9_text 83 = .ok (.ireturn, 1) := by decide +kernel
theorem dX9_fault_0 : decode cX9_fault 0 = .ok (.aload_n 0, 1) := by decide +kernel
theorem dX9_fault_1 : decode cX9_fault 1 = .ok (.getfield 86, 3) := by decide +kernel
theorem dX9_fault_4 : decode cX9_fault 4 = .ok (.ireturn, 1) := by decide +kernel
theorem dX9_where_0 : decode cX9_where 0 = .ok (.aload_n 0, 1) := by decide +kernel
theorem dX9_where_1 : decode cX9_where 1 = .ok (.getfield 65, 3) := by decide +kernel
theorem dX9_where_4 : decode cX9_where 4 = .ok (.ireturn, 1) := by decide +kernel
theorem dX9_about_0 : decode cX9_about 0 = .ok (.aload_n 0, 1) := by decide +kernel
theorem dX9_about_1 : decode cX9_about 1 = .ok (.getfield 100, 3) := by decide +kernel
theorem dX9_about_4 : decode cX9_about 4 = .ok (.ifCond .eq 12, 3) := by decide +kernel
theorem dX9_about_7 : decode cX9_about 7 = .ok (.iload_n 1, 1) := by decide +kernel
theorem dX9_about_8 : decode cX9_about 8 = .ok (.ifCond .lt 8, 3) := by decide +kernel
theorem dX9_about_11 : decode cX9_about 11 = .ok (.iload_n 1, 1) := by decide +kernel
theorem dX9_about_12 : decode cX9_about 12 = .ok (.iconst 1, 1) := by decide +kernel
theorem dX9_about_13 : decode cX9_about 13 = .ok (.if_icmp .le 10, 3) := by decide +kernel
theorem dX9_about_16 : decode cX9_about 16 = .ok (.aload_n 0, 1) := by decide +kernel
theorem dX9_about_17 : decode cX9_about 17 = .ok (.iconst 1, 1) := by decide +kernel
theorem dX9_about_18 : decode cX9_about 18 = .ok (.iconst (-1), 1) := by decide +kernel
theorem dX9_about_19 : decode cX9_about 19 = .ok (.invokevirtual 75, 3) := by decide +kernel
theorem dX9_about_22 : decode cX9_about 22 = .ok (.ireturn, 1) := by decide +kernel
theorem dX9_about_23 : decode cX9_about 23 = .ok (.aload_n 0, 1) := by decide +kernel
theorem dX9_about_24 : decode cX9_about 24 = .ok (.iload_n 1, 1) := by decide +kernel
theorem dX9_about_25 : decode cX9_about 25 = .ok (.ifCond .ne 13, 3) := by decide +kernel
theorem dX9_about_28 : decode cX9_about 28 = .ok (.aload_n 0, 1) := by decide +kernel
theorem dX9_about_29 : decode cX9_about 29 = .ok (.getfield 57, 3) := by decide +kernel
theorem dX9_about_32 : decode cX9_about 32 = .ok (.getfield 93, 3) := by decide +kernel
theorem dX9_about_35 : decode cX9_about 35 = .ok (.goto 10, 3) := by decide +kernel
theorem dX9_about_38 : decode cX9_about 38 = .ok (.aload_n 0, 1) := by decide +kernel
theorem dX9_about_39 : decode cX9_about 39 = .ok (.getfield 57, 3) := by decide +kernel
theorem dX9_about_42 : decode cX9_about 42 = .ok (.getfield 104, 3) := by decide +kernel
theorem dX9_about_45 : decode cX9_about 45 = .ok (.invokevirtual 96, 3) := by decide +kernel
theorem dX9_about_48 : decode cX9_about 48 = .ok (.ireturn, 1) := by decide +kernel
theorem dX9_loop_0 : decode cX9_loop 0 = .ok (.aload_n 0, 1) := by decide +kernel
theorem dX9_loop_1 : decode cX9_loop 1 = .ok (.getfield 57, 3) := by decide +kernel
theorem dX9_loop_4 : decode cX9_loop 4 = .ok (.iload_n 1, 1) := by decide +kernel
theorem dX9_loop_5 : decode cX9_loop 5 = .ok (.invokevirtual 107, 3) := by decide +kernel
theorem dX9_loop_8 : decode cX9_loop 8 = .ok (.astore_n 3, 1) := by decide +kernel
theorem dX9_loop_9 : decode cX9_loop 9 = .ok (.aload_n 3, 1) := by decide +kernel
theorem dX9_loop_10 : decode cX9_loop 10 = .ok (.ifnull 13, 3) := by decide +kernel
theorem dX9_loop_13 : decode cX9_loop 13 = .ok (.iload_n 2, 1) := by decide +kernel
theorem dX9_loop_14 : decode cX9_loop 14 = .ok (.ifCond .lt 9, 3) := by decide +kernel
theorem dX9_loop_17 : decode cX9_loop 17 = .ok (.iload_n 2, 1) := by decide +kernel
theorem dX9_loop_18 : decode cX9_loop 18 = .ok (.bipush 6, 2) := by decide +kernel
theorem dX9_loop_20 : decode cX9_loop 20 = .ok (.if_icmp .le 10, 3) := by decide +kernel
theorem dX9_loop_23 : decode cX9_loop 23 = .ok (.aload_n 0, 1) := by decide +kernel
theorem dX9_loop_24 : decode cX9_loop 24 = .ok (.iconst 1, 1) := by decide +kernel
theorem dX9_loop_25 : decode cX9_loop 25 = .ok (.iconst (-1), 1) := by decide +kernel
theorem dX9_loop_26 : decode cX9_loop 26 = .ok (.invokevirtual 75, 3) := by decide +kernel
theorem dX9_loop_29 : decode cX9_loop 29 = .ok (.ireturn, 1) := by decide +kernel
theorem dX9_loop_30 : decode cX9_loop 30 = .ok (.aload_n 0, 1) := by decide +kernel
theorem dX9_loop_31 : decode cX9_loop 31 = .ok (.aload_n 3, 1) := by decide +kernel
theorem dX9_loop_32 : decode cX9_loop 32 = .ok (.iload_n 2, 1) := by decide +kernel
theorem dX9_loop_33 : decode cX9_loop 33 = .ok (.invokevirtual 111, 3) := by decide +kernel
theorem dX9_loop_36 : decode cX9_loop 36 = .ok (.invokevirtual 96, 3) := by decide +kernel
theorem dX9_loop_39 : decode cX9_loop 39 = .ok (.ireturn, 1) := by decide +kernel
theorem dX9_wave_0 : decode cX9_wave 0 = .ok (.aload_n 0, 1) := by decide +kernel
theorem dX9_wave_1 : decode cX9_wave 1 = .ok (.getfield 57, 3) := by decide +kernel
theorem dX9_wave_4 : decode cX9_wave 4 = .ok (.iload_n 1, 1) := by decide +kernel
theorem dX9_wave_5 : decode cX9_wave 5 = .ok (.invokevirtual 116, 3) := by decide +kernel
theorem dX9_wave_8 : decode cX9_wave 8 = .ok (.astore_n 3, 1) := by decide +kernel
theorem dX9_wave_9 : decode cX9_wave 9 = .ok (.aload_n 3, 1) := by decide +kernel
theorem dX9_wave_10 : decode cX9_wave 10 = .ok (.ifnull 12, 3) := by decide +kernel
theorem dX9_wave_13 : decode cX9_wave 13 = .ok (.iload_n 2, 1) := by decide +kernel
theorem dX9_wave_14 : decode cX9_wave 14 = .ok (.ifCond .lt 8, 3) := by decide +kernel
theorem dX9_wave_17 : decode cX9_wave 17 = .ok (.iload_n 2, 1) := by decide +kernel
theorem dX9_wave_18 : decode cX9_wave 18 = .ok (.iconst 3, 1) := by decide +kernel
theorem dX9_wave_19 : decode cX9_wave 19 = .ok (.if_icmp .le 11, 3) := by decide +kernel
theorem dX9_wave_22 : decode cX9_wave 22 = .ok (.aload_n 0, 1) := by decide +kernel
theorem dX9_wave_23 : decode cX9_wave 23 = .ok (.iconst 1, 1) := by decide +kernel
theorem dX9_wave_24 : decode cX9_wave 24 = .ok (.ldc 120, 2) := by decide +kernel
theorem dX9_wave_26 : decode cX9_wave 26 = .ok (.invokevirtual 75, 3) := by decide +kernel
theorem dX9_wave_29 : decode cX9_wave 29 = .ok (.ireturn, 1) := by decide +kernel
theorem dX9_wave_30 : decode cX9_wave 30 = .ok (.aload_n 0, 1) := by decide +kernel
theorem dX9_wave_31 : decode cX9_wave 31 = .ok (.aload_n 3, 1) := by decide +kernel
theorem dX9_wave_32 : decode cX9_wave 32 = .ok (.iload_n 2, 1) := by decide +kernel
theorem dX9_wave_33 : decode cX9_wave 33 = .ok (.invokevirtual 121, 3) := by decide +kernel
theorem dX9_wave_36 : decode cX9_wave 36 = .ok (.invokevirtual 96, 3) := by decide +kernel
theorem dX9_wave_39 : decode cX9_wave 39 = .ok (.ireturn, 1) := by decide +kernel
theorem dX9_level_0 : decode cX9_level 0 = .ok (.aload_n 0, 1) := by decide +kernel
theorem dX9_level_1 : decode cX9_level 1 = .ok (.getfield 57, 3) := by decide +kernel
theorem dX9_level_4 : decode cX9_level 4 = .ok (.iload_n 1, 1) := by decide +kernel
theorem dX9_level_5 : decode cX9_level 5 = .ok (.invokevirtual 116, 3) := by decide +kernel
theorem dX9_level_8 : decode cX9_level 8 = .ok (.astore_n 3, 1) := by decide +kernel
theorem dX9_level_9 : decode cX9_level 9 = .ok (.aload_n 3, 1) := by decide +kernel
theorem dX9_level_10 : decode cX9_level 10 = .ok (.ifnonnull 11, 3) := by decide +kernel
theorem dX9_level_13 : decode cX9_level 13 = .ok (.aload_n 0, 1) := by decide +kernel
theorem dX9_level_14 : decode cX9_level 14 = .ok (.iconst 1, 1) := by decide +kernel
theorem dX9_level_15 : decode cX9_level 15 = .ok (.ldc 120, 2) := by decide +kernel
theorem dX9_level_17 : decode cX9_level 17 = .ok (.invokevirtual 75, 3) := by decide +kernel
theorem dX9_level_20 : decode cX9_level 20 = .ok (.ireturn, 1) := by decide +kernel
theorem dX9_level_21 : decode cX9_level 21 = .ok (.iload_n 2, 1) := by decide +kernel
theorem dX9_level_22 : decode cX9_level 22 = .ok (.ifCond .ge 11, 3) := by decide +kernel
theorem dX9_level_25 : decode cX9_level 25 = .ok (.aload_n 0, 1) := by decide +kernel
theorem dX9_level_26 : decode cX9_level 26 = .ok (.iconst 2, 1) := by decide +kernel
theorem dX9_level_27 : decode cX9_level 27 = .ok (.ldc 120, 2) := by decide +kernel
theorem dX9_level_29 : decode cX9_level 29 = .ok (.invokevirtual 75, 3) := by decide +kernel
theorem dX9_level_32 : decode cX9_level 32 = .ok (.ireturn, 1) := by decide +kernel
theorem dX9_level_33 : decode cX9_level 33 = .ok (.aload_n 0, 1) := by decide +kernel
theorem dX9_level_34 : decode cX9_level 34 = .ok (.aload_n 3, 1) := by decide +kernel
theorem dX9_level_35 : decode cX9_level 35 = .ok (.iload_n 2, 1) := by decide +kernel
theorem dX9_level_36 : decode cX9_level 36 = .ok (.invokevirtual 124, 3) := by decide +kernel
theorem dX9_level_39 : decode cX9_level 39 = .ok (.invokevirtual 96, 3) := by decide +kernel
theorem dX9_level_42 : decode cX9_level 42 = .ok (.ireturn, 1) := by decide +kernel
theorem dX9_seed_0 : decode cX9_seed 0 = .ok (.iload_n 1, 1) := by decide +kernel
theorem dX9_seed_1 : decode cX9_seed 1 = .ok (.iconst 1, 1) := by decide +kernel
theorem dX9_seed_2 : decode cX9_seed 2 = .ok (.if_icmp .lt 9, 3) := by decide +kernel
theorem dX9_seed_5 : decode cX9_seed 5 = .ok (.iload_n 1, 1) := by decide +kernel
theorem dX9_seed_6 : decode cX9_seed 6 = .ok (.ldc 127, 2) := by decide +kernel
theorem dX9_seed_8 : decode cX9_seed 8 = .ok (.if_icmp .le 9, 3) := by decide +kernel
theorem dX9_seed_11 : decode cX9_seed 11 = .ok (.aload_n 0, 1) := by decide +kernel
theorem dX9_seed_12 : decode cX9_seed 12 = .ok (.iconst 2, 1) := by decide +kernel
theorem dX9_seed_13 : decode cX9_seed 13 = .ok (.invokevirtual 128, 3) := by decide +kernel
theorem dX9_seed_16 : decode cX9_seed 16 = .ok (.ireturn, 1) := by decide +kernel
theorem dX9_seed_17 : decode cX9_seed 17 = .ok (.aload_n 0, 1) := by decide +kernel
theorem dX9_seed_18 : decode cX9_seed 18 = .ok (.iload_n 1, 1) := by decide +kernel
theorem dX9_seed_19 : decode cX9_seed 19 = .ok (.putfield 61, 3) := by decide +kernel
theorem dX9_seed_22 : decode cX9_seed 22 = .ok (.aload_n 0, 1) := by decide +kernel
theorem dX9_seed_23 : decode cX9_seed 23 = .ok (.invokevirtual 131, 3) := by decide +kernel
theorem dX9_seed_26 : decode cX9_seed 26 = .ok (.ireturn, 1) := by decide +kernel
theorem dX9_begin_0 : decode cX9_begin 0 = .ok (.aload_n 0, 1) := by decide +kernel
theorem dX9_begin_1 : decode cX9_begin 1 = .ok (.getfield 57, 3) := by decide +kernel
theorem dX9_begin_4 : decode cX9_begin 4 = .ok (.iload_n 1, 1) := by decide +kernel
theorem dX9_begin_5 : decode cX9_begin 5 = .ok (.invokevirtual 107, 3) := by decide +kernel
theorem dX9_begin_8 : decode cX9_begin 8 = .ok (.ifnull 14, 3) := by decide +kernel
theorem dX9_begin_11 : decode cX9_begin 11 = .ok (.aload_n 0, 1) := by decide +kernel
theorem dX9_begin_12 : decode cX9_begin 12 = .ok (.getfield 57, 3) := by decide +kernel
theorem dX9_begin_15 : decode cX9_begin 15 = .ok (.iload_n 2, 1) := by decide +kernel
theorem dX9_begin_16 : decode cX9_begin 16 = .ok (.invokevirtual 116, 3) := by decide +kernel
theorem dX9_begin_19 : decode cX9_begin 19 = .ok (.ifnonnull 9, 3) := by decide +kernel
theorem dX9_begin_22 : decode cX9_begin 22 = .ok (.aload_n 0, 1) := by decide +kernel
theorem dX9_begin_23 : decode cX9_begin 23 = .ok (.iconst 1, 1) := by decide +kernel
theorem dX9_begin_24 : decode cX9_begin 24 = .ok (.invokevirtual 128, 3) := by decide +kernel
theorem dX9_begin_27 : decode cX9_begin 27 = .ok (.ireturn, 1) := by decide +kernel
theorem dX9_begin_28 : decode cX9_begin 28 = .ok (.aload_n 0, 1) := by decide +kernel
theorem dX9_begin_29 : decode cX9_begin 29 = .ok (.getfield 10, 3) := by decide +kernel
theorem dX9_begin_32 : decode cX9_begin 32 = .ok (.aload_n 0, 1) := by decide +kernel
theorem dX9_begin_33 : decode cX9_begin 33 = .ok (.getfield 57, 3) := by decide +kernel
theorem dX9_begin_36 : decode cX9_begin 36 = .ok (.iload_n 1, 1) := by decide +kernel
theorem dX9_begin_37 : decode cX9_begin 37 = .ok (.iload_n 2, 1) := by decide +kernel
theorem dX9_begin_38 : decode cX9_begin 38 = .ok (.aload_n 0, 1) := by decide +kernel
theorem dX9_begin_39 : decode cX9_begin 39 = .ok (.getfield 61, 3) := by decide +kernel
theorem dX9_begin_42 : decode cX9_begin 42 = .ok (.invokevirtual 135, 3) := by decide +kernel
theorem dX9_begin_45 : decode cX9_begin 45 = .ok (.aload_n 0, 1) := by decide +kernel
theorem dX9_begin_46 : decode cX9_begin 46 = .ok (.invokevirtual 131, 3) := by decide +kernel
theorem dX9_begin_49 : decode cX9_begin 49 = .ok (.ireturn, 1) := by decide +kernel
theorem dX9_run_0 : decode cX9_run 0 = .ok (.aload_n 0, 1) := by decide +kernel
theorem dX9_run_1 : decode cX9_run 1 = .ok (.getfield 10, 3) := by decide +kernel
theorem dX9_run_4 : decode cX9_run 4 = .ok (.getfield 139, 3) := by decide +kernel
theorem dX9_run_7 : decode cX9_run 7 = .ok (.ifCond .ne 11, 3) := by decide +kernel
theorem dX9_run_10 : decode cX9_run 10 = .ok (.aload_n 0, 1) := by decide +kernel
theorem dX9_run_11 : decode cX9_run 11 = .ok (.iconst 1, 1) := by decide +kernel
theorem dX9_run_12 : decode cX9_run 12 = .ok (.ldc 120, 2) := by decide +kernel
theorem dX9_run_14 : decode cX9_run 14 = .ok (.invokevirtual 75, 3) := by decide +kernel
theorem dX9_run_17 : decode cX9_run 17 = .ok (.ireturn, 1) := by decide +kernel
theorem dX9_run_18 : decode cX9_run 18 = .ok (.iload_n 1, 1) := by decide +kernel
theorem dX9_run_19 : decode cX9_run 19 = .ok (.iconst 1, 1) := by decide +kernel
theorem dX9_run_20 : decode cX9_run 20 = .ok (.if_icmp .lt 10, 3) := by decide +kernel
theorem dX9_run_23 : decode cX9_run 23 = .ok (.iload_n 1, 1) := by decide +kernel
theorem dX9_run_24 : decode cX9_run 24 = .ok (.sipush 500, 3) := by decide +kernel
theorem dX9_run_27 : decode cX9_run 27 = .ok (.if_icmp .le 11, 3) := by decide +kernel
theorem dX9_run_30 : decode cX9_run 30 = .ok (.aload_n 0, 1) := by decide +kernel
theorem dX9_run_31 : decode cX9_run 31 = .ok (.iconst 2, 1) := by decide +kernel
theorem dX9_run_32 : decode cX9_run 32 = .ok (.ldc 120, 2) := by decide +kernel
theorem dX9_run_34 : decode cX9_run 34 = .ok (.invokevirtual 75, 3) := by decide +kernel
theorem dX9_run_37 : decode cX9_run 37 = .ok (.ireturn, 1) := by decide +kernel
theorem dX9_run_38 : decode cX9_run 38 = .ok (.aload_n 0, 1) := by decide +kernel
theorem dX9_run_39 : decode cX9_run 39 = .ok (.getfield 10, 3) := by decide +kernel
theorem dX9_run_42 : decode cX9_run 42 = .ok (.getfield 142, 3) := by decide +kernel
theorem dX9_run_45 : decode cX9_run 45 = .ok (.iload_n 1, 1) := by decide +kernel
theorem dX9_run_46 : decode cX9_run 46 = .ok (.iadd, 1) := by decide +kernel
theorem dX9_run_47 : decode cX9_run 47 = .ok (.sipush 4096, 3) := by decide +kernel
theorem dX9_run_50 : decode cX9_run 50 = .ok (.if_icmp .le 11, 3) := by decide +kernel
theorem dX9_run_53 : decode cX9_run 53 = .ok (.aload_n 0, 1) := by decide +kernel
theorem dX9_run_54 : decode cX9_run 54 = .ok (.iconst 3, 1) := by decide +kernel
theorem dX9_run_55 : decode cX9_run 55 = .ok (.ldc 120, 2) := by decide +kernel
theorem dX9_run_57 : decode cX9_run 57 = .ok (.invokevirtual 75, 3) := by decide +kernel
theorem dX9_run_60 : decode cX9_run 60 = .ok (.ireturn, 1) := by decide +kernel
theorem dX9_run_61 : decode cX9_run 61 = .ok (.aload_n 0, 1) := by decide +kernel
theorem dX9_run_62 : decode cX9_run 62 = .ok (.aload_n 0, 1) := by decide +kernel
theorem dX9_run_63 : decode cX9_run 63 = .ok (.getfield 10, 3) := by decide +kernel
theorem dX9_run_66 : decode cX9_run 66 = .ok (.iload_n 1, 1) := by decide +kernel
theorem dX9_run_67 : decode cX9_run 67 = .ok (.invokevirtual 145, 3) := by decide +kernel
theorem dX9_run_70 : decode cX9_run 70 = .ok (.invokevirtual 96, 3) := by decide +kernel
theorem dX9_run_73 : decode cX9_run 73 = .ok (.ireturn, 1) := by decide +kernel
theorem dX9_now_0 : decode cX9_now 0 = .ok (.aload_n 0, 1) := by decide +kernel
theorem dX9_now_1 : decode cX9_now 1 = .ok (.getfield 10, 3) := by decide +kernel
theorem dX9_now_4 : decode cX9_now 4 = .ok (.getfield 139, 3) := by decide +kernel
theorem dX9_now_7 : decode cX9_now 7 = .ok (.ifCond .eq 12, 3) := by decide +kernel
theorem dX9_now_10 : decode cX9_now 10 = .ok (.iload_n 1, 1) := by decide +kernel
theorem dX9_now_11 : decode cX9_now 11 = .ok (.ifCond .lt 8, 3) := by decide +kernel
theorem dX9_now_14 : decode cX9_now 14 = .ok (.iload_n 1, 1) := by decide +kernel
theorem dX9_now_15 : decode cX9_now 15 = .ok (.iconst 4, 1) := by decide +kernel
theorem dX9_now_16 : decode cX9_now 16 = .ok (.if_icmp .le 10, 3) := by decide +kernel
theorem dX9_now_19 : decode cX9_now 19 = .ok (.aload_n 0, 1) := by decide +kernel
theorem dX9_now_20 : decode cX9_now 20 = .ok (.iconst 1, 1) := by decide +kernel
theorem dX9_now_21 : decode cX9_now 21 = .ok (.iconst (-1), 1) := by decide +kernel
theorem dX9_now_22 : decode cX9_now 22 = .ok (.invokevirtual 75, 3) := by decide +kernel
theorem dX9_now_25 : decode cX9_now 25 = .ok (.ireturn, 1) := by decide +kernel
theorem dX9_now_26 : decode cX9_now 26 = .ok (.aload_n 0, 1) := by decide +kernel
theorem dX9_now_27 : decode cX9_now 27 = .ok (.aload_n 0, 1) := by decide +kernel
theorem dX9_now_28 : decode cX9_now 28 = .ok (.getfield 10, 3) := by decide +kernel
theorem dX9_now_31 : decode cX9_now 31 = .ok (.iload_n 1, 1) := by decide +kernel
theorem dX9_now_32 : decode cX9_now 32 = .ok (.invokevirtual 148, 3) := by decide +kernel
theorem dX9_now_35 : decode cX9_now 35 = .ok (.invokevirtual 96, 3) := by decide +kernel
theorem dX9_now_38 : decode cX9_now 38 = .ok (.ireturn, 1) := by decide +kernel
theorem dX9_sum_0 : decode cX9_sum 0 = .ok (.aload_n 0, 1) := by decide +kernel
theorem dX9_sum_1 : decode cX9_sum 1 = .ok (.getfield 10, 3) := by decide +kernel
theorem dX9_sum_4 : decode cX9_sum 4 = .ok (.iload_n 1, 1) := by decide +kernel
theorem dX9_sum_5 : decode cX9_sum 5 = .ok (.invokevirtual 149, 3) := by decide +kernel
theorem dX9_sum_8 : decode cX9_sum 8 = .ok (.ifCond .ne 11, 3) := by decide +kernel
theorem dX9_sum_11 : decode cX9_sum 11 = .ok (.aload_n 0, 1) := by decide +kernel
theorem dX9_sum_12 : decode cX9_sum 12 = .ok (.iconst 1, 1) := by decide +kernel
theorem dX9_sum_13 : decode cX9_sum 13 = .ok (.ldc 120, 2) := by decide +kernel
theorem dX9_sum_15 : decode cX9_sum 15 = .ok (.invokevirtual 75, 3) := by decide +kernel
theorem dX9_sum_18 : decode cX9_sum 18 = .ok (.ireturn, 1) := by decide +kernel
theorem dX9_sum_19 : decode cX9_sum 19 = .ok (.aload_n 0, 1) := by decide +kernel
theorem dX9_sum_20 : decode cX9_sum 20 = .ok (.aload_n 0, 1) := by decide +kernel
theorem dX9_sum_21 : decode cX9_sum 21 = .ok (.getfield 10, 3) := by decide +kernel
theorem dX9_sum_24 : decode cX9_sum 24 = .ok (.getfield 152, 3) := by decide +kernel
theorem dX9_sum_27 : decode cX9_sum 27 = .ok (.getfield 155, 3) := by decide +kernel
theorem dX9_sum_30 : decode cX9_sum 30 = .ok (.iload_n 1, 1) := by decide +kernel
theorem dX9_sum_31 : decode cX9_sum 31 = .ok (.iaload, 1) := by decide +kernel
theorem dX9_sum_32 : decode cX9_sum 32 = .ok (.invokevirtual 96, 3) := by decide +kernel
theorem dX9_sum_35 : decode cX9_sum 35 = .ok (.ireturn, 1) := by decide +kernel
theorem dX9_size_0 : decode cX9_size 0 = .ok (.aload_n 0, 1) := by decide +kernel
theorem dX9_size_1 : decode cX9_size 1 = .ok (.getfield 10, 3) := by decide +kernel
theorem dX9_size_4 : decode cX9_size 4 = .ok (.iload_n 1, 1) := by decide +kernel
theorem dX9_size_5 : decode cX9_size 5 = .ok (.invokevirtual 149, 3) := by decide +kernel
theorem dX9_size_8 : decode cX9_size 8 = .ok (.ifCond .ne 10, 3) := by decide +kernel
theorem dX9_size_11 : decode cX9_size 11 = .ok (.aload_n 0, 1) := by decide +kernel
theorem dX9_size_12 : decode cX9_size 12 = .ok (.iconst 1, 1) := by decide +kernel
theorem dX9_size_13 : decode cX9_size 13 = .ok (.iconst (-1), 1) := by decide +kernel
theorem dX9_size_14 : decode cX9_size 14 = .ok (.invokevirtual 75, 3) := by decide +kernel
theorem dX9_size_17 : decode cX9_size 17 = .ok (.ireturn, 1) := by decide +kernel
theorem dX9_size_18 : decode cX9_size 18 = .ok (.aload_n 0, 1) := by decide +kernel
theorem dX9_size_19 : decode cX9_size 19 = .ok (.aload_n 0, 1) := by decide +kernel
theorem dX9_size_20 : decode cX9_size 20 = .ok (.getfield 10, 3) := by decide +kernel
theorem dX9_size_23 : decode cX9_size 23 = .ok (.getfield 159, 3) := by decide +kernel
theorem dX9_size_26 : decode cX9_size 26 = .ok (.iload_n 1, 1) := by decide +kernel
theorem dX9_size_27 : decode cX9_size 27 = .ok (.iaload, 1) := by decide +kernel
theorem dX9_size_28 : decode cX9_size 28 = .ok (.invokevirtual 96, 3) := by decide +kernel
theorem dX9_size_31 : decode cX9_size 31 = .ok (.ireturn, 1) := by decide +kernel
theorem dX9_out_0 : decode cX9_out 0 = .ok (.aload_n 0, 1) := by decide +kernel
theorem dX9_out_1 : decode cX9_out 1 = .ok (.getfield 10, 3) := by decide +kernel
theorem dX9_out_4 : decode cX9_out 4 = .ok (.getfield 139, 3) := by decide +kernel
theorem dX9_out_7 : decode cX9_out 7 = .ok (.ifCond .ne 11, 3) := by decide +kernel
theorem dX9_out_10 : decode cX9_out 10 = .ok (.aload_n 0, 1) := by decide +kernel
theorem dX9_out_11 : decode cX9_out 11 = .ok (.iconst 1, 1) := by decide +kernel
theorem dX9_out_12 : decode cX9_out 12 = .ok (.ldc 120, 2) := by decide +kernel
theorem dX9_out_14 : decode cX9_out 14 = .ok (.invokevirtual 75, 3) := by decide +kernel
theorem dX9_out_17 : decode cX9_out 17 = .ok (.ireturn, 1) := by decide +kernel
theorem dX9_out_18 : decode cX9_out 18 = .ok (.aload_n 0, 1) := by decide +kernel
theorem dX9_out_19 : decode cX9_out 19 = .ok (.getfield 10, 3) := by decide +kernel
theorem dX9_out_22 : decode cX9_out 22 = .ok (.iload_n 1, 1) := by decide +kernel
theorem dX9_out_23 : decode cX9_out 23 = .ok (.iload_n 1, 1) := by decide +kernel
theorem dX9_out_24 : decode cX9_out 24 = .ok (.invokevirtual 162, 3) := by decide +kernel
theorem dX9_out_27 : decode cX9_out 27 = .ok (.ifCond .ne 11, 3) := by decide +kernel
theorem dX9_out_30 : decode cX9_out 30 = .ok (.aload_n 0, 1) := by decide +kernel
theorem dX9_out_31 : decode cX9_out 31 = .ok (.iconst 2, 1) := by decide +kernel
theorem dX9_out_32 : decode cX9_out 32 = .ok (.ldc 120, 2) := by decide +kernel
theorem dX9_out_34 : decode cX9_out 34 = .ok (.invokevirtual 75, 3) := by decide +kernel
theorem dX9_out_37 : decode cX9_out 37 = .ok (.ireturn, 1) := by decide +kernel
theorem dX9_out_38 : decode cX9_out 38 = .ok (.aload_n 0, 1) := by decide +kernel
theorem dX9_out_39 : decode cX9_out 39 = .ok (.aload_n 0, 1) := by decide +kernel
theorem dX9_out_40 : decode cX9_out 40 = .ok (.getfield 10, 3) := by decide +kernel
theorem dX9_out_43 : decode cX9_out 43 = .ok (.getfield 166, 3) := by decide +kernel
theorem dX9_out_46 : decode cX9_out 46 = .ok (.iload_n 1, 1) := by decide +kernel
theorem dX9_out_47 : decode cX9_out 47 = .ok (.baload, 1) := by decide +kernel
theorem dX9_out_48 : decode cX9_out 48 = .ok (.invokevirtual 96, 3) := by decide +kernel
theorem dX9_out_51 : decode cX9_out 51 = .ok (.ireturn, 1) := by decide +kernel
theorem dX9_often_0 : decode cX9_often 0 = .ok (.aload_n 0, 1) := by decide +kernel
theorem dX9_often_1 : decode cX9_often 1 = .ok (.getfield 10, 3) := by decide +kernel
theorem dX9_often_4 : decode cX9_often 4 = .ok (.getfield 139, 3) := by decide +kernel
theorem dX9_often_7 : decode cX9_often 7 = .ok (.ifCond .ne 10, 3) := by decide +kernel
theorem dX9_often_10 : decode cX9_often 10 = .ok (.aload_n 0, 1) := by decide +kernel
theorem dX9_often_11 : decode cX9_often 11 = .ok (.iconst 1, 1) := by decide +kernel
theorem dX9_often_12 : decode cX9_often 12 = .ok (.iconst (-1), 1) := by decide +kernel
theorem dX9_often_13 : decode cX9_often 13 = .ok (.invokevirtual 75, 3) := by decide +kernel
theorem dX9_often_16 : decode cX9_often 16 = .ok (.ireturn, 1) := by decide +kernel
theorem dX9_often_17 : decode cX9_often 17 = .ok (.iload_n 1, 1) := by decide +kernel
theorem dX9_often_18 : decode cX9_often 18 = .ok (.invokestatic 170, 3) := by decide +kernel
theorem dX9_often_21 : decode cX9_often 21 = .ok (.ifCond .eq 15, 3) := by decide +kernel
theorem dX9_often_24 : decode cX9_often 24 = .ok (.aload_n 0, 1) := by decide +kernel
theorem dX9_often_25 : decode cX9_often 25 = .ok (.getfield 10, 3) := by decide +kernel
theorem dX9_often_28 : decode cX9_often 28 = .ok (.iload_n 2, 1) := by decide +kernel
theorem dX9_often_29 : decode cX9_often 29 = .ok (.iload_n 3, 1) := by decide +kernel
theorem dX9_often_30 : decode cX9_often 30 = .ok (.invokevirtual 162, 3) := by decide +kernel
theorem dX9_often_33 : decode cX9_often 33 = .ok (.ifCond .ne 10, 3) := by decide +kernel
theorem dX9_often_36 : decode cX9_often 36 = .ok (.aload_n 0, 1) := by decide +kernel
theorem dX9_often_37 : decode cX9_often 37 = .ok (.iconst 2, 1) := by decide +kernel
theorem dX9_often_38 : decode cX9_often 38 = .ok (.iconst (-1), 1) := by decide +kernel
theorem dX9_often_39 : decode cX9_often 39 = .ok (.invokevirtual 75, 3) := by decide +kernel
theorem dX9_often_42 : decode cX9_often 42 = .ok (.ireturn, 1) := by decide +kernel
theorem dX9_often_43 : decode cX9_often 43 = .ok (.aload_n 0, 1) := by decide +kernel
theorem dX9_often_44 : decode cX9_often 44 = .ok (.aload_n 0, 1) := by decide +kernel
theorem dX9_often_45 : decode cX9_often 45 = .ok (.getfield 10, 3) := by decide +kernel
theorem dX9_often_48 : decode cX9_often 48 = .ok (.iload_n 1, 1) := by decide +kernel
theorem dX9_often_49 : decode cX9_often 49 = .ok (.iload_n 2, 1) := by decide +kernel
theorem dX9_often_50 : decode cX9_often 50 = .ok (.iload_n 3, 1) := by decide +kernel
theorem dX9_often_51 : decode cX9_often 51 = .ok (.invokevirtual 173, 3) := by decide +kernel
theorem dX9_often_54 : decode cX9_often 54 = .ok (.invokevirtual 96, 3) := by decide +kernel
theorem dX9_often_57 : decode cX9_often 57 = .ok (.ireturn, 1) := by decide +kernel
theorem dX9_astray_0 : decode cX9_astray 0 = .ok (.aload_n 0, 1) := by decide +kernel
theorem dX9_astray_1 : decode cX9_astray 1 = .ok (.getfield 10, 3) := by decide +kernel
theorem dX9_astray_4 : decode cX9_astray 4 = .ok (.getfield 139, 3) := by decide +kernel
theorem dX9_astray_7 : decode cX9_astray 7 = .ok (.ifCond .ne 11, 3) := by decide +kernel
theorem dX9_astray_10 : decode cX9_astray 10 = .ok (.aload_n 0, 1) := by decide +kernel
theorem dX9_astray_11 : decode cX9_astray 11 = .ok (.iconst 1, 1) := by decide +kernel
theorem dX9_astray_12 : decode cX9_astray 12 = .ok (.ldc 120, 2) := by decide +kernel
theorem dX9_astray_14 : decode cX9_astray 14 = .ok (.invokevirtual 75, 3) := by decide +kernel
theorem dX9_astray_17 : decode cX9_astray 17 = .ok (.ireturn, 1) := by decide +kernel
theorem dX9_astray_18 : decode cX9_astray 18 = .ok (.aload_n 0, 1) := by decide +kernel
theorem dX9_astray_19 : decode cX9_astray 19 = .ok (.getfield 10, 3) := by decide +kernel
theorem dX9_astray_22 : decode cX9_astray 22 = .ok (.iload_n 1, 1) := by decide +kernel
theorem dX9_astray_23 : decode cX9_astray 23 = .ok (.iload_n 2, 1) := by decide +kernel
theorem dX9_astray_24 : decode cX9_astray 24 = .ok (.invokevirtual 162, 3) := by decide +kernel
theorem dX9_astray_27 : decode cX9_astray 27 = .ok (.ifCond .ne 11, 3) := by decide +kernel
theorem dX9_astray_30 : decode cX9_astray 30 = .ok (.aload_n 0, 1) := by decide +kernel
theorem dX9_astray_31 : decode cX9_astray 31 = .ok (.iconst 2, 1) := by decide +kernel
theorem dX9_astray_32 : decode cX9_astray 32 = .ok (.ldc 120, 2) := by decide +kernel
theorem dX9_astray_34 : decode cX9_astray 34 = .ok (.invokevirtual 75, 3) := by decide +kernel
theorem dX9_astray_37 : decode cX9_astray 37 = .ok (.ireturn, 1) := by decide +kernel
theorem dX9_astray_38 : decode cX9_astray 38 = .ok (.aload_n 0, 1) := by decide +kernel
theorem dX9_astray_39 : decode cX9_astray 39 = .ok (.aload_n 0, 1) := by decide +kernel
theorem dX9_astray_40 : decode cX9_astray 40 = .ok (.getfield 10, 3) := by decide +kernel
theorem dX9_astray_43 : decode cX9_astray 43 = .ok (.iload_n 1, 1) := by decide +kernel
theorem dX9_astray_44 : decode cX9_astray 44 = .ok (.iload_n 2, 1) := by decide +kernel
theorem dX9_astray_45 : decode cX9_astray 45 = .ok (.invokevirtual 177, 3) := by decide +kernel
theorem dX9_astray_48 : decode cX9_astray 48 = .ok (.invokevirtual 96, 3) := by decide +kernel
theorem dX9_astray_51 : decode cX9_astray 51 = .ok (.ireturn, 1) := by decide +kernel
theorem dX9_rows_0 : decode cX9_rows 0 = .ok (.aload_n 0, 1) := by decide +kernel
theorem dX9_rows_1 : decode cX9_rows 1 = .ok (.getfield 10, 3) := by decide +kernel
theorem dX9_rows_4 : decode cX9_rows 4 = .ok (.getfield 139, 3) := by decide +kernel
theorem dX9_rows_7 : decode cX9_rows 7 = .ok (.ifCond .eq 12, 3) := by decide +kernel
theorem dX9_rows_10 : decode cX9_rows 10 = .ok (.iload_n 3, 1) := by decide +kernel
theorem dX9_rows_11 : decode cX9_rows 11 = .ok (.ifCond .lt 8, 3) := by decide +kernel
theorem dX9_rows_14 : decode cX9_rows 14 = .ok (.iload_n 3, 1) := by decide +kernel
theorem dX9_rows_15 : decode cX9_rows 15 = .ok (.iconst 1, 1) := by decide +kernel
theorem dX9_rows_16 : decode cX9_rows 16 = .ok (.if_icmp .le 10, 3) := by decide +kernel
theorem dX9_rows_19 : decode cX9_rows 19 = .ok (.aload_n 0, 1) := by decide +kernel
theorem dX9_rows_20 : decode cX9_rows 20 = .ok (.iconst 1, 1) := by decide +kernel
theorem dX9_rows_21 : decode cX9_rows 21 = .ok (.iconst (-1), 1) := by decide +kernel
theorem dX9_rows_22 : decode cX9_rows 22 = .ok (.invokevirtual 75, 3) := by decide +kernel
theorem dX9_rows_25 : decode cX9_rows 25 = .ok (.ireturn, 1) := by decide +kernel
theorem dX9_rows_26 : decode cX9_rows 26 = .ok (.aload_n 0, 1) := by decide +kernel
theorem dX9_rows_27 : decode cX9_rows 27 = .ok (.getfield 10, 3) := by decide +kernel
theorem dX9_rows_30 : decode cX9_rows 30 = .ok (.iload_n 1, 1) := by decide +kernel
theorem dX9_rows_31 : decode cX9_rows 31 = .ok (.iload_n 2, 1) := by decide +kernel
theorem dX9_rows_32 : decode cX9_rows 32 = .ok (.invokevirtual 162, 3) := by decide +kernel
theorem dX9_rows_35 : decode cX9_rows 35 = .ok (.ifCond .ne 10, 3) := by decide +kernel
theorem dX9_rows_38 : decode cX9_rows 38 = .ok (.aload_n 0, 1) := by decide +kernel
theorem dX9_rows_39 : decode cX9_rows 39 = .ok (.iconst 2, 1) := by decide +kernel
theorem dX9_rows_40 : decode cX9_rows 40 = .ok (.iconst (-1), 1) := by decide +kernel
theorem dX9_rows_41 : decode cX9_rows 41 = .ok (.invokevirtual 75, 3) := by decide +kernel
theorem dX9_rows_44 : decode cX9_rows 44 = .ok (.ireturn, 1) := by decide +kernel
theorem dX9_rows_45 : decode cX9_rows 45 = .ok (.aload_n 0, 1) := by decide +kernel
theorem dX9_rows_46 : decode cX9_rows 46 = .ok (.iload_n 3, 1) := by decide +kernel
theorem dX9_rows_47 : decode cX9_rows 47 = .ok (.ifCond .ne 15, 3) := by decide +kernel
theorem dX9_rows_50 : decode cX9_rows 50 = .ok (.aload_n 0, 1) := by decide +kernel
theorem dX9_rows_51 : decode cX9_rows 51 = .ok (.getfield 10, 3) := by decide +kernel
theorem dX9_rows_54 : decode cX9_rows 54 = .ok (.iload_n 1, 1) := by decide +kernel
theorem dX9_rows_55 : decode cX9_rows 55 = .ok (.iload_n 2, 1) := by decide +kernel
theorem dX9_rows_56 : decode cX9_rows 56 = .ok (.invokevirtual 180, 3) := by decide +kernel
theorem dX9_rows_59 : decode cX9_rows 59 = .ok (.goto 12, 3) := by decide +kernel
theorem dX9_rows_62 : decode cX9_rows 62 = .ok (.aload_n 0, 1) := by decide +kernel
theorem dX9_rows_63 : decode cX9_rows 63 = .ok (.getfield 10, 3) := by decide +kernel
theorem dX9_rows_66 : decode cX9_rows 66 = .ok (.iload_n 1, 1) := by decide +kernel
theorem dX9_rows_67 : decode cX9_rows 67 = .ok (.iload_n 2, 1) := by decide +kernel
theorem dX9_rows_68 : decode cX9_rows 68 = .ok (.invokevirtual 183, 3) := by decide +kernel
theorem dX9_rows_71 : decode cX9_rows 71 = .ok (.invokevirtual 96, 3) := by decide +kernel
theorem dX9_rows_74 : decode cX9_rows 74 = .ok (.ireturn, 1) := by decide +kernel
theorem dX9_like_0 : decode cX9_like 0 = .ok (.aload_n 0, 1) := by decide +kernel
theorem dX9_like_1 : decode cX9_like 1 = .ok (.getfield 10, 3) := by decide +kernel
theorem dX9_like_4 : decode cX9_like 4 = .ok (.getfield 139, 3) := by decide +kernel
theorem dX9_like_7 : decode cX9_like 7 = .ok (.ifCond .ne 10, 3) := by decide +kernel
theorem dX9_like_10 : decode cX9_like 10 = .ok (.aload_n 0, 1) := by decide +kernel
theorem dX9_like_11 : decode cX9_like 11 = .ok (.iconst 1, 1) := by decide +kernel
theorem dX9_like_12 : decode cX9_like 12 = .ok (.iconst (-1), 1) := by decide +kernel
theorem dX9_like_13 : decode cX9_like 13 = .ok (.invokevirtual 75, 3) := by decide +kernel
theorem dX9_like_16 : decode cX9_like 16 = .ok (.ireturn, 1) := by decide +kernel
theorem dX9_like_17 : decode cX9_like 17 = .ok (.aload_n 0, 1) := by decide +kernel
theorem dX9_like_18 : decode cX9_like 18 = .ok (.getfield 10, 3) := by decide +kernel
theorem dX9_like_21 : decode cX9_like 21 = .ok (.iload_n 1, 1) := by decide +kernel
theorem dX9_like_22 : decode cX9_like 22 = .ok (.iload_n 2, 1) := by decide +kernel
theorem dX9_like_23 : decode cX9_like 23 = .ok (.invokevirtual 162, 3) := by decide +kernel
theorem dX9_like_26 : decode cX9_like 26 = .ok (.ifCond .eq 15, 3) := by decide +kernel
theorem dX9_like_29 : decode cX9_like 29 = .ok (.iload_n 3, 1) := by decide +kernel
theorem dX9_like_30 : decode cX9_like 30 = .ok (.iconst 1, 1) := by decide +kernel
theorem dX9_like_31 : decode cX9_like 31 = .ok (.if_icmp .lt 10, 3) := by decide +kernel
theorem dX9_like_34 : decode cX9_like 34 = .ok (.iload_n 3, 1) := by decide +kernel
theorem dX9_like_35 : decode cX9_like 35 = .ok (.sipush 1000, 3) := by decide +kernel
theorem dX9_like_38 : decode cX9_like 38 = .ok (.if_icmp .le 10, 3) := by decide +kernel
theorem dX9_like_41 : decode cX9_like 41 = .ok (.aload_n 0, 1) := by decide +kernel
theorem dX9_like_42 : decode cX9_like 42 = .ok (.iconst 2, 1) := by decide +kernel
theorem dX9_like_43 : decode cX9_like 43 = .ok (.iconst (-1), 1) := by decide +kernel
theorem dX9_like_44 : decode cX9_like 44 = .ok (.invokevirtual 75, 3) := by decide +kernel
theorem dX9_like_47 : decode cX9_like 47 = .ok (.ireturn, 1) := by decide +kernel
theorem dX9_like_48 : decode cX9_like 48 = .ok (.aload_n 0, 1) := by decide +kernel
theorem dX9_like_49 : decode cX9_like 49 = .ok (.aload_n 0, 1) := by decide +kernel
theorem dX9_like_50 : decode cX9_like 50 = .ok (.getfield 10, 3) := by decide +kernel
theorem dX9_like_53 : decode cX9_like 53 = .ok (.iload_n 1, 1) := by decide +kernel
theorem dX9_like_54 : decode cX9_like 54 = .ok (.iload_n 2, 1) := by decide +kernel
theorem dX9_like_55 : decode cX9_like 55 = .ok (.iload_n 3, 1) := by decide +kernel
theorem dX9_like_56 : decode cX9_like 56 = .ok (.invokevirtual 186, 3) := by decide +kernel
theorem dX9_like_59 : decode cX9_like 59 = .ok (.invokevirtual 96, 3) := by decide +kernel
theorem dX9_like_62 : decode cX9_like 62 = .ok (.ireturn, 1) := by decide +kernel
theorem dX9_tone_0 : decode cX9_tone 0 = .ok (.aload_n 0, 1) := by decide +kernel
theorem dX9_tone_1 : decode cX9_tone 1 = .ok (.getfield 10, 3) := by decide +kernel
theorem dX9_tone_4 : decode cX9_tone 4 = .ok (.getfield 139, 3) := by decide +kernel
theorem dX9_tone_7 : decode cX9_tone 7 = .ok (.ifCond .ne 10, 3) := by decide +kernel
theorem dX9_tone_10 : decode cX9_tone 10 = .ok (.aload_n 0, 1) := by decide +kernel
theorem dX9_tone_11 : decode cX9_tone 11 = .ok (.iconst 1, 1) := by decide +kernel
theorem dX9_tone_12 : decode cX9_tone 12 = .ok (.iconst (-1), 1) := by decide +kernel
theorem dX9_tone_13 : decode cX9_tone 13 = .ok (.invokevirtual 75, 3) := by decide +kernel
theorem dX9_tone_16 : decode cX9_tone 16 = .ok (.ireturn, 1) := by decide +kernel
theorem dX9_tone_17 : decode cX9_tone 17 = .ok (.aload_n 0, 1) := by decide +kernel
theorem dX9_tone_18 : decode cX9_tone 18 = .ok (.getfield 10, 3) := by decide +kernel
theorem dX9_tone_21 : decode cX9_tone 21 = .ok (.iload_n 1, 1) := by decide +kernel
theorem dX9_tone_22 : decode cX9_tone 22 = .ok (.iload_n 2, 1) := by decide +kernel
theorem dX9_tone_23 : decode cX9_tone 23 = .ok (.invokevirtual 162, 3) := by decide +kernel
theorem dX9_tone_26 : decode cX9_tone 26 = .ok (.ifCond .eq 15, 3) := by decide +kernel
theorem dX9_tone_29 : decode cX9_tone 29 = .ok (.iload_n 3, 1) := by decide +kernel
theorem dX9_tone_30 : decode cX9_tone 30 = .ok (.iconst 1, 1) := by decide +kernel
theorem dX9_tone_31 : decode cX9_tone 31 = .ok (.if_icmp .lt 10, 3) := by decide +kernel
theorem dX9_tone_34 : decode cX9_tone 34 = .ok (.iload_n 3, 1) := by decide +kernel
theorem dX9_tone_35 : decode cX9_tone 35 = .ok (.sipush 200, 3) := by decide +kernel
theorem dX9_tone_38 : decode cX9_tone 38 = .ok (.if_icmp .le 10, 3) := by decide +kernel
theorem dX9_tone_41 : decode cX9_tone 41 = .ok (.aload_n 0, 1) := by decide +kernel
theorem dX9_tone_42 : decode cX9_tone 42 = .ok (.iconst 2, 1) := by decide +kernel
theorem dX9_tone_43 : decode cX9_tone 43 = .ok (.iconst (-1), 1) := by decide +kernel
theorem dX9_tone_44 : decode cX9_tone 44 = .ok (.invokevirtual 75, 3) := by decide +kernel
theorem dX9_tone_47 : decode cX9_tone 47 = .ok (.ireturn, 1) := by decide +kernel
theorem dX9_tone_48 : decode cX9_tone 48 = .ok (.aload_n 0, 1) := by decide +kernel
theorem dX9_tone_49 : decode cX9_tone 49 = .ok (.aload_n 0, 1) := by decide +kernel
theorem dX9_tone_50 : decode cX9_tone 50 = .ok (.getfield 10, 3) := by decide +kernel
theorem dX9_tone_53 : decode cX9_tone 53 = .ok (.iload_n 1, 1) := by decide +kernel
theorem dX9_tone_54 : decode cX9_tone 54 = .ok (.iload_n 2, 1) := by decide +kernel
theorem dX9_tone_55 : decode cX9_tone 55 = .ok (.iload_n 3, 1) := by decide +kernel
theorem dX9_tone_56 : decode cX9_tone 56 = .ok (.invokevirtual 189, 3) := by decide +kernel
theorem dX9_tone_59 : decode cX9_tone 59 = .ok (.invokevirtual 96, 3) := by decide +kernel
theorem dX9_tone_62 : decode cX9_tone 62 = .ok (.ireturn, 1) := by decide +kernel
theorem dX9_nth_0 : decode cX9_nth 0 = .ok (.aload_n 0, 1) := by decide +kernel
theorem dX9_nth_1 : decode cX9_nth 1 = .ok (.getfield 10, 3) := by decide +kernel
theorem dX9_nth_4 : decode cX9_nth 4 = .ok (.getfield 139, 3) := by decide +kernel
theorem dX9_nth_7 : decode cX9_nth 7 = .ok (.ifCond .ne 10, 3) := by decide +kernel
theorem dX9_nth_10 : decode cX9_nth 10 = .ok (.aload_n 0, 1) := by decide +kernel
theorem dX9_nth_11 : decode cX9_nth 11 = .ok (.iconst 1, 1) := by decide +kernel
theorem dX9_nth_12 : decode cX9_nth 12 = .ok (.iconst (-1), 1) := by decide +kernel
theorem dX9_nth_13 : decode cX9_nth 13 = .ok (.invokevirtual 75, 3) := by decide +kernel
theorem dX9_nth_16 : decode cX9_nth 16 = .ok (.ireturn, 1) := by decide +kernel
theorem dX9_nth_17 : decode cX9_nth 17 = .ok (.iload_n 1, 1) := by decide +kernel
theorem dX9_nth_18 : decode cX9_nth 18 = .ok (.invokestatic 170, 3) := by decide +kernel
theorem dX9_nth_21 : decode cX9_nth 21 = .ok (.ifCond .eq 7, 3) := by decide +kernel
theorem dX9_nth_24 : decode cX9_nth 24 = .ok (.iload_n 2, 1) := by decide +kernel
theorem dX9_nth_25 : decode cX9_nth 25 = .ok (.ifCond .ge 10, 3) := by decide +kernel
theorem dX9_nth_28 : decode cX9_nth 28 = .ok (.aload_n 0, 1) := by decide +kernel
theorem dX9_nth_29 : decode cX9_nth 29 = .ok (.iconst 2, 1) := by decide +kernel
theorem dX9_nth_30 : decode cX9_nth 30 = .ok (.iconst (-1), 1) := by decide +kernel
theorem dX9_nth_31 : decode cX9_nth 31 = .ok (.invokevirtual 75, 3) := by decide +kernel
theorem dX9_nth_34 : decode cX9_nth 34 = .ok (.ireturn, 1) := by decide +kernel
theorem dX9_nth_35 : decode cX9_nth 35 = .ok (.aload_n 0, 1) := by decide +kernel
theorem dX9_nth_36 : decode cX9_nth 36 = .ok (.aload_n 0, 1) := by decide +kernel
theorem dX9_nth_37 : decode cX9_nth 37 = .ok (.getfield 10, 3) := by decide +kernel
theorem dX9_nth_40 : decode cX9_nth 40 = .ok (.iload_n 1, 1) := by decide +kernel
theorem dX9_nth_41 : decode cX9_nth 41 = .ok (.iload_n 2, 1) := by decide +kernel
theorem dX9_nth_42 : decode cX9_nth 42 = .ok (.invokevirtual 192, 3) := by decide +kernel
theorem dX9_nth_45 : decode cX9_nth 45 = .ok (.invokevirtual 96, 3) := by decide +kernel
theorem dX9_nth_48 : decode cX9_nth 48 = .ok (.ireturn, 1) := by decide +kernel
theorem dX9_mean_0 : decode cX9_mean 0 = .ok (.aload_n 0, 1) := by decide +kernel
theorem dX9_mean_1 : decode cX9_mean 1 = .ok (.getfield 10, 3) := by decide +kernel
theorem dX9_mean_4 : decode cX9_mean 4 = .ok (.getfield 139, 3) := by decide +kernel
theorem dX9_mean_7 : decode cX9_mean 7 = .ok (.ifCond .eq 12, 3) := by decide +kernel
theorem dX9_mean_10 : decode cX9_mean 10 = .ok (.iload_n 3, 1) := by decide +kernel
theorem dX9_mean_11 : decode cX9_mean 11 = .ok (.ifCond .lt 8, 3) := by decide +kernel
theorem dX9_mean_14 : decode cX9_mean 14 = .ok (.iload_n 3, 1) := by decide +kernel
theorem dX9_mean_15 : decode cX9_mean 15 = .ok (.iconst 1, 1) := by decide +kernel
theorem dX9_mean_16 : decode cX9_mean 16 = .ok (.if_icmp .le 11, 3) := by decide +kernel
theorem dX9_mean_19 : decode cX9_mean 19 = .ok (.aload_n 0, 1) := by decide +kernel
theorem dX9_mean_20 : decode cX9_mean 20 = .ok (.iconst 1, 1) := by decide +kernel
theorem dX9_mean_21 : decode cX9_mean 21 = .ok (.ldc 120, 2) := by decide +kernel
theorem dX9_mean_23 : decode cX9_mean 23 = .ok (.invokevirtual 75, 3) := by decide +kernel
theorem dX9_mean_26 : decode cX9_mean 26 = .ok (.ireturn, 1) := by decide +kernel
theorem dX9_mean_27 : decode cX9_mean 27 = .ok (.aload_n 0, 1) := by decide +kernel
theorem dX9_mean_28 : decode cX9_mean 28 = .ok (.getfield 10, 3) := by decide +kernel
theorem dX9_mean_31 : decode cX9_mean 31 = .ok (.iload_n 1, 1) := by decide +kernel
theorem dX9_mean_32 : decode cX9_mean 32 = .ok (.iload_n 2, 1) := by decide +kernel
theorem dX9_mean_33 : decode cX9_mean 33 = .ok (.invokevirtual 162, 3) := by decide +kernel
theorem dX9_mean_36 : decode cX9_mean 36 = .ok (.ifCond .ne 11, 3) := by decide +kernel
theorem dX9_mean_39 : decode cX9_mean 39 = .ok (.aload_n 0, 1) := by decide +kernel
theorem dX9_mean_40 : decode cX9_mean 40 = .ok (.iconst 2, 1) := by decide +kernel
theorem dX9_mean_41 : decode cX9_mean 41 = .ok (.ldc 120, 2) := by decide +kernel
theorem dX9_mean_43 : decode cX9_mean 43 = .ok (.invokevirtual 75, 3) := by decide +kernel
theorem dX9_mean_46 : decode cX9_mean 46 = .ok (.ireturn, 1) := by decide +kernel
theorem dX9_mean_47 : decode cX9_mean 47 = .ok (.aload_n 0, 1) := by decide +kernel
theorem dX9_mean_48 : decode cX9_mean 48 = .ok (.getfield 10, 3) := by decide +kernel
theorem dX9_mean_51 : decode cX9_mean 51 = .ok (.iload_n 1, 1) := by decide +kernel
theorem dX9_mean_52 : decode cX9_mean 52 = .ok (.iload_n 2, 1) := by decide +kernel
theorem dX9_mean_53 : decode cX9_mean 53 = .ok (.invokevirtual 195, 3) := by decide +kernel
theorem dX9_mean_56 : decode cX9_mean 56 = .ok (.istore 4, 2) := by decide +kernel
theorem dX9_mean_58 : decode cX9_mean 58 = .ok (.iload_n 2, 1) := by decide +kernel
theorem dX9_mean_59 : decode cX9_mean 59 = .ok (.iload_n 1, 1) := by decide +kernel
theorem dX9_mean_60 : decode cX9_mean 60 = .ok (.isub, 1) := by decide +kernel
theorem dX9_mean_61 : decode cX9_mean 61 = .ok (.iconst 1, 1) := by decide +kernel
theorem dX9_mean_62 : decode cX9_mean 62 = .ok (.iadd, 1) := by decide +kernel
theorem dX9_mean_63 : decode cX9_mean 63 = .ok (.istore 5, 2) := by decide +kernel
theorem dX9_mean_65 : decode cX9_mean 65 = .ok (.iload 4, 2) := by decide +kernel
theorem dX9_mean_67 : decode cX9_mean 67 = .ok (.invokestatic 198, 3) := by decide +kernel
theorem dX9_mean_70 : decode cX9_mean 70 = .ok (.iload 5, 2) := by decide +kernel
theorem dX9_mean_72 : decode cX9_mean 72 = .ok (.invokestatic 203, 3) := by decide +kernel
theorem dX9_mean_75 : decode cX9_mean 75 = .ok (.istore 6, 2) := by decide +kernel
theorem dX9_mean_77 : decode cX9_mean 77 = .ok (.aload_n 0, 1) := by decide +kernel
theorem dX9_mean_78 : decode cX9_mean 78 = .ok (.iload_n 3, 1) := by decide +kernel
theorem dX9_mean_79 : decode cX9_mean 79 = .ok (.ifCond .ne 8, 3) := by decide +kernel
theorem dX9_mean_82 : decode cX9_mean 82 = .ok (.iload 4, 2) := by decide +kernel
theorem dX9_mean_84 : decode cX9_mean 84 = .ok (.goto 5, 3) := by decide +kernel
theorem dX9_mean_87 : decode cX9_mean 87 = .ok (.iload 5, 2) := by decide +kernel
theorem dX9_mean_89 : decode cX9_mean 89 = .ok (.iload 6, 2) := by decide +kernel
theorem dX9_mean_91 : decode cX9_mean 91 = .ok (.idiv, 1) := by decide +kernel
theorem dX9_mean_92 : decode cX9_mean 92 = .ok (.invokevirtual 96, 3) := by decide +kernel
theorem dX9_mean_95 : decode cX9_mean 95 = .ok (.ireturn, 1) := by decide +kernel
theorem dX9_octet_0 : decode cX9_octet 0 = .ok (.aload_n 0, 1) := by decide +kernel
theorem dX9_octet_1 : decode cX9_octet 1 = .ok (.getfield 10, 3) := by decide +kernel
theorem dX9_octet_4 : decode cX9_octet 4 = .ok (.getfield 139, 3) := by decide +kernel
theorem dX9_octet_7 : decode cX9_octet 7 = .ok (.ifCond .ne 10, 3) := by decide +kernel
theorem dX9_octet_10 : decode cX9_octet 10 = .ok (.aload_n 0, 1) := by decide +kernel
theorem dX9_octet_11 : decode cX9_octet 11 = .ok (.iconst 1, 1) := by decide +kernel
theorem dX9_octet_12 : decode cX9_octet 12 = .ok (.iconst (-1), 1) := by decide +kernel
theorem dX9_octet_13 : decode cX9_octet 13 = .ok (.invokevirtual 75, 3) := by decide +kernel
theorem dX9_octet_16 : decode cX9_octet 16 = .ok (.ireturn, 1) := by decide +kernel
theorem dX9_octet_17 : decode cX9_octet 17 = .ok (.iload_n 1, 1) := by decide +kernel
theorem dX9_octet_18 : decode cX9_octet 18 = .ok (.ifCond .lt 17, 3) := by decide +kernel
theorem dX9_octet_21 : decode cX9_octet 21 = .ok (.iload_n 1, 1) := by decide +kernel
theorem dX9_octet_22 : decode cX9_octet 22 = .ok (.aload_n 0, 1) := by decide +kernel
theorem dX9_octet_23 : decode cX9_octet 23 = .ok (.getfield 10, 3) := by decide +kernel
theorem dX9_octet_26 : decode cX9_octet 26 = .ok (.getfield 142, 3) := by decide +kernel
theorem dX9_octet_29 : decode cX9_octet 29 = .ok (.bipush 8, 2) := by decide +kernel
theorem dX9_octet_31 : decode cX9_octet 31 = .ok (.idiv, 1) := by decide +kernel
theorem dX9_octet_32 : decode cX9_octet 32 = .ok (.if_icmp .lt 10, 3) := by decide +kernel
theorem dX9_octet_35 : decode cX9_octet 35 = .ok (.aload_n 0, 1) := by decide +kernel
theorem dX9_octet_36 : decode cX9_octet 36 = .ok (.iconst 2, 1) := by decide +kernel
theorem dX9_octet_37 : decode cX9_octet 37 = .ok (.iconst (-1), 1) := by decide +kernel
theorem dX9_octet_38 : decode cX9_octet 38 = .ok (.invokevirtual 75, 3) := by decide +kernel
theorem dX9_octet_41 : decode cX9_octet 41 = .ok (.ireturn, 1) := by decide +kernel
theorem dX9_octet_42 : decode cX9_octet 42 = .ok (.aload_n 0, 1) := by decide +kernel
theorem dX9_octet_43 : decode cX9_octet 43 = .ok (.aload_n 0, 1) := by decide +kernel
theorem dX9_octet_44 : decode cX9_octet 44 = .ok (.getfield 10, 3) := by decide +kernel
theorem dX9_octet_47 : decode cX9_octet 47 = .ok (.bipush 8, 2) := by decide +kernel
theorem dX9_octet_49 : decode cX9_octet 49 = .ok (.iload_n 1, 1) := by decide +kernel
theorem dX9_octet_50 : decode cX9_octet 50 = .ok (.imul, 1) := by decide +kernel
theorem dX9_octet_51 : decode cX9_octet 51 = .ok (.invokevirtual 206, 3) := by decide +kernel
theorem dX9_octet_54 : decode cX9_octet 54 = .ok (.invokevirtual 96, 3) := by decide +kernel
theorem dX9_octet_57 : decode cX9_octet 57 = .ok (.ireturn, 1) := by decide +kernel
theorem dX9_summed_0 : decode cX9_summed 0 = .ok (.aload_n 0, 1) := by decide +kernel
theorem dX9_summed_1 : decode cX9_summed 1 = .ok (.getfield 10, 3) := by decide +kernel
theorem dX9_summed_4 : decode cX9_summed 4 = .ok (.getfield 139, 3) := by decide +kernel
theorem dX9_summed_7 : decode cX9_summed 7 = .ok (.ifCond .ne 10, 3) := by decide +kernel
theorem dX9_summed_10 : decode cX9_summed 10 = .ok (.aload_n 0, 1) := by decide +kernel
theorem dX9_summed_11 : decode cX9_summed 11 = .ok (.iconst 1, 1) := by decide +kernel
theorem dX9_summed_12 : decode cX9_summed 12 = .ok (.iconst (-1), 1) := by decide +kernel
theorem dX9_summed_13 : decode cX9_summed 13 = .ok (.invokevirtual 75, 3) := by decide +kernel
theorem dX9_summed_16 : decode cX9_summed 16 = .ok (.ireturn, 1) := by decide +kernel
theorem dX9_summed_17 : decode cX9_summed 17 = .ok (.iload_n 1, 1) := by decide +kernel
theorem dX9_summed_18 : decode cX9_summed 18 = .ok (.iload_n 2, 1) := by decide +kernel
theorem dX9_summed_19 : decode cX9_summed 19 = .ok (.invokestatic 209, 3) := by decide +kernel
theorem dX9_summed_22 : decode cX9_summed 22 = .ok (.ifCond .ne 10, 3) := by decide +kernel
theorem dX9_summed_25 : decode cX9_summed 25 = .ok (.aload_n 0, 1) := by decide +kernel
theorem dX9_summed_26 : decode cX9_summed 26 = .ok (.iconst 2, 1) := by decide +kernel
theorem dX9_summed_27 : decode cX9_summed 27 = .ok (.iconst (-1), 1) := by decide +kernel
theorem dX9_summed_28 : decode cX9_summed 28 = .ok (.invokevirtual 75, 3) := by decide +kernel
theorem dX9_summed_31 : decode cX9_summed 31 = .ok (.ireturn, 1) := by decide +kernel
theorem dX9_summed_32 : decode cX9_summed 32 = .ok (.aload_n 0, 1) := by decide +kernel
theorem dX9_summed_33 : decode cX9_summed 33 = .ok (.aload_n 0, 1) := by decide +kernel
