theorem dX9_summed_34 : decode cX9_summed 34 = .ok (.getfield 10, 3) := by decide +kernel
theorem dX9_summed_37 : decode cX9_summed 37 = .ok (.iload_n 1, 1) := by decide +kernel
theorem dX9_summed_38 : decode cX9_summed 38 = .ok (.iload_n 2, 1) := by decide +kernel
theorem dX9_summed_39 : decode cX9_summed 39 = .ok (.invokevirtual 212, 3) := by decide +kernel
theorem dX9_summed_42 : decode cX9_summed 42 = .ok (.invokevirtual 96, 3) := by decide +kernel
theorem dX9_summed_45 : decode cX9_summed 45 = .ok (.ireturn, 1) := by decide +kernel
theorem dX9_summedAt_0 : decode cX9_summedAt 0 = .ok (.aload_n 0, 1) := by decide +kernel
theorem dX9_summedAt_1 : decode cX9_summedAt 1 = .ok (.getfield 10, 3) := by decide +kernel
theorem dX9_summedAt_4 : decode cX9_summedAt 4 = .ok (.getfield 139, 3) := by decide +kernel
theorem dX9_summedAt_7 : decode cX9_summedAt 7 = .ok (.ifCond .ne 11, 3) := by decide +kernel
theorem dX9_summedAt_10 : decode cX9_summedAt 10 = .ok (.aload_n 0, 1) := by decide +kernel
theorem dX9_summedAt_11 : decode cX9_summedAt 11 = .ok (.iconst 1, 1) := by decide +kernel
theorem dX9_summedAt_12 : decode cX9_summedAt 12 = .ok (.ldc 120, 2) := by decide +kernel
theorem dX9_summedAt_14 : decode cX9_summedAt 14 = .ok (.invokevirtual 75, 3) := by decide +kernel
theorem dX9_summedAt_17 : decode cX9_summedAt 17 = .ok (.ireturn, 1) := by decide +kernel
theorem dX9_summedAt_18 : decode cX9_summedAt 18 = .ok (.iload_n 1, 1) := by decide +kernel
theorem dX9_summedAt_19 : decode cX9_summedAt 19 = .ok (.iload_n 2, 1) := by decide +kernel
theorem dX9_summedAt_20 : decode cX9_summedAt 20 = .ok (.invokestatic 209, 3) := by decide +kernel
theorem dX9_summedAt_23 : decode cX9_summedAt 23 = .ok (.ifCond .eq 20, 3) := by decide +kernel
theorem dX9_summedAt_26 : decode cX9_summedAt 26 = .ok (.iload_n 3, 1) := by decide +kernel
theorem dX9_summedAt_27 : decode cX9_summedAt 27 = .ok (.ifCond .lt 16, 3) := by decide +kernel
theorem dX9_summedAt_30 : decode cX9_summedAt 30 = .ok (.iload_n 3, 1) := by decide +kernel
theorem dX9_summedAt_31 : decode cX9_summedAt 31 = .ok (.aload_n 0, 1) := by decide +kernel
theorem dX9_summedAt_32 : decode cX9_summedAt 32 = .ok (.getfield 10, 3) := by decide +kernel
theorem dX9_summedAt_35 : decode cX9_summedAt 35 = .ok (.iload_n 1, 1) := by decide +kernel
theorem dX9_summedAt_36 : decode cX9_summedAt 36 = .ok (.iload_n 2, 1) := by decide +kernel
theorem dX9_summedAt_37 : decode cX9_summedAt 37 = .ok (.invokevirtual 212, 3) := by decide +kernel
theorem dX9_summedAt_40 : decode cX9_summedAt 40 = .ok (.if_icmp .lt 11, 3) := by decide +kernel
theorem dX9_summedAt_43 : decode cX9_summedAt 43 = .ok (.aload_n 0, 1) := by decide +kernel
theorem dX9_summedAt_44 : decode cX9_summedAt 44 = .ok (.iconst 2, 1) := by decide +kernel
theorem dX9_summedAt_45 : decode cX9_summedAt 45 = .ok (.ldc 120, 2) := by decide +kernel
theorem dX9_summedAt_47 : decode cX9_summedAt 47 = .ok (.invokevirtual 75, 3) := by decide +kernel
theorem dX9_summedAt_50 : decode cX9_summedAt 50 = .ok (.ireturn, 1) := by decide +kernel
theorem dX9_summedAt_51 : decode cX9_summedAt 51 = .ok (.aload_n 0, 1) := by decide +kernel
theorem dX9_summedAt_52 : decode cX9_summedAt 52 = .ok (.getfield 26, 3) := by decide +kernel
theorem dX9_summedAt_55 : decode cX9_summedAt 55 = .ok (.iload_n 1, 1) := by decide +kernel
theorem dX9_summedAt_56 : decode cX9_summedAt 56 = .ok (.iload_n 2, 1) := by decide +kernel
theorem dX9_summedAt_57 : decode cX9_summedAt 57 = .ok (.invokevirtual 215, 3) := by decide +kernel
theorem dX9_summedAt_60 : decode cX9_summedAt 60 = .ok (.aload_n 0, 1) := by decide +kernel
theorem dX9_summedAt_61 : decode cX9_summedAt 61 = .ok (.aload_n 0, 1) := by decide +kernel
theorem dX9_summedAt_62 : decode cX9_summedAt 62 = .ok (.getfield 10, 3) := by decide +kernel
theorem dX9_summedAt_65 : decode cX9_summedAt 65 = .ok (.aload_n 0, 1) := by decide +kernel
theorem dX9_summedAt_66 : decode cX9_summedAt 66 = .ok (.getfield 26, 3) := by decide +kernel
theorem dX9_summedAt_69 : decode cX9_summedAt 69 = .ok (.iload_n 3, 1) := by decide +kernel
theorem dX9_summedAt_70 : decode cX9_summedAt 70 = .ok (.iload_n 2, 1) := by decide +kernel
theorem dX9_summedAt_71 : decode cX9_summedAt 71 = .ok (.imul, 1) := by decide +kernel
theorem dX9_summedAt_72 : decode cX9_summedAt 72 = .ok (.invokevirtual 219, 3) := by decide +kernel
theorem dX9_summedAt_75 : decode cX9_summedAt 75 = .ok (.invokevirtual 96, 3) := by decide +kernel
theorem dX9_summedAt_78 : decode cX9_summedAt 78 = .ok (.ireturn, 1) := by decide +kernel
theorem dX9_worst_0 : decode cX9_worst 0 = .ok (.aload_n 0, 1) := by decide +kernel
theorem dX9_worst_1 : decode cX9_worst 1 = .ok (.getfield 10, 3) := by decide +kernel
theorem dX9_worst_4 : decode cX9_worst 4 = .ok (.getfield 139, 3) := by decide +kernel
theorem dX9_worst_7 : decode cX9_worst 7 = .ok (.ifCond .ne 10, 3) := by decide +kernel
theorem dX9_worst_10 : decode cX9_worst 10 = .ok (.aload_n 0, 1) := by decide +kernel
theorem dX9_worst_11 : decode cX9_worst 11 = .ok (.iconst 1, 1) := by decide +kernel
theorem dX9_worst_12 : decode cX9_worst 12 = .ok (.iconst (-1), 1) := by decide +kernel
theorem dX9_worst_13 : decode cX9_worst 13 = .ok (.invokevirtual 75, 3) := by decide +kernel
theorem dX9_worst_16 : decode cX9_worst 16 = .ok (.ireturn, 1) := by decide +kernel
theorem dX9_worst_17 : decode cX9_worst 17 = .ok (.iload_n 1, 1) := by decide +kernel
theorem dX9_worst_18 : decode cX9_worst 18 = .ok (.iload_n 2, 1) := by decide +kernel
theorem dX9_worst_19 : decode cX9_worst 19 = .ok (.invokestatic 209, 3) := by decide +kernel
theorem dX9_worst_22 : decode cX9_worst 22 = .ok (.ifCond .ne 10, 3) := by decide +kernel
theorem dX9_worst_25 : decode cX9_worst 25 = .ok (.aload_n 0, 1) := by decide +kernel
theorem dX9_worst_26 : decode cX9_worst 26 = .ok (.iconst 2, 1) := by decide +kernel
theorem dX9_worst_27 : decode cX9_worst 27 = .ok (.iconst (-1), 1) := by decide +kernel
theorem dX9_worst_28 : decode cX9_worst 28 = .ok (.invokevirtual 75, 3) := by decide +kernel
theorem dX9_worst_31 : decode cX9_worst 31 = .ok (.ireturn, 1) := by decide +kernel
theorem dX9_worst_32 : decode cX9_worst 32 = .ok (.aload_n 0, 1) := by decide +kernel
theorem dX9_worst_33 : decode cX9_worst 33 = .ok (.getfield 10, 3) := by decide +kernel
theorem dX9_worst_36 : decode cX9_worst 36 = .ok (.iload_n 1, 1) := by decide +kernel
theorem dX9_worst_37 : decode cX9_worst 37 = .ok (.iload_n 2, 1) := by decide +kernel
theorem dX9_worst_38 : decode cX9_worst 38 = .ok (.invokevirtual 212, 3) := by decide +kernel
theorem dX9_worst_41 : decode cX9_worst 41 = .ok (.istore_n 3, 1) := by decide +kernel
theorem dX9_worst_42 : decode cX9_worst 42 = .ok (.iload_n 3, 1) := by decide +kernel
theorem dX9_worst_43 : decode cX9_worst 43 = .ok (.ifCond .ne 10, 3) := by decide +kernel
theorem dX9_worst_46 : decode cX9_worst 46 = .ok (.aload_n 0, 1) := by decide +kernel
theorem dX9_worst_47 : decode cX9_worst 47 = .ok (.iconst 5, 1) := by decide +kernel
theorem dX9_worst_48 : decode cX9_worst 48 = .ok (.iconst (-1), 1) := by decide +kernel
theorem dX9_worst_49 : decode cX9_worst 49 = .ok (.invokevirtual 75, 3) := by decide +kernel
theorem dX9_worst_52 : decode cX9_worst 52 = .ok (.ireturn, 1) := by decide +kernel
theorem dX9_worst_53 : decode cX9_worst 53 = .ok (.aload_n 0, 1) := by decide +kernel
theorem dX9_worst_54 : decode cX9_worst 54 = .ok (.getfield 26, 3) := by decide +kernel
theorem dX9_worst_57 : decode cX9_worst 57 = .ok (.iload_n 1, 1) := by decide +kernel
theorem dX9_worst_58 : decode cX9_worst 58 = .ok (.iload_n 2, 1) := by decide +kernel
theorem dX9_worst_59 : decode cX9_worst 59 = .ok (.invokevirtual 215, 3) := by decide +kernel
theorem dX9_worst_62 : decode cX9_worst 62 = .ok (.iconst 0, 1) := by decide +kernel
theorem dX9_worst_63 : decode cX9_worst 63 = .ok (.istore 4, 2) := by decide +kernel
theorem dX9_worst_65 : decode cX9_worst 65 = .ok (.iconst 0, 1) := by decide +kernel
theorem dX9_worst_66 : decode cX9_worst 66 = .ok (.istore 5, 2) := by decide +kernel
theorem dX9_worst_68 : decode cX9_worst 68 = .ok (.iload 5, 2) := by decide +kernel
theorem dX9_worst_70 : decode cX9_worst 70 = .ok (.iload_n 3, 1) := by decide +kernel
theorem dX9_worst_71 : decode cX9_worst 71 = .ok (.if_icmp .ge 34, 3) := by decide +kernel
theorem dX9_worst_74 : decode cX9_worst 74 = .ok (.iload 4, 2) := by decide +kernel
theorem dX9_worst_76 : decode cX9_worst 76 = .ok (.aload_n 0, 1) := by decide +kernel
theorem dX9_worst_77 : decode cX9_worst 77 = .ok (.getfield 10, 3) := by decide +kernel
theorem dX9_worst_80 : decode cX9_worst 80 = .ok (.aload_n 0, 1) := by decide +kernel
theorem dX9_worst_81 : decode cX9_worst 81 = .ok (.getfield 26, 3) := by decide +kernel
theorem dX9_worst_84 : decode cX9_worst 84 = .ok (.iload 5, 2) := by decide +kernel
theorem dX9_worst_86 : decode cX9_worst 86 = .ok (.iload_n 2, 1) := by decide +kernel
theorem dX9_worst_87 : decode cX9_worst 87 = .ok (.imul, 1) := by decide +kernel
theorem dX9_worst_88 : decode cX9_worst 88 = .ok (.invokevirtual 223, 3) := by decide +kernel
theorem dX9_worst_91 : decode cX9_worst 91 = .ok (.invokestatic 198, 3) := by decide +kernel
theorem dX9_worst_94 : decode cX9_worst 94 = .ok (.invokestatic 226, 3) := by decide +kernel
theorem dX9_worst_97 : decode cX9_worst 97 = .ok (.istore 4, 2) := by decide +kernel
theorem dX9_worst_99 : decode cX9_worst 99 = .ok (.iinc 5 1, 3) := by decide +kernel
theorem dX9_worst_102 : decode cX9_worst 102 = .ok (.goto (-34), 3) := by decide +kernel
theorem dX9_worst_105 : decode cX9_worst 105 = .ok (.aload_n 0, 1) := by decide +kernel
theorem dX9_worst_106 : decode cX9_worst 106 = .ok (.iload 4, 2) := by decide +kernel
theorem dX9_worst_108 : decode cX9_worst 108 = .ok (.invokevirtual 96, 3) := by decide +kernel
theorem dX9_worst_111 : decode cX9_worst 111 = .ok (.ireturn, 1) := by decide +kernel
theorem dX9_cycle_0 : decode cX9_cycle 0 = .ok (.aload_n 0, 1) := by decide +kernel
theorem dX9_cycle_1 : decode cX9_cycle 1 = .ok (.getfield 57, 3) := by decide +kernel
theorem dX9_cycle_4 : decode cX9_cycle 4 = .ok (.iload_n 1, 1) := by decide +kernel
theorem dX9_cycle_5 : decode cX9_cycle 5 = .ok (.invokevirtual 107, 3) := by decide +kernel
theorem dX9_cycle_8 : decode cX9_cycle 8 = .ok (.astore 4, 2) := by decide +kernel
theorem dX9_cycle_10 : decode cX9_cycle 10 = .ok (.aload 4, 2) := by decide +kernel
theorem dX9_cycle_12 : decode cX9_cycle 12 = .ok (.ifnull 12, 3) := by decide +kernel
theorem dX9_cycle_15 : decode cX9_cycle 15 = .ok (.iload_n 3, 1) := by decide +kernel
theorem dX9_cycle_16 : decode cX9_cycle 16 = .ok (.ifCond .lt 8, 3) := by decide +kernel
theorem dX9_cycle_19 : decode cX9_cycle 19 = .ok (.iload_n 3, 1) := by decide +kernel
theorem dX9_cycle_20 : decode cX9_cycle 20 = .ok (.iconst 5, 1) := by decide +kernel
theorem dX9_cycle_21 : decode cX9_cycle 21 = .ok (.if_icmp .le 11, 3) := by decide +kernel
theorem dX9_cycle_24 : decode cX9_cycle 24 = .ok (.aload_n 0, 1) := by decide +kernel
theorem dX9_cycle_25 : decode cX9_cycle 25 = .ok (.iconst 1, 1) := by decide +kernel
theorem dX9_cycle_26 : decode cX9_cycle 26 = .ok (.ldc 120, 2) := by decide +kernel
theorem dX9_cycle_28 : decode cX9_cycle 28 = .ok (.invokevirtual 75, 3) := by decide +kernel
theorem dX9_cycle_31 : decode cX9_cycle 31 = .ok (.ireturn, 1) := by decide +kernel
theorem dX9_cycle_32 : decode cX9_cycle 32 = .ok (.iload_n 2, 1) := by decide +kernel
theorem dX9_cycle_33 : decode cX9_cycle 33 = .ok (.i2l, 1) := by decide +kernel
theorem dX9_cycle_34 : decode cX9_cycle 34 = .ok (.invokestatic 229, 3) := by decide +kernel
theorem dX9_cycle_37 : decode cX9_cycle 37 = .ok (.ifCond .ne 11, 3) := by decide +kernel
theorem dX9_cycle_40 : decode cX9_cycle 40 = .ok (.aload_n 0, 1) := by decide +kernel
theorem dX9_cycle_41 : decode cX9_cycle 41 = .ok (.iconst 2, 1) := by decide +kernel
theorem dX9_cycle_42 : decode cX9_cycle 42 = .ok (.ldc 120, 2) := by decide +kernel
theorem dX9_cycle_44 : decode cX9_cycle 44 = .ok (.invokevirtual 75, 3) := by decide +kernel
theorem dX9_cycle_47 : decode cX9_cycle 47 = .ok (.ireturn, 1) := by decide +kernel
theorem dX9_cycle_48 : decode cX9_cycle 48 = .ok (.aload_n 0, 1) := by decide +kernel
theorem dX9_cycle_49 : decode cX9_cycle 49 = .ok (.getfield 33, 3) := by decide +kernel
theorem dX9_cycle_52 : decode cX9_cycle 52 = .ok (.aload 4, 2) := by decide +kernel
theorem dX9_cycle_54 : decode cX9_cycle 54 = .ok (.iload_n 2, 1) := by decide +kernel
theorem dX9_cycle_55 : decode cX9_cycle 55 = .ok (.invokevirtual 233, 3) := by decide +kernel
theorem dX9_cycle_58 : decode cX9_cycle 58 = .ok (.ifCond .ne 11, 3) := by decide +kernel
theorem dX9_cycle_61 : decode cX9_cycle 61 = .ok (.aload_n 0, 1) := by decide +kernel
theorem dX9_cycle_62 : decode cX9_cycle 62 = .ok (.iconst 5, 1) := by decide +kernel
theorem dX9_cycle_63 : decode cX9_cycle 63 = .ok (.ldc 120, 2) := by decide +kernel
theorem dX9_cycle_65 : decode cX9_cycle 65 = .ok (.invokevirtual 75, 3) := by decide +kernel
theorem dX9_cycle_68 : decode cX9_cycle 68 = .ok (.ireturn, 1) := by decide +kernel
theorem dX9_cycle_69 : decode cX9_cycle 69 = .ok (.aload_n 0, 1) := by decide +kernel
theorem dX9_cycle_70 : decode cX9_cycle 70 = .ok (.iload_n 3, 1) := by decide +kernel
theorem dX9_cycle_71 : decode cX9_cycle 71 = .ok (.ifCond .ne 20, 3) := by decide +kernel
theorem dX9_cycle_74 : decode cX9_cycle 74 = .ok (.aload_n 0, 1) := by decide +kernel
theorem dX9_cycle_75 : decode cX9_cycle 75 = .ok (.aload 4, 2) := by decide +kernel
theorem dX9_cycle_77 : decode cX9_cycle 77 = .ok (.iload_n 2, 1) := by decide +kernel
theorem dX9_cycle_78 : decode cX9_cycle 78 = .ok (.aload_n 0, 1) := by decide +kernel
theorem dX9_cycle_79 : decode cX9_cycle 79 = .ok (.getfield 33, 3) := by decide +kernel
theorem dX9_cycle_82 : decode cX9_cycle 82 = .ok (.getfield 237, 3) := by decide +kernel
theorem dX9_cycle_85 : decode cX9_cycle 85 = .ok (.invokevirtual 240, 3) := by decide +kernel
theorem dX9_cycle_88 : decode cX9_cycle 88 = .ok (.goto 11, 3) := by decide +kernel
theorem dX9_cycle_91 : decode cX9_cycle 91 = .ok (.aload_n 0, 1) := by decide +kernel
theorem dX9_cycle_92 : decode cX9_cycle 92 = .ok (.getfield 33, 3) := by decide +kernel
theorem dX9_cycle_95 : decode cX9_cycle 95 = .ok (.iload_n 3, 1) := by decide +kernel
theorem dX9_cycle_96 : decode cX9_cycle 96 = .ok (.invokevirtual 244, 3) := by decide +kernel
theorem dX9_cycle_99 : decode cX9_cycle 99 = .ok (.invokevirtual 96, 3) := by decide +kernel
theorem dX9_cycle_102 : decode cX9_cycle 102 = .ok (.ireturn, 1) := by decide +kernel
theorem dX9_fed_0 : decode cX9_fed 0 = .ok (.aload_n 0, 1) := by decide +kernel
theorem dX9_fed_1 : decode cX9_fed 1 = .ok (.getfield 57, 3) := by decide +kernel
theorem dX9_fed_4 : decode cX9_fed 4 = .ok (.iload_n 1, 1) := by decide +kernel
theorem dX9_fed_5 : decode cX9_fed 5 = .ok (.invokevirtual 107, 3) := by decide +kernel
theorem dX9_fed_8 : decode cX9_fed 8 = .ok (.astore 5, 2) := by decide +kernel
theorem dX9_fed_10 : decode cX9_fed 10 = .ok (.aload 5, 2) := by decide +kernel
theorem dX9_fed_12 : decode cX9_fed 12 = .ok (.ifnull 16, 3) := by decide +kernel
theorem dX9_fed_15 : decode cX9_fed 15 = .ok (.iload_n 2, 1) := by decide +kernel
theorem dX9_fed_16 : decode cX9_fed 16 = .ok (.ifCond .lt 12, 3) := by decide +kernel
theorem dX9_fed_19 : decode cX9_fed 19 = .ok (.iload_n 2, 1) := by decide +kernel
theorem dX9_fed_20 : decode cX9_fed 20 = .ok (.aload 5, 2) := by decide +kernel
theorem dX9_fed_22 : decode cX9_fed 22 = .ok (.getfield 245, 3) := by decide +kernel
theorem dX9_fed_25 : decode cX9_fed 25 = .ok (.if_icmp .lt 11, 3) := by decide +kernel
theorem dX9_fed_28 : decode cX9_fed 28 = .ok (.aload_n 0, 1) := by decide +kernel
theorem dX9_fed_29 : decode cX9_fed 29 = .ok (.iconst 1, 1) := by decide +kernel
theorem dX9_fed_30 : decode cX9_fed 30 = .ok (.ldc 120, 2) := by decide +kernel
theorem dX9_fed_32 : decode cX9_fed 32 = .ok (.invokevirtual 75, 3) := by decide +kernel
theorem dX9_fed_35 : decode cX9_fed 35 = .ok (.ireturn, 1) := by decide +kernel
theorem dX9_fed_36 : decode cX9_fed 36 = .ok (.iload_n 3, 1) := by decide +kernel
theorem dX9_fed_37 : decode cX9_fed 37 = .ok (.i2l, 1) := by decide +kernel
theorem dX9_fed_38 : decode cX9_fed 38 = .ok (.invokestatic 229, 3) := by decide +kernel
theorem dX9_fed_41 : decode cX9_fed 41 = .ok (.ifCond .eq 16, 3) := by decide +kernel
theorem dX9_fed_44 : decode cX9_fed 44 = .ok (.iload 4, 2) := by decide +kernel
theorem dX9_fed_46 : decode cX9_fed 46 = .ok (.ifCond .lt 11, 3) := by decide +kernel
theorem dX9_fed_49 : decode cX9_fed 49 = .ok (.iload 4, 2) := by decide +kernel
theorem dX9_fed_51 : decode cX9_fed 51 = .ok (.sipush 3000, 3) := by decide +kernel
theorem dX9_fed_54 : decode cX9_fed 54 = .ok (.if_icmp .le 11, 3) := by decide +kernel
theorem dX9_fed_57 : decode cX9_fed 57 = .ok (.aload_n 0, 1) := by decide +kernel
theorem dX9_fed_58 : decode cX9_fed 58 = .ok (.iconst 2, 1) := by decide +kernel
theorem dX9_fed_59 : decode cX9_fed 59 = .ok (.ldc 120, 2) := by decide +kernel
theorem dX9_fed_61 : decode cX9_fed 61 = .ok (.invokevirtual 75, 3) := by decide +kernel
theorem dX9_fed_64 : decode cX9_fed 64 = .ok (.ireturn, 1) := by decide +kernel
theorem dX9_fed_65 : decode cX9_fed 65 = .ok (.aload_n 0, 1) := by decide +kernel
theorem dX9_fed_66 : decode cX9_fed 66 = .ok (.getfield 40, 3) := by decide +kernel
theorem dX9_fed_69 : decode cX9_fed 69 = .ok (.aload 5, 2) := by decide +kernel
theorem dX9_fed_71 : decode cX9_fed 71 = .ok (.invokevirtual 248, 3) := by decide +kernel
theorem dX9_fed_74 : decode cX9_fed 74 = .ok (.aload_n 0, 1) := by decide +kernel
theorem dX9_fed_75 : decode cX9_fed 75 = .ok (.getfield 40, 3) := by decide +kernel
theorem dX9_fed_78 : decode cX9_fed 78 = .ok (.iload_n 3, 1) := by decide +kernel
theorem dX9_fed_79 : decode cX9_fed 79 = .ok (.iload 4, 2) := by decide +kernel
theorem dX9_fed_81 : decode cX9_fed 81 = .ok (.invokevirtual 252, 3) := by decide +kernel
theorem dX9_fed_84 : decode cX9_fed 84 = .ok (.aload_n 0, 1) := by decide +kernel
theorem dX9_fed_85 : decode cX9_fed 85 = .ok (.aload_n 0, 1) := by decide +kernel
theorem dX9_fed_86 : decode cX9_fed 86 = .ok (.getfield 40, 3) := by decide +kernel
theorem dX9_fed_89 : decode cX9_fed 89 = .ok (.getfield 155, 3) := by decide +kernel
theorem dX9_fed_92 : decode cX9_fed 92 = .ok (.iload_n 2, 1) := by decide +kernel
theorem dX9_fed_93 : decode cX9_fed 93 = .ok (.iaload, 1) := by decide +kernel
theorem dX9_fed_94 : decode cX9_fed 94 = .ok (.invokevirtual 96, 3) := by decide +kernel
theorem dX9_fed_97 : decode cX9_fed 97 = .ok (.ireturn, 1) := by decide +kernel
theorem dX9_sweep_0 : decode cX9_sweep 0 = .ok (.aload_n 0, 1) := by decide +kernel
theorem dX9_sweep_1 : decode cX9_sweep 1 = .ok (.getfield 57, 3) := by decide +kernel
theorem dX9_sweep_4 : decode cX9_sweep 4 = .ok (.iload_n 1, 1) := by decide +kernel
theorem dX9_sweep_5 : decode cX9_sweep 5 = .ok (.invokevirtual 107, 3) := by decide +kernel
theorem dX9_sweep_8 : decode cX9_sweep 8 = .ok (.astore 6, 2) := by decide +kernel
theorem dX9_sweep_10 : decode cX9_sweep 10 = .ok (.aload 6, 2) := by decide +kernel
theorem dX9_sweep_12 : decode cX9_sweep 12 = .ok (.ifnull 14, 3) := by decide +kernel
theorem dX9_sweep_15 : decode cX9_sweep 15 = .ok (.iload 5, 2) := by decide +kernel
theorem dX9_sweep_17 : decode cX9_sweep 17 = .ok (.ifCond .lt 9, 3) := by decide +kernel
theorem dX9_sweep_20 : decode cX9_sweep 20 = .ok (.iload 5, 2) := by decide +kernel
theorem dX9_sweep_22 : decode cX9_sweep 22 = .ok (.iconst 2, 1) := by decide +kernel
theorem dX9_sweep_23 : decode cX9_sweep 23 = .ok (.if_icmp .le 11, 3) := by decide +kernel
theorem dX9_sweep_26 : decode cX9_sweep 26 = .ok (.aload_n 0, 1) := by decide +kernel
theorem dX9_sweep_27 : decode cX9_sweep 27 = .ok (.iconst 1, 1) := by decide +kernel
theorem dX9_sweep_28 : decode cX9_sweep 28 = .ok (.ldc 120, 2) := by decide +kernel
theorem dX9_sweep_30 : decode cX9_sweep 30 = .ok (.invokevirtual 75, 3) := by decide +kernel
theorem dX9_sweep_33 : decode cX9_sweep 33 = .ok (.ireturn, 1) := by decide +kernel
theorem dX9_sweep_34 : decode cX9_sweep 34 = .ok (.iload_n 2, 1) := by decide +kernel
theorem dX9_sweep_35 : decode cX9_sweep 35 = .ok (.iload_n 3, 1) := by decide +kernel
theorem dX9_sweep_36 : decode cX9_sweep 36 = .ok (.iload 4, 2) := by decide +kernel
theorem dX9_sweep_38 : decode cX9_sweep 38 = .ok (.invokestatic 255, 3) := by decide +kernel
theorem dX9_sweep_41 : decode cX9_sweep 41 = .ok (.ifCond .ne 11, 3) := by decide +kernel
theorem dX9_sweep_44 : decode cX9_sweep 44 = .ok (.aload_n 0, 1) := by decide +kernel
theorem dX9_sweep_45 : decode cX9_sweep 45 = .ok (.iconst 2, 1) := by decide +kernel
theorem dX9_sweep_46 : decode cX9_sweep 46 = .ok (.ldc 120, 2) := by decide +kernel
theorem dX9_sweep_48 : decode cX9_sweep 48 = .ok (.invokevirtual 75, 3) := by decide +kernel
theorem dX9_sweep_51 : decode cX9_sweep 51 = .ok (.ireturn, 1) := by decide +kernel
theorem dX9_sweep_52 : decode cX9_sweep 52 = .ok (.aload_n 0, 1) := by decide +kernel
theorem dX9_sweep_53 : decode cX9_sweep 53 = .ok (.iload 5, 2) := by decide +kernel
theorem dX9_sweep_55 : decode cX9_sweep 55 = .ok (.iconst 2, 1) := by decide +kernel
theorem dX9_sweep_56 : decode cX9_sweep 56 = .ok (.if_icmp .ne 16, 3) := by decide +kernel
theorem dX9_sweep_59 : decode cX9_sweep 59 = .ok (.aload_n 0, 1) := by decide +kernel
theorem dX9_sweep_60 : decode cX9_sweep 60 = .ok (.aload 6, 2) := by decide +kernel
theorem dX9_sweep_62 : decode cX9_sweep 62 = .ok (.iload_n 2, 1) := by decide +kernel
theorem dX9_sweep_63 : decode cX9_sweep 63 = .ok (.iload_n 3, 1) := by decide +kernel
theorem dX9_sweep_64 : decode cX9_sweep 64 = .ok (.iload 4, 2) := by decide +kernel
theorem dX9_sweep_66 : decode cX9_sweep 66 = .ok (.invokevirtual 259, 3) := by decide +kernel
theorem dX9_sweep_69 : decode cX9_sweep 69 = .ok (.goto 24, 3) := by decide +kernel
theorem dX9_sweep_72 : decode cX9_sweep 72 = .ok (.aload_n 0, 1) := by decide +kernel
theorem dX9_sweep_73 : decode cX9_sweep 73 = .ok (.aload 6, 2) := by decide +kernel
theorem dX9_sweep_75 : decode cX9_sweep 75 = .ok (.iload_n 2, 1) := by decide +kernel
theorem dX9_sweep_76 : decode cX9_sweep 76 = .ok (.iload_n 3, 1) := by decide +kernel
theorem dX9_sweep_77 : decode cX9_sweep 77 = .ok (.iload 4, 2) := by decide +kernel
theorem dX9_sweep_79 : decode cX9_sweep 79 = .ok (.iload 5, 2) := by decide +kernel
theorem dX9_sweep_81 : decode cX9_sweep 81 = .ok (.iconst 1, 1) := by decide +kernel
theorem dX9_sweep_82 : decode cX9_sweep 82 = .ok (.if_icmp .ne 7, 3) := by decide +kernel
theorem dX9_sweep_85 : decode cX9_sweep 85 = .ok (.iconst 1, 1) := by decide +kernel
theorem dX9_sweep_86 : decode cX9_sweep 86 = .ok (.goto 4, 3) := by decide +kernel
theorem dX9_sweep_89 : decode cX9_sweep 89 = .ok (.iconst 0, 1) := by decide +kernel
theorem dX9_sweep_90 : decode cX9_sweep 90 = .ok (.invokevirtual 263, 3) := by decide +kernel
theorem dX9_sweep_93 : decode cX9_sweep 93 = .ok (.invokevirtual 96, 3) := by decide +kernel
theorem dX9_sweep_96 : decode cX9_sweep 96 = .ok (.ireturn, 1) := by decide +kernel
theorem dX9_steady_0 : decode cX9_steady 0 = .ok (.aload_n 0, 1) := by decide +kernel
theorem dX9_steady_1 : decode cX9_steady 1 = .ok (.getfield 57, 3) := by decide +kernel
theorem dX9_steady_4 : decode cX9_steady 4 = .ok (.iload_n 1, 1) := by decide +kernel
theorem dX9_steady_5 : decode cX9_steady 5 = .ok (.invokevirtual 107, 3) := by decide +kernel
theorem dX9_steady_8 : decode cX9_steady 8 = .ok (.astore_n 2, 1) := by decide +kernel
theorem dX9_steady_9 : decode cX9_steady 9 = .ok (.aload_n 2, 1) := by decide +kernel
theorem dX9_steady_10 : decode cX9_steady 10 = .ok (.ifnonnull 10, 3) := by decide +kernel
theorem dX9_steady_13 : decode cX9_steady 13 = .ok (.aload_n 0, 1) := by decide +kernel
theorem dX9_steady_14 : decode cX9_steady 14 = .ok (.iconst 1, 1) := by decide +kernel
theorem dX9_steady_15 : decode cX9_steady 15 = .ok (.iconst (-1), 1) := by decide +kernel
theorem dX9_steady_16 : decode cX9_steady 16 = .ok (.invokevirtual 75, 3) := by decide +kernel
theorem dX9_steady_19 : decode cX9_steady 19 = .ok (.ireturn, 1) := by decide +kernel
theorem dX9_steady_20 : decode cX9_steady 20 = .ok (.bipush (-2), 2) := by decide +kernel
theorem dX9_steady_22 : decode cX9_steady 22 = .ok (.istore_n 3, 1) := by decide +kernel
theorem dX9_steady_23 : decode cX9_steady 23 = .ok (.iconst 0, 1) := by decide +kernel
theorem dX9_steady_24 : decode cX9_steady 24 = .ok (.istore 4, 2) := by decide +kernel
theorem dX9_steady_26 : decode cX9_steady 26 = .ok (.iload 4, 2) := by decide +kernel
theorem dX9_steady_28 : decode cX9_steady 28 = .ok (.sipush 1000, 3) := by decide +kernel
theorem dX9_steady_31 : decode cX9_steady 31 = .ok (.if_icmp .gt 22, 3) := by decide +kernel
theorem dX9_steady_34 : decode cX9_steady 34 = .ok (.aload_n 0, 1) := by decide +kernel
theorem dX9_steady_35 : decode cX9_steady 35 = .ok (.aload_n 2, 1) := by decide +kernel
theorem dX9_steady_36 : decode cX9_steady 36 = .ok (.iload 4, 2) := by decide +kernel
theorem dX9_steady_38 : decode cX9_steady 38 = .ok (.invokevirtual 267, 3) := by decide +kernel
theorem dX9_steady_41 : decode cX9_steady 41 = .ok (.ifCond .eq 12, 3) := by decide +kernel
theorem dX9_steady_44 : decode cX9_steady 44 = .ok (.iload 4, 2) := by decide +kernel
theorem dX9_steady_46 : decode cX9_steady 46 = .ok (.istore_n 3, 1) := by decide +kernel
theorem dX9_steady_47 : decode cX9_steady 47 = .ok (.iinc 4 50, 3) := by decide +kernel
theorem dX9_steady_50 : decode cX9_steady 50 = .ok (.goto (-24), 3) := by decide +kernel
theorem dX9_steady_53 : decode cX9_steady 53 = .ok (.aload_n 0, 1) := by decide +kernel
theorem dX9_steady_54 : decode cX9_steady 54 = .ok (.iload_n 3, 1) := by decide +kernel
theorem dX9_steady_55 : decode cX9_steady 55 = .ok (.invokevirtual 96, 3) := by decide +kernel
theorem dX9_steady_58 : decode cX9_steady 58 = .ok (.ireturn, 1) := by decide +kernel
theorem dX9_apart_0 : decode cX9_apart 0 = .ok (.aload_n 0, 1) := by decide +kernel
theorem dX9_apart_1 : decode cX9_apart 1 = .ok (.getfield 57, 3) := by decide +kernel
theorem dX9_apart_4 : decode cX9_apart 4 = .ok (.iload_n 1, 1) := by decide +kernel
theorem dX9_apart_5 : decode cX9_apart 5 = .ok (.invokevirtual 107, 3) := by decide +kernel
theorem dX9_apart_8 : decode cX9_apart 8 = .ok (.astore 5, 2) := by decide +kernel
theorem dX9_apart_10 : decode cX9_apart 10 = .ok (.aload_n 0, 1) := by decide +kernel
theorem dX9_apart_11 : decode cX9_apart 11 = .ok (.getfield 57, 3) := by decide +kernel
theorem dX9_apart_14 : decode cX9_apart 14 = .ok (.iload_n 2, 1) := by decide +kernel
theorem dX9_apart_15 : decode cX9_apart 15 = .ok (.invokevirtual 107, 3) := by decide +kernel
theorem dX9_apart_18 : decode cX9_apart 18 = .ok (.astore 6, 2) := by decide +kernel
theorem dX9_apart_20 : decode cX9_apart 20 = .ok (.aload_n 0, 1) := by decide +kernel
theorem dX9_apart_21 : decode cX9_apart 21 = .ok (.getfield 57, 3) := by decide +kernel
theorem dX9_apart_24 : decode cX9_apart 24 = .ok (.iload_n 3, 1) := by decide +kernel
theorem dX9_apart_25 : decode cX9_apart 25 = .ok (.invokevirtual 116, 3) := by decide +kernel
theorem dX9_apart_28 : decode cX9_apart 28 = .ok (.astore 7, 2) := by decide +kernel
theorem dX9_apart_30 : decode cX9_apart 30 = .ok (.aload 5, 2) := by decide +kernel
theorem dX9_apart_32 : decode cX9_apart 32 = .ok (.ifnull 13, 3) := by decide +kernel
theorem dX9_apart_35 : decode cX9_apart 35 = .ok (.aload 6, 2) := by decide +kernel
theorem dX9_apart_37 : decode cX9_apart 37 = .ok (.ifnull 8, 3) := by decide +kernel
theorem dX9_apart_40 : decode cX9_apart 40 = .ok (.aload 7, 2) := by decide +kernel
theorem dX9_apart_42 : decode cX9_apart 42 = .ok (.ifnonnull 10, 3) := by decide +kernel
theorem dX9_apart_45 : decode cX9_apart 45 = .ok (.aload_n 0, 1) := by decide +kernel
theorem dX9_apart_46 : decode cX9_apart 46 = .ok (.iconst 1, 1) := by decide +kernel
theorem dX9_apart_47 : decode cX9_apart 47 = .ok (.iconst (-1), 1) := by decide +kernel
theorem dX9_apart_48 : decode cX9_apart 48 = .ok (.invokevirtual 75, 3) := by decide +kernel
theorem dX9_apart_51 : decode cX9_apart 51 = .ok (.ireturn, 1) := by decide +kernel
theorem dX9_apart_52 : decode cX9_apart 52 = .ok (.iload 4, 2) := by decide +kernel
theorem dX9_apart_54 : decode cX9_apart 54 = .ok (.iconst 1, 1) := by decide +kernel
theorem dX9_apart_55 : decode cX9_apart 55 = .ok (.if_icmp .lt 11, 3) := by decide +kernel
theorem dX9_apart_58 : decode cX9_apart 58 = .ok (.iload 4, 2) := by decide +kernel
theorem dX9_apart_60 : decode cX9_apart 60 = .ok (.sipush 500, 3) := by decide +kernel
theorem dX9_apart_63 : decode cX9_apart 63 = .ok (.if_icmp .le 10, 3) := by decide +kernel
theorem dX9_apart_66 : decode cX9_apart 66 = .ok (.aload_n 0, 1) := by decide +kernel
theorem dX9_apart_67 : decode cX9_apart 67 = .ok (.iconst 2, 1) := by decide +kernel
theorem dX9_apart_68 : decode cX9_apart 68 = .ok (.iconst (-1), 1) := by decide +kernel
theorem dX9_apart_69 : decode cX9_apart 69 = .ok (.invokevirtual 75, 3) := by decide +kernel
theorem dX9_apart_72 : decode cX9_apart 72 = .ok (.ireturn, 1) := by decide +kernel
theorem dX9_apart_73 : decode cX9_apart 73 = .ok (.aload_n 0, 1) := by decide +kernel
theorem dX9_apart_74 : decode cX9_apart 74 = .ok (.getfield 40, 3) := by decide +kernel
theorem dX9_apart_77 : decode cX9_apart 77 = .ok (.aload 5, 2) := by decide +kernel
theorem dX9_apart_79 : decode cX9_apart 79 = .ok (.aload_n 0, 1) := by decide +kernel
theorem dX9_apart_80 : decode cX9_apart 80 = .ok (.getfield 61, 3) := by decide +kernel
theorem dX9_apart_83 : decode cX9_apart 83 = .ok (.invokevirtual 270, 3) := by decide +kernel
theorem dX9_apart_86 : decode cX9_apart 86 = .ok (.aload_n 0, 1) := by decide +kernel
theorem dX9_apart_87 : decode cX9_apart 87 = .ok (.getfield 44, 3) := by decide +kernel
theorem dX9_apart_90 : decode cX9_apart 90 = .ok (.aload 6, 2) := by decide +kernel
theorem dX9_apart_92 : decode cX9_apart 92 = .ok (.aload_n 0, 1) := by decide +kernel
theorem dX9_apart_93 : decode cX9_apart 93 = .ok (.getfield 61, 3) := by decide +kernel
theorem dX9_apart_96 : decode cX9_apart 96 = .ok (.invokevirtual 270, 3) := by decide +kernel
theorem dX9_apart_99 : decode cX9_apart 99 = .ok (.iconst 0, 1) := by decide +kernel
theorem dX9_apart_100 : decode cX9_apart 100 = .ok (.istore 8, 2) := by decide +kernel
theorem dX9_apart_102 : decode cX9_apart 102 = .ok (.iconst 0, 1) := by decide +kernel
theorem dX9_apart_103 : decode cX9_apart 103 = .ok (.istore 9, 2) := by decide +kernel
theorem dX9_apart_105 : decode cX9_apart 105 = .ok (.iload 9, 2) := by decide +kernel
theorem dX9_apart_107 : decode cX9_apart 107 = .ok (.iload 4, 2) := by decide +kernel
theorem dX9_apart_109 : decode cX9_apart 109 = .ok (.if_icmp .ge 49, 3) := by decide +kernel
theorem dX9_apart_112 : decode cX9_apart 112 = .ok (.aload 7, 2) := by decide +kernel
theorem dX9_apart_114 : decode cX9_apart 114 = .ok (.iload 9, 2) := by decide +kernel
theorem dX9_apart_116 : decode cX9_apart 116 = .ok (.invokevirtual 124, 3) := by decide +kernel
theorem dX9_apart_119 : decode cX9_apart 119 = .ok (.istore 10, 2) := by decide +kernel
theorem dX9_apart_121 : decode cX9_apart 121 = .ok (.iload 8, 2) := by decide +kernel
theorem dX9_apart_123 : decode cX9_apart 123 = .ok (.aload_n 0, 1) := by decide +kernel
theorem dX9_apart_124 : decode cX9_apart 124 = .ok (.getfield 40, 3) := by decide +kernel
theorem dX9_apart_127 : decode cX9_apart 127 = .ok (.iload 10, 2) := by decide +kernel
theorem dX9_apart_129 : decode cX9_apart 129 = .ok (.invokevirtual 273, 3) := by decide +kernel
theorem dX9_apart_132 : decode cX9_apart 132 = .ok (.aload_n 0, 1) := by decide +kernel
theorem dX9_apart_133 : decode cX9_apart 133 = .ok (.getfield 44, 3) := by decide +kernel
theorem dX9_apart_136 : decode cX9_apart 136 = .ok (.iload 10, 2) := by decide +kernel
theorem dX9_apart_138 : decode cX9_apart 138 = .ok (.invokevirtual 273, 3) := by decide +kernel
theorem dX9_apart_141 : decode cX9_apart 141 = .ok (.if_icmp .eq 7, 3) := by decide +kernel
theorem dX9_apart_144 : decode cX9_apart 144 = .ok (.iconst 1, 1) := by decide +kernel
theorem dX9_apart_145 : decode cX9_apart 145 = .ok (.goto 4, 3) := by decide +kernel
theorem dX9_apart_148 : decode cX9_apart 148 = .ok (.iconst 0, 1) := by decide +kernel
theorem dX9_apart_149 : decode cX9_apart 149 = .ok (.iadd, 1) := by decide +kernel
theorem dX9_apart_150 : decode cX9_apart 150 = .ok (.istore 8, 2) := by decide +kernel
theorem dX9_apart_152 : decode cX9_apart 152 = .ok (.iinc 9 1, 3) := by decide +kernel
theorem dX9_apart_155 : decode cX9_apart 155 = .ok (.goto (-50), 3) := by decide +kernel
theorem dX9_apart_158 : decode cX9_apart 158 = .ok (.aload_n 0, 1) := by decide +kernel
theorem dX9_apart_159 : decode cX9_apart 159 = .ok (.iload 8, 2) := by decide +kernel
theorem dX9_apart_161 : decode cX9_apart 161 = .ok (.invokevirtual 96, 3) := by decide +kernel
theorem dX9_apart_164 : decode cX9_apart 164 = .ok (.ireturn, 1) := by decide +kernel
theorem dX9_keep_0 : decode cX9_keep 0 = .ok (.aload_n 0, 1) := by decide +kernel
theorem dX9_keep_1 : decode cX9_keep 1 = .ok (.getfield 100, 3) := by decide +kernel
theorem dX9_keep_4 : decode cX9_keep 4 = .ok (.ifCond .eq 16, 3) := by decide +kernel
theorem dX9_keep_7 : decode cX9_keep 7 = .ok (.iload_n 1, 1) := by decide +kernel
theorem dX9_keep_8 : decode cX9_keep 8 = .ok (.ifCond .lt 12, 3) := by decide +kernel
theorem dX9_keep_11 : decode cX9_keep 11 = .ok (.iload_n 1, 1) := by decide +kernel
theorem dX9_keep_12 : decode cX9_keep 12 = .ok (.aload_n 0, 1) := by decide +kernel
theorem dX9_keep_13 : decode cX9_keep 13 = .ok (.getfield 19, 3) := by decide +kernel
theorem dX9_keep_16 : decode cX9_keep 16 = .ok (.arraylength, 1) := by decide +kernel
theorem dX9_keep_17 : decode cX9_keep 17 = .ok (.if_icmp .lt 9, 3) := by decide +kernel
theorem dX9_keep_20 : decode cX9_keep 20 = .ok (.aload_n 0, 1) := by decide +kernel
theorem dX9_keep_21 : decode cX9_keep 21 = .ok (.iconst 1, 1) := by decide +kernel
theorem dX9_keep_22 : decode cX9_keep 22 = .ok (.invokevirtual 128, 3) := by decide +kernel
theorem dX9_keep_25 : decode cX9_keep 25 = .ok (.ireturn, 1) := by decide +kernel
theorem dX9_keep_26 : decode cX9_keep 26 = .ok (.aload_n 0, 1) := by decide +kernel
theorem dX9_keep_27 : decode cX9_keep 27 = .ok (.getfield 19, 3) := by decide +kernel
theorem dX9_keep_30 : decode cX9_keep 30 = .ok (.iload_n 1, 1) := by decide +kernel
theorem dX9_keep_31 : decode cX9_keep 31 = .ok (.aaload, 1) := by decide +kernel
theorem dX9_keep_32 : decode cX9_keep 32 = .ok (.aload_n 0, 1) := by decide +kernel
theorem dX9_keep_33 : decode cX9_keep 33 = .ok (.getfield 10, 3) := by decide +kernel
theorem dX9_keep_36 : decode cX9_keep 36 = .ok (.aload_n 0, 1) := by decide +kernel
theorem dX9_keep_37 : decode cX9_keep 37 = .ok (.getfield 61, 3) := by decide +kernel
theorem dX9_keep_40 : decode cX9_keep 40 = .ok (.invokevirtual 276, 3) := by decide +kernel
theorem dX9_keep_43 : decode cX9_keep 43 = .ok (.aload_n 0, 1) := by decide +kernel
theorem dX9_keep_44 : decode cX9_keep 44 = .ok (.invokevirtual 131, 3) := by decide +kernel
theorem dX9_keep_47 : decode cX9_keep 47 = .ok (.ireturn, 1) := by decide +kernel
theorem dX9_back_0 : decode cX9_back 0 = .ok (.iload_n 1, 1) := by decide +kernel
theorem dX9_back_1 : decode cX9_back 1 = .ok (.ifCond .lt 24, 3) := by decide +kernel
theorem dX9_back_4 : decode cX9_back 4 = .ok (.iload_n 1, 1) := by decide +kernel
theorem dX9_back_5 : decode cX9_back 5 = .ok (.aload_n 0, 1) := by decide +kernel
theorem dX9_back_6 : decode cX9_back 6 = .ok (.getfield 19, 3) := by decide +kernel
theorem dX9_back_9 : decode cX9_back 9 = .ok (.arraylength, 1) := by decide +kernel
theorem dX9_back_10 : decode cX9_back 10 = .ok (.if_icmp .ge 15, 3) := by decide +kernel
theorem dX9_back_13 : decode cX9_back 13 = .ok (.aload_n 0, 1) := by decide +kernel
theorem dX9_back_14 : decode cX9_back 14 = .ok (.getfield 19, 3) := by decide +kernel
theorem dX9_back_17 : decode cX9_back 17 = .ok (.iload_n 1, 1) := by decide +kernel
theorem dX9_back_18 : decode cX9_back 18 = .ok (.aaload, 1) := by decide +kernel
theorem dX9_back_19 : decode cX9_back 19 = .ok (.getfield 280, 3) := by decide +kernel
theorem dX9_back_22 : decode cX9_back 22 = .ok (.ifCond .ne 9, 3) := by decide +kernel
theorem dX9_back_25 : decode cX9_back 25 = .ok (.aload_n 0, 1) := by decide +kernel
theorem dX9_back_26 : decode cX9_back 26 = .ok (.iconst 1, 1) := by decide +kernel
theorem dX9_back_27 : decode cX9_back 27 = .ok (.invokevirtual 128, 3) := by decide +kernel
theorem dX9_back_30 : decode cX9_back 30 = .ok (.ireturn, 1) := by decide +kernel
theorem dX9_back_31 : decode cX9_back 31 = .ok (.aload_n 0, 1) := by decide +kernel
theorem dX9_back_32 : decode cX9_back 32 = .ok (.getfield 19, 3) := by decide +kernel
theorem dX9_back_35 : decode cX9_back 35 = .ok (.iload_n 1, 1) := by decide +kernel
theorem dX9_back_36 : decode cX9_back 36 = .ok (.aaload, 1) := by decide +kernel
theorem dX9_back_37 : decode cX9_back 37 = .ok (.aload_n 0, 1) := by decide +kernel
theorem dX9_back_38 : decode cX9_back 38 = .ok (.getfield 10, 3) := by decide +kernel
theorem dX9_back_41 : decode cX9_back 41 = .ok (.aload_n 0, 1) := by decide +kernel
theorem dX9_back_42 : decode cX9_back 42 = .ok (.getfield 57, 3) := by decide +kernel
theorem dX9_back_45 : decode cX9_back 45 = .ok (.invokevirtual 283, 3) := by decide +kernel
theorem dX9_back_48 : decode cX9_back 48 = .ok (.aload_n 0, 1) := by decide +kernel
theorem dX9_back_49 : decode cX9_back 49 = .ok (.aload_n 0, 1) := by decide +kernel
theorem dX9_back_50 : decode cX9_back 50 = .ok (.getfield 19, 3) := by decide +kernel
theorem dX9_back_53 : decode cX9_back 53 = .ok (.iload_n 1, 1) := by decide +kernel
theorem dX9_back_54 : decode cX9_back 54 = .ok (.aaload, 1) := by decide +kernel
theorem dX9_back_55 : decode cX9_back 55 = .ok (.getfield 287, 3) := by decide +kernel
theorem dX9_back_58 : decode cX9_back 58 = .ok (.putfield 61, 3) := by decide +kernel
theorem dX9_back_61 : decode cX9_back 61 = .ok (.aload_n 0, 1) := by decide +kernel
theorem dX9_back_62 : decode cX9_back 62 = .ok (.invokevirtual 131, 3) := by decide +kernel
theorem dX9_back_65 : decode cX9_back 65 = .ok (.ireturn, 1) := by decide +kernel
theorem dX9_letter_0 : decode cX9_letter 0 = .ok (.iload_n 1, 1) := by decide +kernel
theorem dX9_letter_1 : decode cX9_letter 1 = .ok (.ifCond .eq 8, 3) := by decide +kernel
theorem dX9_letter_4 : decode cX9_letter 4 = .ok (.iload_n 1, 1) := by decide +kernel
theorem dX9_letter_5 : decode cX9_letter 5 = .ok (.iconst 1, 1) := by decide +kernel
theorem dX9_letter_6 : decode cX9_letter 6 = .ok (.if_icmp .ne 15, 3) := by decide +kernel
theorem dX9_letter_9 : decode cX9_letter 9 = .ok (.aload_n 0, 1) := by decide +kernel
theorem dX9_letter_10 : decode cX9_letter 10 = .ok (.getfield 57, 3) := by decide +kernel
theorem dX9_letter_13 : decode cX9_letter 13 = .ok (.iload_n 1, 1) := by decide +kernel
theorem dX9_letter_14 : decode cX9_letter 14 = .ok (.iload_n 2, 1) := by decide +kernel
theorem dX9_letter_15 : decode cX9_letter 15 = .ok (.invokevirtual 288, 3) := by decide +kernel
theorem dX9_letter_18 : decode cX9_letter 18 = .ok (.goto 4, 3) := by decide +kernel
theorem dX9_letter_21 : decode cX9_letter 21 = .ok (.iconst 0, 1) := by decide +kernel
theorem dX9_letter_22 : decode cX9_letter 22 = .ok (.istore 4, 2) := by decide +kernel
theorem dX9_letter_24 : decode cX9_letter 24 = .ok (.iload 4, 2) := by decide +kernel
theorem dX9_letter_26 : decode cX9_letter 26 = .ok (.iload_n 3, 1) := by decide +kernel
theorem dX9_letter_27 : decode cX9_letter 27 = .ok (.invokestatic 291, 3) := by decide +kernel
theorem dX9_letter_30 : decode cX9_letter 30 = .ok (.istore 5, 2) := by decide +kernel
theorem dX9_letter_32 : decode cX9_letter 32 = .ok (.iload 5, 2) := by decide +kernel
theorem dX9_letter_34 : decode cX9_letter 34 = .ok (.ifCond .ge 11, 3) := by decide +kernel
theorem dX9_letter_37 : decode cX9_letter 37 = .ok (.new 294, 3) := by decide +kernel
theorem dX9_letter_40 : decode cX9_letter 40 = .ok (.dup, 1) := by decide +kernel
theorem dX9_letter_41 : decode cX9_letter 41 = .ok (.invokespecial 296, 3) := by decide +kernel
theorem dX9_letter_44 : decode cX9_letter 44 = .ok (.athrow, 1) := by decide +kernel
theorem dX9_letter_45 : decode cX9_letter 45 = .ok (.iload 5, 2) := by decide +kernel
theorem dX9_letter_47 : decode cX9_letter 47 = .ok (.ireturn, 1) := by decide +kernel
theorem dX9_bytes_0 : decode cX9_bytes 0 = .ok (.aload_n 0, 1) := by decide +kernel
theorem dX9_bytes_1 : decode cX9_bytes 1 = .ok (.getfield 68, 3) := by decide +kernel
theorem dX9_bytes_4 : decode cX9_bytes 4 = .ok (.ireturn, 1) := by decide +kernel
theorem dX9_trouble_0 : decode cX9_trouble 0 = .ok (.aload_n 0, 1) := by decide +kernel
theorem dX9_trouble_1 : decode cX9_trouble 1 = .ok (.getfield 297, 3) := by decide +kernel
theorem dX9_trouble_4 : decode cX9_trouble 4 = .ok (.ireturn, 1) := by decide +kernel
theorem dX9_refused_0 : decode cX9_refused 0 = .ok (.aload_n 0, 1) := by decide +kernel
theorem dX9_refused_1 : decode cX9_refused 1 = .ok (.iload_n 1, 1) := by decide +kernel
theorem dX9_refused_2 : decode cX9_refused 2 = .ok (.putfield 297, 3) := by decide +kernel
theorem dX9_refused_5 : decode cX9_refused 5 = .ok (.aload_n 0, 1) := by decide +kernel
theorem dX9_refused_6 : decode cX9_refused 6 = .ok (.iconst (-1), 1) := by decide +kernel
theorem dX9_refused_7 : decode cX9_refused 7 = .ok (.putfield 65, 3) := by decide +kernel
theorem dX9_refused_10 : decode cX9_refused 10 = .ok (.iload_n 2, 1) := by decide +kernel
theorem dX9_refused_11 : decode cX9_refused 11 = .ok (.ireturn, 1) := by decide +kernel
theorem dX9_granted_0 : decode cX9_granted 0 = .ok (.aload_n 0, 1) := by decide +kernel
theorem dX9_granted_1 : decode cX9_granted 1 = .ok (.iconst 0, 1) := by decide +kernel
theorem dX9_granted_2 : decode cX9_granted 2 = .ok (.putfield 297, 3) := by decide +kernel
theorem dX9_granted_5 : decode cX9_granted 5 = .ok (.aload_n 0, 1) := by decide +kernel
theorem dX9_granted_6 : decode cX9_granted 6 = .ok (.iconst (-1), 1) := by decide +kernel
theorem dX9_granted_7 : decode cX9_granted 7 = .ok (.putfield 65, 3) := by decide +kernel
theorem dX9_granted_10 : decode cX9_granted 10 = .ok (.iload_n 1, 1) := by decide +kernel
theorem dX9_granted_11 : decode cX9_granted 11 = .ok (.ireturn, 1) := by decide +kernel
theorem dX9_isRefused_0 : decode cX9_isRefused 0 = .ok (.aload_n 0, 1) := by decide +kernel
theorem dX9_isRefused_1 : decode cX9_isRefused 1 = .ok (.iload_n 1, 1) := by decide +kernel
theorem dX9_isRefused_2 : decode cX9_isRefused 2 = .ok (.iconst (-1), 1) := by decide +kernel
theorem dX9_isRefused_3 : decode cX9_isRefused 3 = .ok (.invokevirtual 75, 3) := by decide +kernel
theorem dX9_isRefused_6 : decode cX9_isRefused 6 = .ok (.pop, 1) := by decide +kernel
theorem dX9_isRefused_7 : decode cX9_isRefused 7 = .ok (.iconst 0, 1) := by decide +kernel
theorem dX9_isRefused_8 : decode cX9_isRefused 8 = .ok (.ireturn, 1) := by decide +kernel
theorem dX9_isGranted_0 : decode cX9_isGranted 0 = .ok (.aload_n 0, 1) := by decide +kernel
theorem dX9_isGranted_1 : decode cX9_isGranted 1 = .ok (.iconst (-1), 1) := by decide +kernel
theorem dX9_isGranted_2 : decode cX9_isGranted 2 = .ok (.invokevirtual 96, 3) := by decide +kernel
theorem dX9_isGranted_5 : decode cX9_isGranted 5 = .ok (.pop, 1) := by decide +kernel
theorem dX9_isGranted_6 : decode cX9_isGranted 6 = .ok (.iconst 1, 1) := by decide +kernel
theorem dX9_isGranted_7 : decode cX9_isGranted 7 = .ok (.ireturn, 1) := by decide +kernel
theorem dX9_tapeNumber_0 : decode cX9_tapeNumber 0 = .ok (.bipush 24, 2) := by decide +kernel
theorem dX9_tapeNumber_2 : decode cX9_tapeNumber 2 = .ok (.istore_n 2, 1) := by decide +kernel
theorem dX9_tapeNumber_3 : decode cX9_tapeNumber 3 = .ok (.iload_n 2, 1) := by decide +kernel
theorem dX9_tapeNumber_4 : decode cX9_tapeNumber 4 = .ok (.ifCond .lt 50, 3) := by decide +kernel
theorem dX9_tapeNumber_7 : decode cX9_tapeNumber 7 = .ok (.aload_n 0, 1) := by decide +kernel
theorem dX9_tapeNumber_8 : decode cX9_tapeNumber 8 = .ok (.getfield 68, 3) := by decide +kernel
theorem dX9_tapeNumber_11 : decode cX9_tapeNumber 11 = .ok (.aload_n 0, 1) := by decide +kernel
theorem dX9_tapeNumber_12 : decode cX9_tapeNumber 12 = .ok (.getfield 50, 3) := by decide +kernel
theorem dX9_tapeNumber_15 : decode cX9_tapeNumber 15 = .ok (.getfield 300, 3) := by decide +kernel
theorem dX9_tapeNumber_18 : decode cX9_tapeNumber 18 = .ok (.arraylength, 1) := by decide +kernel
theorem dX9_tapeNumber_19 : decode cX9_tapeNumber 19 = .ok (.if_icmp .ge 35, 3) := by decide +kernel
theorem dX9_tapeNumber_22 : decode cX9_tapeNumber 22 = .ok (.aload_n 0, 1) := by decide +kernel
theorem dX9_tapeNumber_23 : decode cX9_tapeNumber 23 = .ok (.getfield 50, 3) := by decide +kernel
theorem dX9_tapeNumber_26 : decode cX9_tapeNumber 26 = .ok (.getfield 300, 3) := by decide +kernel
theorem dX9_tapeNumber_29 : decode cX9_tapeNumber 29 = .ok (.aload_n 0, 1) := by decide +kernel
theorem dX9_tapeNumber_30 : decode cX9_tapeNumber 30 = .ok (.getfield 68, 3) := by decide +kernel
theorem dX9_tapeNumber_33 : decode cX9_tapeNumber 33 = .ok (.iload_n 1, 1) := by decide +kernel
theorem dX9_tapeNumber_34 : decode cX9_tapeNumber 34 = .ok (.iload_n 2, 1) := by decide +kernel
theorem dX9_tapeNumber_35 : decode cX9_tapeNumber 35 = .ok (.ishr, 1) := by decide +kernel
theorem dX9_tapeNumber_36 : decode cX9_tapeNumber 36 = .ok (.i2b, 1) := by decide +kernel
theorem dX9_tapeNumber_37 : decode cX9_tapeNumber 37 = .ok (.bastore, 1) := by decide +kernel
theorem dX9_tapeNumber_38 : decode cX9_tapeNumber 38 = .ok (.aload_n 0, 1) := by decide +kernel
theorem dX9_tapeNumber_39 : decode cX9_tapeNumber 39 = .ok (.dup, 1) := by decide +kernel
theorem dX9_tapeNumber_40 : decode cX9_tapeNumber 40 = .ok (.getfield 68, 3) := by decide +kernel
theorem dX9_tapeNumber_43 : decode cX9_tapeNumber 43 = .ok (.iconst 1, 1) := by decide +kernel
theorem dX9_tapeNumber_44 : decode cX9_tapeNumber 44 = .ok (.iadd, 1) := by decide +kernel
theorem dX9_tapeNumber_45 : decode cX9_tapeNumber 45 = .ok (.putfield 68, 3) := by decide +kernel
theorem dX9_tapeNumber_48 : decode cX9_tapeNumber 48 = .ok (.iinc 2 (-8), 3) := by decide +kernel
theorem dX9_tapeNumber_51 : decode cX9_tapeNumber 51 = .ok (.goto (-48), 3) := by decide +kernel
theorem dX9_tapeNumber_54 : decode cX9_tapeNumber 54 = .ok (.return_, 1) := by decide +kernel
theorem dX9_takePlan_0 : decode cX9_takePlan 0 = .ok (.aload_n 0, 1) := by decide +kernel
theorem dX9_takePlan_1 : decode cX9_takePlan 1 = .ok (.getfield 57, 3) := by decide +kernel
theorem dX9_takePlan_4 : decode cX9_takePlan 4 = .ok (.astore_n 1, 1) := by decide +kernel
theorem dX9_takePlan_5 : decode cX9_takePlan 5 = .ok (.aload_n 0, 1) := by decide +kernel
theorem dX9_takePlan_6 : decode cX9_takePlan 6 = .ok (.aload_n 0, 1) := by decide +kernel
theorem dX9_takePlan_7 : decode cX9_takePlan 7 = .ok (.getfield 50, 3) := by decide +kernel
theorem dX9_takePlan_10 : decode cX9_takePlan 10 = .ok (.getfield 303, 3) := by decide +kernel
theorem dX9_takePlan_13 : decode cX9_takePlan 13 = .ok (.putfield 57, 3) := by decide +kernel
theorem dX9_takePlan_16 : decode cX9_takePlan 16 = .ok (.aload_n 0, 1) := by decide +kernel
theorem dX9_takePlan_17 : decode cX9_takePlan 17 = .ok (.getfield 50, 3) := by decide +kernel
theorem dX9_takePlan_20 : decode cX9_takePlan 20 = .ok (.aload_n 1, 1) := by decide +kernel
theorem dX9_takePlan_21 : decode cX9_takePlan 21 = .ok (.putfield 303, 3) := by decide +kernel
theorem dX9_takePlan_24 : decode cX9_takePlan 24 = .ok (.aload_n 0, 1) := by decide +kernel
theorem dX9_takePlan_25 : decode cX9_takePlan 25 = .ok (.iconst 1, 1) := by decide +kernel
theorem dX9_takePlan_26 : decode cX9_takePlan 26 = .ok (.putfield 100, 3) := by decide +kernel
theorem dX9_takePlan_29 : decode cX9_takePlan 29 = .ok (.aload_n 0, 1) := by decide +kernel
theorem dX9_takePlan_30 : decode cX9_takePlan 30 = .ok (.getfield 10, 3) := by decide +kernel
theorem dX9_takePlan_33 : decode cX9_takePlan 33 = .ok (.iconst 0, 1) := by decide +kernel
theorem dX9_takePlan_34 : decode cX9_takePlan 34 = .ok (.putfield 139, 3) := by decide +kernel
theorem dX9_takePlan_37 : decode cX9_takePlan 37 = .ok (.iconst 0, 1) := by decide +kernel
theorem dX9_takePlan_38 : decode cX9_takePlan 38 = .ok (.istore_n 2, 1) := by decide +kernel
theorem dX9_takePlan_39 : decode cX9_takePlan 39 = .ok (.iload_n 2, 1) := by decide +kernel
theorem dX9_takePlan_40 : decode cX9_takePlan 40 = .ok (.aload_n 0, 1) := by decide +kernel
theorem dX9_takePlan_41 : decode cX9_takePlan 41 = .ok (.getfield 19, 3) := by decide +kernel
theorem dX9_takePlan_44 : decode cX9_takePlan 44 = .ok (.arraylength, 1) := by decide +kernel
theorem dX9_takePlan_45 : decode cX9_takePlan 45 = .ok (.if_icmp .ge 19, 3) := by decide +kernel
theorem dX9_takePlan_48 : decode cX9_takePlan 48 = .ok (.aload_n 0, 1) := by decide +kernel
theorem dX9_takePlan_49 : decode cX9_takePlan 49 = .ok (.getfield 19, 3) := by decide +kernel
theorem dX9_takePlan_52 : decode cX9_takePlan 52 = .ok (.iload_n 2, 1) := by decide +kernel
theorem dX9_takePlan_53 : decode cX9_takePlan 53 = .ok (.aaload, 1) := by decide +kernel
theorem dX9_takePlan_54 : decode cX9_takePlan 54 = .ok (.iconst 0, 1) := by decide +kernel
theorem dX9_takePlan_55 : decode cX9_takePlan 55 = .ok (.putfield 280, 3) := by decide +kernel
theorem dX9_takePlan_58 : decode cX9_takePlan 58 = .ok (.iinc 2 1, 3) := by decide +kernel
theorem dX9_takePlan_61 : decode cX9_takePlan 61 = .ok (.goto (-22), 3) := by decide +kernel
theorem dX9_takePlan_64 : decode cX9_takePlan 64 = .ok (.return_, 1) := by decide +kernel
theorem dX9_clocksAhead_0 : decode cX9_clocksAhead 0 = .ok (.aload_n 0, 1) := by decide +kernel
theorem dX9_clocksAhead_1 : decode cX9_clocksAhead 1 = .ok (.getfield 40, 3) := by decide +kernel
theorem dX9_clocksAhead_4 : decode cX9_clocksAhead 4 = .ok (.aload_n 1, 1) := by decide +kernel
theorem dX9_clocksAhead_5 : decode cX9_clocksAhead 5 = .ok (.invokevirtual 248, 3) := by decide +kernel
theorem dX9_clocksAhead_8 : decode cX9_clocksAhead 8 = .ok (.aload_n 0, 1) := by decide +kernel
theorem dX9_clocksAhead_9 : decode cX9_clocksAhead 9 = .ok (.getfield 44, 3) := by decide +kernel
theorem dX9_clocksAhead_12 : decode cX9_clocksAhead 12 = .ok (.aload_n 1, 1) := by decide +kernel
theorem dX9_clocksAhead_13 : decode cX9_clocksAhead 13 = .ok (.invokevirtual 248, 3) := by decide +kernel
theorem dX9_clocksAhead_16 : decode cX9_clocksAhead 16 = .ok (.aload_n 0, 1) := by decide +kernel
theorem dX9_clocksAhead_17 : decode cX9_clocksAhead 17 = .ok (.getfield 44, 3) := by decide +kernel
theorem dX9_clocksAhead_20 : decode cX9_clocksAhead 20 = .ok (.iload_n 2, 1) := by decide +kernel
theorem dX9_clocksAhead_21 : decode cX9_clocksAhead 21 = .ok (.iload_n 3, 1) := by decide +kernel
theorem dX9_clocksAhead_22 : decode cX9_clocksAhead 22 = .ok (.invokevirtual 252, 3) := by decide +kernel
theorem dX9_clocksAhead_25 : decode cX9_clocksAhead 25 = .ok (.iconst 0, 1) := by decide +kernel
theorem dX9_clocksAhead_26 : decode cX9_clocksAhead 26 = .ok (.istore 4, 2) := by decide +kernel
theorem dX9_clocksAhead_28 : decode cX9_clocksAhead 28 = .ok (.iload 4, 2) := by decide +kernel
theorem dX9_clocksAhead_30 : decode cX9_clocksAhead 30 = .ok (.sipush 3000, 3) := by decide +kernel
theorem dX9_clocksAhead_33 : decode cX9_clocksAhead 33 = .ok (.if_icmp .ge 44, 3) := by decide +kernel
theorem dX9_clocksAhead_36 : decode cX9_clocksAhead 36 = .ok (.aload_n 0, 1) := by decide +kernel
theorem dX9_clocksAhead_37 : decode cX9_clocksAhead 37 = .ok (.getfield 40, 3) := by decide +kernel
theorem dX9_clocksAhead_40 : decode cX9_clocksAhead 40 = .ok (.aload_n 0, 1) := by decide +kernel
theorem dX9_clocksAhead_41 : decode cX9_clocksAhead 41 = .ok (.getfield 44, 3) := by decide +kernel
theorem dX9_clocksAhead_44 : decode cX9_clocksAhead 44 = .ok (.getfield 155, 3) := by decide +kernel
theorem dX9_clocksAhead_47 : decode cX9_clocksAhead 47 = .ok (.invokevirtual 304, 3) := by decide +kernel
theorem dX9_clocksAhead_50 : decode cX9_clocksAhead 50 = .ok (.ifCond .ne 27, 3) := by decide +kernel
theorem dX9_clocksAhead_53 : decode cX9_clocksAhead 53 = .ok (.aload_n 0, 1) := by decide +kernel
theorem dX9_clocksAhead_54 : decode cX9_clocksAhead 54 = .ok (.getfield 40, 3) := by decide +kernel
theorem dX9_clocksAhead_57 : decode cX9_clocksAhead 57 = .ok (.iload_n 2, 1) := by decide +kernel
theorem dX9_clocksAhead_58 : decode cX9_clocksAhead 58 = .ok (.invokevirtual 273, 3) := by decide +kernel
theorem dX9_clocksAhead_61 : decode cX9_clocksAhead 61 = .ok (.pop, 1) := by decide +kernel
theorem dX9_clocksAhead_62 : decode cX9_clocksAhead 62 = .ok (.aload_n 0, 1) := by decide +kernel
theorem dX9_clocksAhead_63 : decode cX9_clocksAhead 63 = .ok (.getfield 44, 3) := by decide +kernel
theorem dX9_clocksAhead_66 : decode cX9_clocksAhead 66 = .ok (.iload_n 2, 1) := by decide +kernel
theorem dX9_clocksAhead_67 : decode cX9_clocksAhead 67 = .ok (.invokevirtual 273, 3) := by decide +kernel
theorem dX9_clocksAhead_70 : decode cX9_clocksAhead 70 = .ok (.pop, 1) := by decide +kernel
theorem dX9_clocksAhead_71 : decode cX9_clocksAhead 71 = .ok (.iinc 4 1, 3) := by decide +kernel
theorem dX9_clocksAhead_74 : decode cX9_clocksAhead 74 = .ok (.goto (-46), 3) := by decide +kernel
theorem dX9_clocksAhead_77 : decode cX9_clocksAhead 77 = .ok (.iload 4, 2) := by decide +kernel
theorem dX9_clocksAhead_79 : decode cX9_clocksAhead 79 = .ok (.ireturn, 1) := by decide +kernel
theorem dX9_cyclesOf_0 : decode cX9_cyclesOf 0 = .ok (.iconst 0, 1) := by decide +kernel
theorem dX9_cyclesOf_1 : decode cX9_cyclesOf 1 = .ok (.istore 6, 2) := by decide +kernel
theorem dX9_cyclesOf_3 : decode cX9_cyclesOf 3 = .ok (.iconst 0, 1) := by decide +kernel
theorem dX9_cyclesOf_4 : decode cX9_cyclesOf 4 = .ok (.istore 7, 2) := by decide +kernel
theorem dX9_cyclesOf_6 : decode cX9_cyclesOf 6 = .ok (.iload 7, 2) := by decide +kernel
theorem dX9_cyclesOf_8 : decode cX9_cyclesOf 8 = .ok (.iload 4, 2) := by decide +kernel
theorem dX9_cyclesOf_10 : decode cX9_cyclesOf 10 = .ok (.if_icmp .ge 44, 3) := by decide +kernel
theorem dX9_cyclesOf_13 : decode cX9_cyclesOf 13 = .ok (.aload_n 0, 1) := by decide +kernel
theorem dX9_cyclesOf_14 : decode cX9_cyclesOf 14 = .ok (.getfield 33, 3) := by decide +kernel
theorem dX9_cyclesOf_17 : decode cX9_cyclesOf 17 = .ok (.aload_n 1, 1) := by decide +kernel
theorem dX9_cyclesOf_18 : decode cX9_cyclesOf 18 = .ok (.iload_n 2, 1) := by decide +kernel
theorem dX9_cyclesOf_19 : decode cX9_cyclesOf 19 = .ok (.iload_n 3, 1) := by decide +kernel
theorem dX9_cyclesOf_20 : decode cX9_cyclesOf 20 = .ok (.iload 7, 2) := by decide +kernel
theorem dX9_cyclesOf_22 : decode cX9_cyclesOf 22 = .ok (.imul, 1) := by decide +kernel
theorem dX9_cyclesOf_23 : decode cX9_cyclesOf 23 = .ok (.iadd, 1) := by decide +kernel
theorem dX9_cyclesOf_24 : decode cX9_cyclesOf 24 = .ok (.invokevirtual 233, 3) := by decide +kernel
theorem dX9_cyclesOf_27 : decode cX9_cyclesOf 27 = .ok (.ifCond .eq 21, 3) := by decide +kernel
theorem dX9_cyclesOf_30 : decode cX9_cyclesOf 30 = .ok (.iload 5, 2) := by decide +kernel
theorem dX9_cyclesOf_32 : decode cX9_cyclesOf 32 = .ok (.ifCond .eq 13, 3) := by decide +kernel
theorem dX9_cyclesOf_35 : decode cX9_cyclesOf 35 = .ok (.aload_n 0, 1) := by decide +kernel
theorem dX9_cyclesOf_36 : decode cX9_cyclesOf 36 = .ok (.getfield 33, 3) := by decide +kernel
theorem dX9_cyclesOf_39 : decode cX9_cyclesOf 39 = .ok (.getfield 308, 3) := by decide +kernel
theorem dX9_cyclesOf_42 : decode cX9_cyclesOf 42 = .ok (.ifCond .gt 6, 3) := by decide +kernel
theorem dX9_cyclesOf_45 : decode cX9_cyclesOf 45 = .ok (.iinc 6 1, 3) := by decide +kernel
theorem dX9_cyclesOf_48 : decode cX9_cyclesOf 48 = .ok (.iinc 7 1, 3) := by decide +kernel
theorem dX9_cyclesOf_51 : decode cX9_cyclesOf 51 = .ok (.goto (-45), 3) := by decide +kernel
theorem dX9_cyclesOf_54 : decode cX9_cyclesOf 54 = .ok (.iload 6, 2) := by decide +kernel
theorem dX9_cyclesOf_56 : decode cX9_cyclesOf 56 = .ok (.ireturn, 1) := by decide +kernel
theorem dX9_longestOf_0 : decode cX9_longestOf 0 = .ok (.iconst 0, 1) := by decide +kernel
theorem dX9_longestOf_1 : decode cX9_longestOf 1 = .ok (.istore 5, 2) := by decide +kernel
theorem dX9_longestOf_3 : decode cX9_longestOf 3 = .ok (.ldc 120, 2) := by decide +kernel
theorem dX9_longestOf_5 : decode cX9_longestOf 5 = .ok (.istore 6, 2) := by decide +kernel
theorem dX9_longestOf_7 : decode cX9_longestOf 7 = .ok (.iconst 0, 1) := by decide +kernel
theorem dX9_longestOf_8 : decode cX9_longestOf 8 = .ok (.istore 7, 2) := by decide +kernel
theorem dX9_longestOf_10 : decode cX9_longestOf 10 = .ok (.iload 7, 2) := by decide +kernel
theorem dX9_longestOf_12 : decode cX9_longestOf 12 = .ok (.iload 4, 2) := by decide +kernel
theorem dX9_longestOf_14 : decode cX9_longestOf 14 = .ok (.if_icmp .ge 55, 3) := by decide +kernel
theorem dX9_longestOf_17 : decode cX9_longestOf 17 = .ok (.iload_n 2, 1) := by decide +kernel
theorem dX9_longestOf_18 : decode cX9_longestOf 18 = .ok (.iload_n 3, 1) := by decide +kernel
theorem dX9_longestOf_19 : decode cX9_longestOf 19 = .ok (.iload 7, 2) := by decide +kernel
theorem dX9_longestOf_21 : decode cX9_longestOf 21 = .ok (.imul, 1) := by decide +kernel
theorem dX9_longestOf_22 : decode cX9_longestOf 22 = .ok (.iadd, 1) := by decide +kernel
theorem dX9_longestOf_23 : decode cX9_longestOf 23 = .ok (.istore 8, 2) := by decide +kernel
theorem dX9_longestOf_25 : decode cX9_longestOf 25 = .ok (.aload_n 0, 1) := by decide +kernel
theorem dX9_longestOf_26 : decode cX9_longestOf 26 = .ok (.getfield 33, 3) := by decide +kernel
theorem dX9_longestOf_29 : decode cX9_longestOf 29 = .ok (.aload_n 1, 1) := by decide +kernel
theorem dX9_longestOf_30 : decode cX9_longestOf 30 = .ok (.iload 8, 2) := by decide +kernel
theorem dX9_longestOf_32 : decode cX9_longestOf 32 = .ok (.invokevirtual 233, 3) := by decide +kernel
theorem dX9_longestOf_35 : decode cX9_longestOf 35 = .ok (.ifCond .eq 28, 3) := by decide +kernel
theorem dX9_longestOf_38 : decode cX9_longestOf 38 = .ok (.aload_n 0, 1) := by decide +kernel
theorem dX9_longestOf_39 : decode cX9_longestOf 39 = .ok (.getfield 33, 3) := by decide +kernel
theorem dX9_longestOf_42 : decode cX9_longestOf 42 = .ok (.getfield 237, 3) := by decide +kernel
theorem dX9_longestOf_45 : decode cX9_longestOf 45 = .ok (.iload 5, 2) := by decide +kernel
theorem dX9_longestOf_47 : decode cX9_longestOf 47 = .ok (.if_icmp .le 16, 3) := by decide +kernel
theorem dX9_longestOf_50 : decode cX9_longestOf 50 = .ok (.aload_n 0, 1) := by decide +kernel
theorem dX9_longestOf_51 : decode cX9_longestOf 51 = .ok (.getfield 33, 3) := by decide +kernel
theorem dX9_longestOf_54 : decode cX9_longestOf 54 = .ok (.getfield 237, 3) := by decide +kernel
theorem dX9_longestOf_57 : decode cX9_longestOf 57 = .ok (.istore 5, 2) := by decide +kernel
theorem dX9_longestOf_59 : decode cX9_longestOf 59 = .ok (.iload 8, 2) := by decide +kernel
theorem dX9_longestOf_61 : decode cX9_longestOf 61 = .ok (.istore 6, 2) := by decide +kernel
theorem dX9_longestOf_63 : decode cX9_longestOf 63 = .ok (.iinc 7 1, 3) := by decide +kernel
theorem dX9_longestOf_66 : decode cX9_longestOf 66 = .ok (.goto (-56), 3) := by decide +kernel
theorem dX9_longestOf_69 : decode cX9_longestOf 69 = .ok (.iload 6, 2) := by decide +kernel
theorem dX9_longestOf_71 : decode cX9_longestOf 71 = .ok (.ireturn, 1) := by decide +kernel
theorem dX9_staysUnclipped_0 : decode cX9_staysUnclipped 0 = .ok (.aload_n 0, 1) := by decide +kernel
theorem dX9_staysUnclipped_1 : decode cX9_staysUnclipped 1 = .ok (.getfield 40, 3) := by decide +kernel
theorem dX9_staysUnclipped_4 : decode cX9_staysUnclipped 4 = .ok (.aload_n 1, 1) := by decide +kernel
theorem dX9_staysUnclipped_5 : decode cX9_staysUnclipped 5 = .ok (.invokevirtual 248, 3) := by decide +kernel
theorem dX9_staysUnclipped_8 : decode cX9_staysUnclipped 8 = .ok (.iconst 0, 1) := by decide +kernel
theorem dX9_staysUnclipped_9 : decode cX9_staysUnclipped 9 = .ok (.istore_n 3, 1) := by decide +kernel
theorem dX9_staysUnclipped_10 : decode cX9_staysUnclipped 10 = .ok (.iload_n 3, 1) := by decide +kernel
theorem dX9_staysUnclipped_11 : decode cX9_staysUnclipped 11 = .ok (.sipush 1000, 3) := by decide +kernel
theorem dX9_staysUnclipped_14 : decode cX9_staysUnclipped 14 = .ok (.if_icmp .ge 28, 3) := by decide +kernel
theorem dX9_staysUnclipped_17 : decode cX9_staysUnclipped 17 = .ok (.aload_n 0, 1) := by decide +kernel
theorem dX9_staysUnclipped_18 : decode cX9_staysUnclipped 18 = .ok (.getfield 40, 3) := by decide +kernel
theorem dX9_staysUnclipped_21 : decode cX9_staysUnclipped 21 = .ok (.getfield 311, 3) := by decide +kernel
theorem dX9_staysUnclipped_24 : decode cX9_staysUnclipped 24 = .ok (.ifCond .ne 18, 3) := by decide +kernel
theorem dX9_staysUnclipped_27 : decode cX9_staysUnclipped 27 = .ok (.aload_n 0, 1) := by decide +kernel
theorem dX9_staysUnclipped_28 : decode cX9_staysUnclipped 28 = .ok (.getfield 40, 3) := by decide +kernel
theorem dX9_staysUnclipped_31 : decode cX9_staysUnclipped 31 = .ok (.iload_n 2, 1) := by decide +kernel
theorem dX9_staysUnclipped_32 : decode cX9_staysUnclipped 32 = .ok (.invokevirtual 273, 3) := by decide +kernel
theorem dX9_staysUnclipped_35 : decode cX9_staysUnclipped 35 = .ok (.pop, 1) := by decide +kernel
theorem dX9_staysUnclipped_36 : decode cX9_staysUnclipped 36 = .ok (.iinc 3 1, 3) := by decide +kernel
theorem dX9_staysUnclipped_39 : decode cX9_staysUnclipped 39 = .ok (.goto (-29), 3) := by decide +kernel
theorem dX9_staysUnclipped_42 : decode cX9_staysUnclipped 42 = .ok (.aload_n 0, 1) := by decide +kernel
theorem dX9_staysUnclipped_43 : decode cX9_staysUnclipped 43 = .ok (.getfield 40, 3) := by decide +kernel
theorem dX9_staysUnclipped_46 : decode cX9_staysUnclipped 46 = .ok (.getfield 311, 3) := by decide +kernel
theorem dX9_staysUnclipped_49 : decode cX9_staysUnclipped 49 = .ok (.ifCond .ne 7, 3) := by decide +kernel
theorem dX9_staysUnclipped_52 : decode cX9_staysUnclipped 52 = .ok (.iconst 1, 1) := by decide +kernel
theorem dX9_staysUnclipped_53 : decode cX9_staysUnclipped 53 = .ok (.goto 4, 3) := by decide +kernel
theorem dX9_staysUnclipped_56 : decode cX9_staysUnclipped 56 = .ok (.iconst 0, 1) := by decide +kernel
theorem dX9_staysUnclipped_57 : decode cX9_staysUnclipped 57 = .ok (.ireturn, 1) := by decide +kernel
theorem dX9_isValue_0 : decode cX9_isValue 0 = .ok (.iload_n 0, 1) := by decide +kernel
theorem dX9_isValue_1 : decode cX9_isValue 1 = .ok (.iconst (-1), 1) := by decide +kernel
theorem dX9_isValue_2 : decode cX9_isValue 2 = .ok (.if_icmp .lt 12, 3) := by decide +kernel
theorem dX9_isValue_5 : decode cX9_isValue 5 = .ok (.iload_n 0, 1) := by decide +kernel
theorem dX9_isValue_6 : decode cX9_isValue 6 = .ok (.iconst 1, 1) := by decide +kernel
theorem dX9_isValue_7 : decode cX9_isValue 7 = .ok (.if_icmp .gt 7, 3) := by decide +kernel
theorem dX9_isValue_10 : decode cX9_isValue 10 = .ok (.iconst 1, 1) := by decide +kernel
theorem dX9_isValue_11 : decode cX9_isValue 11 = .ok (.goto 4, 3) := by decide +kernel
theorem dX9_isValue_14 : decode cX9_isValue 14 = .ok (.iconst 0, 1) := by decide +kernel
theorem dX9_isValue_15 : decode cX9_isValue 15 = .ok (.ireturn, 1) := by decide +kernel
theorem dX9_isLevel_0 : decode cX9_isLevel 0 = .ok (.lload_n 0, 1) := by decide +kernel
theorem dX9_isLevel_1 : decode cX9_isLevel 1 = .ok (.ldc2_w 312, 3) := by decide +kernel
theorem dX9_isLevel_4 : decode cX9_isLevel 4 = .ok (.lcmp, 1) := by decide +kernel
theorem dX9_isLevel_5 : decode cX9_isLevel 5 = .ok (.ifCond .lt 15, 3) := by decide +kernel
theorem dX9_isLevel_8 : decode cX9_isLevel 8 = .ok (.lload_n 0, 1) := by decide +kernel
theorem dX9_isLevel_9 : decode cX9_isLevel 9 = .ok (.ldc2_w 314, 3) := by decide +kernel
theorem dX9_isLevel_12 : decode cX9_isLevel 12 = .ok (.lcmp, 1) := by decide +kernel
theorem dX9_isLevel_13 : decode cX9_isLevel 13 = .ok (.ifCond .gt 7, 3) := by decide +kernel
theorem dX9_isLevel_16 : decode cX9_isLevel 16 = .ok (.iconst 1, 1) := by decide +kernel
theorem dX9_isLevel_17 : decode cX9_isLevel 17 = .ok (.goto 4, 3) := by decide +kernel
theorem dX9_isLevel_20 : decode cX9_isLevel 20 = .ok (.iconst 0, 1) := by decide +kernel
theorem dX9_isLevel_21 : decode cX9_isLevel 21 = .ok (.ireturn, 1) := by decide +kernel
theorem dX9_isSumming_0 : decode cX9_isSumming 0 = .ok (.iload_n 0, 1) := by decide +kernel
theorem dX9_isSumming_1 : decode cX9_isSumming 1 = .ok (.iconst 1, 1) := by decide +kernel
theorem dX9_isSumming_2 : decode cX9_isSumming 2 = .ok (.if_icmp .lt 23, 3) := by decide +kernel
theorem dX9_isSumming_5 : decode cX9_isSumming 5 = .ok (.iload_n 0, 1) := by decide +kernel
theorem dX9_isSumming_6 : decode cX9_isSumming 6 = .ok (.iconst 3, 1) := by decide +kernel
theorem dX9_isSumming_7 : decode cX9_isSumming 7 = .ok (.if_icmp .gt 18, 3) := by decide +kernel
theorem dX9_isSumming_10 : decode cX9_isSumming 10 = .ok (.iload_n 1, 1) := by decide +kernel
theorem dX9_isSumming_11 : decode cX9_isSumming 11 = .ok (.iconst 2, 1) := by decide +kernel
theorem dX9_isSumming_12 : decode cX9_isSumming 12 = .ok (.if_icmp .lt 13, 3) := by decide +kernel
theorem dX9_isSumming_15 : decode cX9_isSumming 15 = .ok (.iload_n 1, 1) := by decide +kernel
theorem dX9_isSumming_16 : decode cX9_isSumming 16 = .ok (.bipush 32, 2) := by decide +kernel
theorem dX9_isSumming_18 : decode cX9_isSumming 18 = .ok (.if_icmp .gt 7, 3) := by decide +kernel
theorem dX9_isSumming_21 : decode cX9_isSumming 21 = .ok (.iconst 1, 1) := by decide +kernel
theorem dX9_isSumming_22 : decode cX9_isSumming 22 = .ok (.goto 4, 3) := by decide +kernel
theorem dX9_isSumming_25 : decode cX9_isSumming 25 = .ok (.iconst 0, 1) := by decide +kernel
theorem dX9_isSumming_26 : decode cX9_isSumming 26 = .ok (.ireturn, 1) := by decide +kernel
theorem dX9_isSweep_0 : decode cX9_isSweep 0 = .ok (.iload_n 2, 1) := by decide +kernel
theorem dX9_isSweep_1 : decode cX9_isSweep 1 = .ok (.iconst 1, 1) := by decide +kernel
theorem dX9_isSweep_2 : decode cX9_isSweep 2 = .ok (.if_icmp .lt 37, 3) := by decide +kernel
theorem dX9_isSweep_5 : decode cX9_isSweep 5 = .ok (.iload_n 2, 1) := by decide +kernel
theorem dX9_isSweep_6 : decode cX9_isSweep 6 = .ok (.bipush 50, 2) := by decide +kernel
theorem dX9_isSweep_8 : decode cX9_isSweep 8 = .ok (.if_icmp .gt 31, 3) := by decide +kernel
theorem dX9_isSweep_11 : decode cX9_isSweep 11 = .ok (.iload_n 0, 1) := by decide +kernel
theorem dX9_isSweep_12 : decode cX9_isSweep 12 = .ok (.i2l, 1) := by decide +kernel
theorem dX9_isSweep_13 : decode cX9_isSweep 13 = .ok (.invokestatic 229, 3) := by decide +kernel
theorem dX9_isSweep_16 : decode cX9_isSweep 16 = .ok (.ifCond .eq 23, 3) := by decide +kernel
theorem dX9_isSweep_19 : decode cX9_isSweep 19 = .ok (.iload_n 0, 1) := by decide +kernel
theorem dX9_isSweep_20 : decode cX9_isSweep 20 = .ok (.i2l, 1) := by decide +kernel
theorem dX9_isSweep_21 : decode cX9_isSweep 21 = .ok (.iload_n 1, 1) := by decide +kernel
theorem dX9_isSweep_22 : decode cX9_isSweep 22 = .ok (.i2l, 1) := by decide +kernel
theorem dX9_isSweep_23 : decode cX9_isSweep 23 = .ok (.iload_n 2, 1) := by decide +kernel
theorem dX9_isSweep_24 : decode cX9_isSweep 24 = .ok (.iconst 1, 1) := by decide +kernel
theorem dX9_isSweep_25 : decode cX9_isSweep 25 = .ok (.isub, 1) := by decide +kernel
theorem dX9_isSweep_26 : decode cX9_isSweep 26 = .ok (.i2l, 1) := by decide +kernel
theorem dX9_isSweep_27 : decode cX9_isSweep 27 = .ok (.lmul, 1) := by decide +kernel
theorem dX9_isSweep_28 : decode cX9_isSweep 28 = .ok (.ladd, 1) := by decide +kernel
theorem dX9_isSweep_29 : decode cX9_isSweep 29 = .ok (.invokestatic 229, 3) := by decide +kernel
theorem dX9_isSweep_32 : decode cX9_isSweep 32 = .ok (.ifCond .eq 7, 3) := by decide +kernel
theorem dX9_isSweep_35 : decode cX9_isSweep 35 = .ok (.iconst 1, 1) := by decide +kernel
theorem dX9_isSweep_36 : decode cX9_isSweep 36 = .ok (.goto 4, 3) := by decide +kernel
theorem dX9_isSweep_39 : decode cX9_isSweep 39 = .ok (.iconst 0, 1) := by decide +kernel
theorem dX9_isSweep_40 : decode cX9_isSweep 40 = .ok (.ireturn, 1) := by decide +kernel
theorem dX9_greatestDivisor_0 : decode cX9_greatestDivisor 0 = .ok (.iload_n 1, 1) := by decide +kernel
theorem dX9_greatestDivisor_1 : decode cX9_greatestDivisor 1 = .ok (.istore_n 2, 1) := by decide +kernel
theorem dX9_greatestDivisor_2 : decode cX9_greatestDivisor 2 = .ok (.iload_n 0, 1) := by decide +kernel
theorem dX9_greatestDivisor_3 : decode cX9_greatestDivisor 3 = .ok (.istore_n 3, 1) := by decide +kernel
theorem dX9_greatestDivisor_4 : decode cX9_greatestDivisor 4 = .ok (.iconst 0, 1) := by decide +kernel
theorem dX9_greatestDivisor_5 : decode cX9_greatestDivisor 5 = .ok (.istore 4, 2) := by decide +kernel
theorem dX9_greatestDivisor_7 : decode cX9_greatestDivisor 7 = .ok (.iload 4, 2) := by decide +kernel
theorem dX9_greatestDivisor_9 : decode cX9_greatestDivisor 9 = .ok (.bipush 64, 2) := by decide +kernel
theorem dX9_greatestDivisor_11 : decode cX9_greatestDivisor 11 = .ok (.if_icmp .ge 23, 3) := by decide +kernel
theorem dX9_greatestDivisor_14 : decode cX9_greatestDivisor 14 = .ok (.iload_n 3, 1) := by decide +kernel
theorem dX9_greatestDivisor_15 : decode cX9_greatestDivisor 15 = .ok (.ifCond .le 19, 3) := by decide +kernel
theorem dX9_greatestDivisor_18 : decode cX9_greatestDivisor 18 = .ok (.iload_n 2, 1) := by decide +kernel
theorem dX9_greatestDivisor_19 : decode cX9_greatestDivisor 19 = .ok (.iload_n 3, 1) := by decide +kernel
theorem dX9_greatestDivisor_20 : decode cX9_greatestDivisor 20 = .ok (.irem, 1) := by decide +kernel
theorem dX9_greatestDivisor_21 : decode cX9_greatestDivisor 21 = .ok (.istore 5, 2) := by decide +kernel
theorem dX9_greatestDivisor_23 : decode cX9_greatestDivisor 23 = .ok (.iload_n 3, 1) := by decide +kernel
theorem dX9_greatestDivisor_24 : decode cX9_greatestDivisor 24 = .ok (.istore_n 2, 1) := by decide +kernel
theorem dX9_greatestDivisor_25 : decode cX9_greatestDivisor 25 = .ok (.iload 5, 2) := by decide +kernel
theorem dX9_greatestDivisor_27 : decode cX9_greatestDivisor 27 = .ok (.istore_n 3, 1) := by decide +kernel
theorem dX9_greatestDivisor_28 : decode cX9_greatestDivisor 28 = .ok (.iinc 4 1, 3) := by decide +kernel
theorem dX9_greatestDivisor_31 : decode cX9_greatestDivisor 31 = .ok (.goto (-24), 3) := by decide +kernel
theorem dX9_greatestDivisor_34 : decode cX9_greatestDivisor 34 = .ok (.iconst 1, 1) := by decide +kernel
theorem dX9_greatestDivisor_35 : decode cX9_greatestDivisor 35 = .ok (.iload_n 2, 1) := by decide +kernel
theorem dX9_greatestDivisor_36 : decode cX9_greatestDivisor 36 = .ok (.invokestatic 226, 3) := by decide +kernel
theorem dX9_greatestDivisor_39 : decode cX9_greatestDivisor 39 = .ok (.ireturn, 1) := by decide +kernel
theorem dX9_packed_0 : decode cX9_packed 0 = .ok (.iconst 0, 1) := by decide +kernel
theorem dX9_packed_1 : decode cX9_packed 1 = .ok (.istore_n 1, 1) := by decide +kernel
theorem dX9_packed_2 : decode cX9_packed 2 = .ok (.iconst 0, 1) := by decide +kernel
theorem dX9_packed_3 : decode cX9_packed 3 = .ok (.istore_n 2, 1) := by decide +kernel
theorem dX9_packed_4 : decode cX9_packed 4 = .ok (.iload_n 2, 1) := by decide +kernel
theorem dX9_packed_5 : decode cX9_packed 5 = .ok (.aload_n 0, 1) := by decide +kernel
theorem dX9_packed_6 : decode cX9_packed 6 = .ok (.invokevirtual 316, 3) := by decide +kernel
theorem dX9_packed_9 : decode cX9_packed 9 = .ok (.if_icmp .ge 32, 3) := by decide +kernel
theorem dX9_packed_12 : decode cX9_packed 12 = .ok (.iload_n 2, 1) := by decide +kernel
theorem dX9_packed_13 : decode cX9_packed 13 = .ok (.bipush 6, 2) := by decide +kernel
theorem dX9_packed_15 : decode cX9_packed 15 = .ok (.if_icmp .ge 26, 3) := by decide +kernel
theorem dX9_packed_18 : decode cX9_packed 18 = .ok (.iload_n 1, 1) := by decide +kernel
theorem dX9_packed_19 : decode cX9_packed 19 = .ok (.aload_n 0, 1) := by decide +kernel
theorem dX9_packed_20 : decode cX9_packed 20 = .ok (.iload_n 2, 1) := by decide +kernel
theorem dX9_packed_21 : decode cX9_packed 21 = .ok (.invokevirtual 322, 3) := by decide +kernel
theorem dX9_packed_24 : decode cX9_packed 24 = .ok (.bipush 97, 2) := by decide +kernel
theorem dX9_packed_26 : decode cX9_packed 26 = .ok (.isub, 1) := by decide +kernel
theorem dX9_packed_27 : decode cX9_packed 27 = .ok (.iconst 1, 1) := by decide +kernel
theorem dX9_packed_28 : decode cX9_packed 28 = .ok (.iadd, 1) := by decide +kernel
theorem dX9_packed_29 : decode cX9_packed 29 = .ok (.iconst 5, 1) := by decide +kernel
theorem dX9_packed_30 : decode cX9_packed 30 = .ok (.iload_n 2, 1) := by decide +kernel
theorem dX9_packed_31 : decode cX9_packed 31 = .ok (.imul, 1) := by decide +kernel
theorem dX9_packed_32 : decode cX9_packed 32 = .ok (.ishl, 1) := by decide +kernel
theorem dX9_packed_33 : decode cX9_packed 33 = .ok (.ior, 1) := by decide +kernel
theorem dX9_packed_34 : decode cX9_packed 34 = .ok (.istore_n 1, 1) := by decide +kernel
theorem dX9_packed_35 : decode cX9_packed 35 = .ok (.iinc 2 1, 3) := by decide +kernel
theorem dX9_packed_38 : decode cX9_packed 38 = .ok (.goto (-34), 3) := by decide +kernel
theorem dX9_packed_41 : decode cX9_packed 41 = .ok (.iload_n 1, 1) := by decide +kernel
theorem dX9_packed_42 : decode cX9_packed 42 = .ok (.ireturn, 1) := by decide +kernel
theorem dX9_letterOf_0 : decode cX9_letterOf 0 = .ok (.iload_n 1, 1) := by decide +kernel
theorem dX9_letterOf_1 : decode cX9_letterOf 1 = .ok (.ifCond .lt 9, 3) := by decide +kernel
theorem dX9_letterOf_4 : decode cX9_letterOf 4 = .ok (.iload_n 1, 1) := by decide +kernel
theorem dX9_letterOf_5 : decode cX9_letterOf 5 = .ok (.bipush 6, 2) := by decide +kernel
theorem dX9_letterOf_7 : decode cX9_letterOf 7 = .ok (.if_icmp .lt 7, 3) := by decide +kernel
theorem dX9_letterOf_10 : decode cX9_letterOf 10 = .ok (.iconst (-1), 1) := by decide +kernel
theorem dX9_letterOf_11 : decode cX9_letterOf 11 = .ok (.goto 13, 3) := by decide +kernel
theorem dX9_letterOf_14 : decode cX9_letterOf 14 = .ok (.iload_n 0, 1) := by decide +kernel
theorem dX9_letterOf_15 : decode cX9_letterOf 15 = .ok (.iconst 5, 1) := by decide +kernel
theorem dX9_letterOf_16 : decode cX9_letterOf 16 = .ok (.iload_n 1, 1) := by decide +kernel
theorem dX9_letterOf_17 : decode cX9_letterOf 17 = .ok (.imul, 1) := by decide +kernel
theorem dX9_letterOf_18 : decode cX9_letterOf 18 = .ok (.ishr, 1) := by decide +kernel
theorem dX9_letterOf_19 : decode cX9_letterOf 19 = .ok (.bipush 31, 2) := by decide +kernel
theorem dX9_letterOf_21 : decode cX9_letterOf 21 = .ok (.iand, 1) := by decide +kernel
theorem dX9_letterOf_22 : decode cX9_letterOf 22 = .ok (.iconst 1, 1) := by decide +kernel
theorem dX9_letterOf_23 : decode cX9_letterOf 23 = .ok (.isub, 1) := by decide +kernel
theorem dX9_letterOf_24 : decode cX9_letterOf 24 = .ok (.ireturn, 1) := by decide +kernel
theorem dX10_init_0 : decode cX10_init 0 = .ok (.aload_n 0, 1) := by decide +kernel
theorem dX10_init_1 : decode cX10_init 1 = .ok (.invokespecial 1, 3) := by decide +kernel
theorem dX10_init_4 : decode cX10_init 4 = .ok (.aload_n 0, 1) := by decide +kernel
theorem dX10_init_5 : decode cX10_init 5 = .ok (.iconst (-1), 1) := by decide +kernel
theorem dX10_init_6 : decode cX10_init 6 = .ok (.putfield 9, 3) := by decide +kernel
theorem dX10_init_9 : decode cX10_init 9 = .ok (.aload_n 0, 1) := by decide +kernel
theorem dX10_init_10 : decode cX10_init 10 = .ok (.sipush 600, 3) := by decide +kernel
theorem dX10_init_13 : decode cX10_init 13 = .ok (.newarray .int, 2) := by decide +kernel
theorem dX10_init_15 : decode cX10_init 15 = .ok (.putfield 13, 3) := by decide +kernel
theorem dX10_init_18 : decode cX10_init 18 = .ok (.aload_n 0, 1) := by decide +kernel
theorem dX10_init_19 : decode cX10_init 19 = .ok (.bipush 8, 2) := by decide +kernel
theorem dX10_init_21 : decode cX10_init 21 = .ok (.newarray .long, 2) := by decide +kernel
theorem dX10_init_23 : decode cX10_init 23 = .ok (.putfield 17, 3) := by decide +kernel
theorem dX10_init_26 : decode cX10_init 26 = .ok (.aload_n 0, 1) := by decide +kernel
theorem dX10_init_27 : decode cX10_init 27 = .ok (.bipush 8, 2) := by decide +kernel
theorem dX10_init_29 : decode cX10_init 29 = .ok (.newarray .long, 2) := by decide +kernel
theorem dX10_init_31 : decode cX10_init 31 = .ok (.putfield 21, 3) := by decide +kernel
theorem dX10_init_34 : decode cX10_init 34 = .ok (.aload_n 0, 1) := by decide +kernel
theorem dX10_init_35 : decode cX10_init 35 = .ok (.bipush 8, 2) := by decide +kernel
theorem dX10_init_37 : decode cX10_init 37 = .ok (.newarray .int, 2) := by decide +kernel
theorem dX10_init_39 : decode cX10_init 39 = .ok (.putfield 24, 3) := by decide +kernel
theorem dX10_init_42 : decode cX10_init 42 = .ok (.aload_n 0, 1) := by decide +kernel
theorem dX10_init_43 : decode cX10_init 43 = .ok (.bipush 24, 2) := by decide +kernel
theorem dX10_init_45 : decode cX10_init 45 = .ok (.newarray .int, 2) := by decide +kernel
theorem dX10_init_47 : decode cX10_init 47 = .ok (.putfield 27, 3) := by decide +kernel
theorem dX10_init_50 : decode cX10_init 50 = .ok (.aload_n 0, 1) := by decide +kernel
theorem dX10_init_51 : decode cX10_init 51 = .ok (.bipush 8, 2) := by decide +kernel
theorem dX10_init_53 : decode cX10_init 53 = .ok (.newarray .int, 2) := by decide +kernel
theorem dX10_init_55 : decode cX10_init 55 = .ok (.putfield 30, 3) := by decide +kernel
theorem dX10_init_58 : decode cX10_init 58 = .ok (.aload_n 0, 1) := by decide +kernel
theorem dX10_init_59 : decode cX10_init 59 = .ok (.bipush 8, 2) := by decide +kernel
theorem dX10_init_61 : decode cX10_init 61 = .ok (.newarray .int, 2) := by decide +kernel
theorem dX10_init_63 : decode cX10_init 63 = .ok (.putfield 33, 3) := by decide +kernel
theorem dX10_init_66 : decode cX10_init 66 = .ok (.aload_n 0, 1) := by decide +kernel
theorem dX10_init_67 : decode cX10_init 67 = .ok (.bipush 8, 2) := by decide +kernel
theorem dX10_init_69 : decode cX10_init 69 = .ok (.newarray .int, 2) := by decide +kernel
theorem dX10_init_71 : decode cX10_init 71 = .ok (.putfield 36, 3) := by decide +kernel
theorem dX10_init_74 : decode cX10_init 74 = .ok (.aload_n 0, 1) := by decide +kernel
theorem dX10_init_75 : decode cX10_init 75 = .ok (.bipush 8, 2) := by decide +kernel
theorem dX10_init_77 : decode cX10_init 77 = .ok (.newarray .boolean, 2) := by decide +kernel
theorem dX10_init_79 : decode cX10_init 79 = .ok (.putfield 39, 3) := by decide +kernel
theorem dX10_init_82 : decode cX10_init 82 = .ok (.aload_n 0, 1) := by decide +kernel
theorem dX10_init_83 : decode cX10_init 83 = .ok (.bipush 64, 2) := by decide +kernel
theorem dX10_init_85 : decode cX10_init 85 = .ok (.newarray .int, 2) := by decide +kernel
theorem dX10_init_87 : decode cX10_init 87 = .ok (.putfield 43, 3) := by decide +kernel
theorem dX10_init_90 : decode cX10_init 90 = .ok (.aload_n 0, 1) := by decide +kernel
theorem dX10_init_91 : decode cX10_init 91 = .ok (.bipush 64, 2) := by decide +kernel
theorem dX10_init_93 : decode cX10_init 93 = .ok (.newarray .int, 2) := by decide +kernel
theorem dX10_init_95 : decode cX10_init 95 = .ok (.putfield 46, 3) := by decide +kernel
theorem dX10_init_98 : decode cX10_init 98 = .ok (.aload_n 0, 1) := by decide +kernel
theorem dX10_init_99 : decode cX10_init 99 = .ok (.bipush 64, 2) := by decide +kernel
theorem dX10_init_101 : decode cX10_init 101 = .ok (.newarray .int, 2) := by decide +kernel
theorem dX10_init_103 : decode cX10_init 103 = .ok (.putfield 49, 3) := by decide +kernel
theorem dX10_init_106 : decode cX10_init 106 = .ok (.aload_n 0, 1) := by decide +kernel
theorem dX10_init_107 : decode cX10_init 107 = .ok (.bipush 64, 2) := by decide +kernel
theorem dX10_init_109 : decode cX10_init 109 = .ok (.newarray .int, 2) := by decide +kernel
theorem dX10_init_111 : decode cX10_init 111 = .ok (.putfield 52, 3) := by decide +kernel
theorem dX10_init_114 : decode cX10_init 114 = .ok (.aload_n 0, 1) := by decide +kernel
theorem dX10_init_115 : decode cX10_init 115 = .ok (.bipush 11, 2) := by decide +kernel
theorem dX10_init_117 : decode cX10_init 117 = .ok (.newarray .int, 2) := by decide +kernel
theorem dX10_init_119 : decode cX10_init 119 = .ok (.putfield 55, 3) := by decide +kernel
theorem dX10_init_122 : decode cX10_init 122 = .ok (.aload_n 0, 1) := by decide +kernel
theorem dX10_init_123 : decode cX10_init 123 = .ok (.bipush 11, 2) := by decide +kernel
theorem dX10_init_125 : decode cX10_init 125 = .ok (.newarray .int, 2) := by decide +kernel
theorem dX10_init_127 : decode cX10_init 127 = .ok (.putfield 58, 3) := by decide +kernel
theorem dX10_init_130 : decode cX10_init 130 = .ok (.aload_n 0, 1) := by decide +kernel
theorem dX10_init_131 : decode cX10_init 131 = .ok (.bipush 11, 2) := by decide +kernel
theorem dX10_init_133 : decode cX10_init 133 = .ok (.newarray .int, 2) := by decide +kernel
theorem dX10_init_135 : decode cX10_init 135 = .ok (.putfield 61, 3) := by decide +kernel
theorem dX10_init_138 : decode cX10_init 138 = .ok (.aload_n 0, 1) := by decide +kernel
theorem dX10_init_139 : decode cX10_init 139 = .ok (.bipush 22, 2) := by decide +kernel
theorem dX10_init_141 : decode cX10_init 141 = .ok (.newarray .int, 2) := by decide +kernel
theorem dX10_init_143 : decode cX10_init 143 = .ok (.putfield 64, 3) := by decide +kernel
theorem dX10_init_146 : decode cX10_init 146 = .ok (.aload_n 0, 1) := by decide +kernel
theorem dX10_init_147 : decode cX10_init 147 = .ok (.sipush 4096, 3) := by decide +kernel
theorem dX10_init_150 : decode cX10_init 150 = .ok (.newarray .byte, 2) := by decide +kernel
theorem dX10_init_152 : decode cX10_init 152 = .ok (.putfield 67, 3) := by decide +kernel
theorem dX10_init_155 : decode cX10_init 155 = .ok (.aload_n 0, 1) := by decide +kernel
theorem dX10_init_156 : decode cX10_init 156 = .ok (.sipush 8192, 3) := by decide +kernel
theorem dX10_init_159 : decode cX10_init 159 = .ok (.newarray .byte, 2) := by decide +kernel
theorem dX10_init_161 : decode cX10_init 161 = .ok (.putfield 71, 3) := by decide +kernel
theorem dX10_init_164 : decode cX10_init 164 = .ok (.aload_n 0, 1) := by decide +kernel
theorem dX10_init_165 : decode cX10_init 165 = .ok (.iconst 2, 1) := by decide +kernel
theorem dX10_init_166 : decode cX10_init 166 = .ok (.newarray .boolean, 2) := by decide +kernel
theorem dX10_init_168 : decode cX10_init 168 = .ok (.putfield 74, 3) := by decide +kernel
theorem dX10_init_171 : decode cX10_init 171 = .ok (.aload_n 0, 1) := by decide +kernel
theorem dX10_init_172 : decode cX10_init 172 = .ok (.iconst 2, 1) := by decide +kernel
theorem dX10_init_173 : decode cX10_init 173 = .ok (.newarray .int, 2) := by decide +kernel
theorem dX10_init_175 : decode cX10_init 175 = .ok (.putfield 77, 3) := by decide +kernel
theorem dX10_init_178 : decode cX10_init 178 = .ok (.aload_n 0, 1) := by decide +kernel
theorem dX10_init_179 : decode cX10_init 179 = .ok (.iconst 1, 1) := by decide +kernel
theorem dX10_init_180 : decode cX10_init 180 = .ok (.putfield 80, 3) := by decide +kernel
theorem dX10_init_183 : decode cX10_init 183 = .ok (.aload_n 0, 1) := by decide +kernel
theorem dX10_init_184 : decode cX10_init 184 = .ok (.sipush 4096, 3) := by decide +kernel
theorem dX10_init_187 : decode cX10_init 187 = .ok (.newarray .int, 2) := by decide +kernel
theorem dX10_init_189 : decode cX10_init 189 = .ok (.putfield 83, 3) := by decide +kernel
theorem dX10_init_192 : decode cX10_init 192 = .ok (.aload_n 0, 1) := by decide +kernel
theorem dX10_init_193 : decode cX10_init 193 = .ok (.sipush 2100, 3) := by decide +kernel
theorem dX10_init_196 : decode cX10_init 196 = .ok (.newarray .int, 2) := by decide +kernel
theorem dX10_init_198 : decode cX10_init 198 = .ok (.putfield 86, 3) := by decide +kernel
theorem dX10_init_201 : decode cX10_init 201 = .ok (.return_, 1) := by decide +kernel
theorem dX10_thrown_0 : decode cX10_thrown 0 = .ok (.aload_n 0, 1) := by decide +kernel
theorem dX10_thrown_1 : decode cX10_thrown 1 = .ok (.getfield 89, 3) := by decide +kernel
theorem dX10_thrown_4 : decode cX10_thrown 4 = .ok (.ireturn, 1) := by decide +kernel
theorem dX10_refused_0 : decode cX10_refused 0 = .ok (.aload_n 0, 1) := by decide +kernel
theorem dX10_refused_1 : decode cX10_refused 1 = .ok (.iload_n 1, 1) := by decide +kernel
theorem dX10_refused_2 : decode cX10_refused 2 = .ok (.putfield 92, 3) := by decide +kernel
theorem dX10_refused_5 : decode cX10_refused 5 = .ok (.aload_n 0, 1) := by decide +kernel
theorem dX10_refused_6 : decode cX10_refused 6 = .ok (.iconst (-1), 1) := by decide +kernel
theorem dX10_refused_7 : decode cX10_refused 7 = .ok (.putfield 9, 3) := by decide +kernel
theorem dX10_refused_10 : decode cX10_refused 10 = .ok (.iconst (-1), 1) := by decide +kernel
theorem dX10_refused_11 : decode cX10_refused 11 = .ok (.ireturn, 1) := by decide +kernel
theorem dX10_lost_0 : decode cX10_lost 0 = .ok (.aload_n 0, 1) := by decide +kernel
theorem dX10_lost_1 : decode cX10_lost 1 = .ok (.iload_n 1, 1) := by decide +kernel
theorem dX10_lost_2 : decode cX10_lost 2 = .ok (.putfield 92, 3) := by decide +kernel
theorem dX10_lost_5 : decode cX10_lost 5 = .ok (.aload_n 0, 1) := by decide +kernel
theorem dX10_lost_6 : decode cX10_lost 6 = .ok (.iconst (-1), 1) := by decide +kernel
theorem dX10_lost_7 : decode cX10_lost 7 = .ok (.putfield 9, 3) := by decide +kernel
theorem dX10_lost_10 : decode cX10_lost 10 = .ok (.ldc 95, 2) := by decide +kernel
theorem dX10_lost_12 : decode cX10_lost 12 = .ok (.ireturn, 1) := by decide +kernel
theorem dX10_good_0 : decode cX10_good 0 = .ok (.aload_n 0, 1) := by decide +kernel
theorem dX10_good_1 : decode cX10_good 1 = .ok (.iconst 0, 1) := by decide +kernel
theorem dX10_good_2 : decode cX10_good 2 = .ok (.putfield 92, 3) := by decide +kernel
theorem dX10_good_5 : decode cX10_good 5 = .ok (.aload_n 0, 1) := by decide +kernel
theorem dX10_good_6 : decode cX10_good 6 = .ok (.iconst (-1), 1) := by decide +kernel
theorem dX10_good_7 : decode cX10_good 7 = .ok (.putfield 9, 3) := by decide +kernel
theorem dX10_good_10 : decode cX10_good 10 = .ok (.iload_n 1, 1) := by decide +kernel
theorem dX10_good_11 : decode cX10_good 11 = .ok (.ireturn, 1) := by decide +kernel
theorem dX10_done_0 : decode cX10_done 0 = .ok (.aload_n 0, 1) := by decide +kernel
theorem dX10_done_1 : decode cX10_done 1 = .ok (.iload_n 1, 1) := by decide +kernel
theorem dX10_done_2 : decode cX10_done 2 = .ok (.putfield 92, 3) := by decide +kernel
theorem dX10_done_5 : decode cX10_done 5 = .ok (.aload_n 0, 1) := by decide +kernel
theorem dX10_done_6 : decode cX10_done 6 = .ok (.iconst (-1), 1) := by decide +kernel
theorem dX10_done_7 : decode cX10_done 7 = .ok (.putfield 9, 3) := by decide +kernel
theorem dX10_done_10 : decode cX10_done 10 = .ok (.iload_n 1, 1) := by decide +kernel
theorem dX10_done_11 : decode cX10_done 11 = .ok (.ifCond .ne 7, 3) := by decide +kernel
theorem dX10_done_14 : decode cX10_done 14 = .ok (.iconst 1, 1) := by decide +kernel
theorem dX10_done_15 : decode cX10_done 15 = .ok (.goto 4, 3) := by decide +kernel
theorem dX10_done_18 : decode cX10_done 18 = .ok (.iconst 0, 1) := by decide +kernel
theorem dX10_done_19 : decode cX10_done 19 = .ok (.ireturn, 1) := by decide +kernel
theorem dX10_in_0 : decode cX10_in 0 = .ok (.iload_n 0, 1) := by decide +kernel
theorem dX10_in_1 : decode cX10_in 1 = .ok (.iload_n 1, 1) := by decide +kernel
theorem dX10_in_2 : decode cX10_in 2 = .ok (.if_icmp .lt 12, 3) := by decide +kernel
theorem dX10_in_5 : decode cX10_in 5 = .ok (.iload_n 0, 1) := by decide +kernel
theorem dX10_in_6 : decode cX10_in 6 = .ok (.iload_n 2, 1) := by decide +kernel
theorem dX10_in_7 : decode cX10_in 7 = .ok (.if_icmp .gt 7, 3) := by decide +kernel
theorem dX10_in_10 : decode cX10_in 10 = .ok (.iconst 1, 1) := by decide +kernel
theorem dX10_in_11 : decode cX10_in 11 = .ok (.goto 4, 3) := by decide +kernel
theorem dX10_in_14 : decode cX10_in 14 = .ok (.iconst 0, 1) := by decide +kernel
theorem dX10_in_15 : decode cX10_in 15 = .ok (.ireturn, 1) := by decide +kernel
theorem dX10_without_0 : decode cX10_without 0 = .ok (.iload_n 0, 1) := by decide +kernel
theorem dX10_without_1 : decode cX10_without 1 = .ok (.ifCond .ge 8, 3) := by decide +kernel
theorem dX10_without_4 : decode cX10_without 4 = .ok (.iload_n 0, 1) := by decide +kernel
theorem dX10_without_5 : decode cX10_without 5 = .ok (.ineg, 1) := by decide +kernel
theorem dX10_without_6 : decode cX10_without 6 = .ok (.goto 4, 3) := by decide +kernel
theorem dX10_without_9 : decode cX10_without 9 = .ok (.iload_n 0, 1) := by decide +kernel
theorem dX10_without_10 : decode cX10_without 10 = .ok (.ireturn, 1) := by decide +kernel
theorem dX10_down_0 : decode cX10_down 0 = .ok (.iload_n 0, 1) := by decide +kernel
theorem dX10_down_1 : decode cX10_down 1 = .ok (.iload_n 1, 1) := by decide +kernel
theorem dX10_down_2 : decode cX10_down 2 = .ok (.idiv, 1) := by decide +kernel
theorem dX10_down_3 : decode cX10_down 3 = .ok (.istore_n 2, 1) := by decide +kernel
theorem dX10_down_4 : decode cX10_down 4 = .ok (.iload_n 0, 1) := by decide +kernel
theorem dX10_down_5 : decode cX10_down 5 = .ok (.iload_n 1, 1) := by decide +kernel
theorem dX10_down_6 : decode cX10_down 6 = .ok (.irem, 1) := by decide +kernel
theorem dX10_down_7 : decode cX10_down 7 = .ok (.ifCond .ge 9, 3) := by decide +kernel
theorem dX10_down_10 : decode cX10_down 10 = .ok (.iload_n 2, 1) := by decide +kernel
theorem dX10_down_11 : decode cX10_down 11 = .ok (.iconst 1, 1) := by decide +kernel
theorem dX10_down_12 : decode cX10_down 12 = .ok (.isub, 1) := by decide +kernel
theorem dX10_down_13 : decode cX10_down 13 = .ok (.goto 4, 3) := by decide +kernel
theorem dX10_down_16 : decode cX10_down 16 = .ok (.iload_n 2, 1) := by decide +kernel
theorem dX10_down_17 : decode cX10_down 17 = .ok (.ireturn, 1) := by decide +kernel
theorem dX10_feed_0 : decode cX10_feed 0 = .ok (.aload_n 0, 1) := by decide +kernel
theorem dX10_feed_1 : decode cX10_feed 1 = .ok (.iconst 0, 1) := by decide +kernel
theorem dX10_feed_2 : decode cX10_feed 2 = .ok (.putfield 89, 3) := by decide +kernel
theorem dX10_feed_5 : decode cX10_feed 5 = .ok (.aload_n 0, 1) := by decide +kernel
theorem dX10_feed_6 : decode cX10_feed 6 = .ok (.getfield 96, 3) := by decide +kernel
theorem dX10_feed_9 : decode cX10_feed 9 = .ok (.bipush 20, 2) := by decide +kernel
theorem dX10_feed_11 : decode cX10_feed 11 = .ok (.iadd, 1) := by decide +kernel
theorem dX10_feed_12 : decode cX10_feed 12 = .ok (.sipush 600, 3) := by decide +kernel
theorem dX10_feed_15 : decode cX10_feed 15 = .ok (.if_icmp .le 5, 3) := by decide +kernel
theorem dX10_feed_18 : decode cX10_feed 18 = .ok (.iconst (-1), 1) := by decide +kernel
theorem dX10_feed_19 : decode cX10_feed 19 = .ok (.ireturn, 1) := by decide +kernel
theorem dX10_feed_20 : decode cX10_feed 20 = .ok (.iconst 0, 1) := by decide +kernel
theorem dX10_feed_21 : decode cX10_feed 21 = .ok (.istore 6, 2) := by decide +kernel
theorem dX10_feed_23 : decode cX10_feed 23 = .ok (.iload 6, 2) := by decide +kernel
theorem dX10_feed_25 : decode cX10_feed 25 = .ok (.bipush 20, 2) := by decide +kernel
theorem dX10_feed_27 : decode cX10_feed 27 = .ok (.if_icmp .ge 86, 3) := by decide +kernel
theorem dX10_feed_30 : decode cX10_feed 30 = .ok (.iload 6, 2) := by decide +kernel
theorem dX10_feed_32 : decode cX10_feed 32 = .ok (.iconst 4, 1) := by decide +kernel
theorem dX10_feed_33 : decode cX10_feed 33 = .ok (.if_icmp .ge 7, 3) := by decide +kernel
theorem dX10_feed_36 : decode cX10_feed 36 = .ok (.iload_n 1, 1) := by decide +kernel
theorem dX10_feed_37 : decode cX10_feed 37 = .ok (.goto 39, 3) := by decide +kernel
theorem dX10_feed_40 : decode cX10_feed 40 = .ok (.iload 6, 2) := by decide +kernel
theorem dX10_feed_42 : decode cX10_feed 42 = .ok (.bipush 8, 2) := by decide +kernel
theorem dX10_feed_44 : decode cX10_feed 44 = .ok (.if_icmp .ge 7, 3) := by decide +kernel
theorem dX10_feed_47 : decode cX10_feed 47 = .ok (.iload_n 2, 1) := by decide +kernel
theorem dX10_feed_48 : decode cX10_feed 48 = .ok (.goto 28, 3) := by decide +kernel
theorem dX10_feed_51 : decode cX10_feed 51 = .ok (.iload 6, 2) := by decide +kernel
theorem dX10_feed_53 : decode cX10_feed 53 = .ok (.bipush 12, 2) := by decide +kernel
theorem dX10_feed_55 : decode cX10_feed 55 = .ok (.if_icmp .ge 7, 3) := by decide +kernel
theorem dX10_feed_58 : decode cX10_feed 58 = .ok (.iload_n 3, 1) := by decide +kernel
theorem dX10_feed_59 : decode cX10_feed 59 = .ok (.goto 17, 3) := by decide +kernel
theorem dX10_feed_62 : decode cX10_feed 62 = .ok (.iload 6, 2) := by decide +kernel
theorem dX10_feed_64 : decode cX10_feed 64 = .ok (.bipush 16, 2) := by decide +kernel
theorem dX10_feed_66 : decode cX10_feed 66 = .ok (.if_icmp .ge 8, 3) := by decide +kernel
theorem dX10_feed_69 : decode cX10_feed 69 = .ok (.iload 4, 2) := by decide +kernel
theorem dX10_feed_71 : decode cX10_feed 71 = .ok (.goto 5, 3) := by decide +kernel
theorem dX10_feed_74 : decode cX10_feed 74 = .ok (.iload 5, 2) := by decide +kernel
theorem dX10_feed_76 : decode cX10_feed 76 = .ok (.istore 7, 2) := by decide +kernel
theorem dX10_feed_78 : decode cX10_feed 78 = .ok (.aload_n 0, 1) := by decide +kernel
theorem dX10_feed_79 : decode cX10_feed 79 = .ok (.getfield 13, 3) := by decide +kernel
theorem dX10_feed_82 : decode cX10_feed 82 = .ok (.aload_n 0, 1) := by decide +kernel
theorem dX10_feed_83 : decode cX10_feed 83 = .ok (.getfield 96, 3) := by decide +kernel
theorem dX10_feed_86 : decode cX10_feed 86 = .ok (.iload 6, 2) := by decide +kernel
theorem dX10_feed_88 : decode cX10_feed 88 = .ok (.iadd, 1) := by decide +kernel
theorem dX10_feed_89 : decode cX10_feed 89 = .ok (.iload 7, 2) := by decide +kernel
theorem dX10_feed_91 : decode cX10_feed 91 = .ok (.bipush 24, 2) := by decide +kernel
theorem dX10_feed_93 : decode cX10_feed 93 = .ok (.bipush 8, 2) := by decide +kernel
theorem dX10_feed_95 : decode cX10_feed 95 = .ok (.iload 6, 2) := by decide +kernel
theorem dX10_feed_97 : decode cX10_feed 97 = .ok (.iconst 4, 1) := by decide +kernel
theorem dX10_feed_98 : decode cX10_feed 98 = .ok (.irem, 1) := by decide +kernel
theorem dX10_feed_99 : decode cX10_feed 99 = .ok (.imul, 1) := by decide +kernel
theorem dX10_feed_100 : decode cX10_feed 100 = .ok (.isub, 1) := by decide +kernel
theorem dX10_feed_101 : decode cX10_feed 101 = .ok (.ishr, 1) := by decide +kernel
theorem dX10_feed_102 : decode cX10_feed 102 = .ok (.sipush 255, 3) := by decide +kernel
theorem dX10_feed_105 : decode cX10_feed 105 = .ok (.iand, 1) := by decide +kernel
theorem dX10_feed_106 : decode cX10_feed 106 = .ok (.iastore, 1) := by decide +kernel
theorem dX10_feed_107 : decode cX10_feed 107 = .ok (.iinc 6 1, 3) := by decide +kernel
theorem dX10_feed_110 : decode cX10_feed 110 = .ok (.goto (-87), 3) := by decide +kernel
theorem dX10_feed_113 : decode cX10_feed 113 = .ok (.aload_n 0, 1) := by decide +kernel
theorem dX10_feed_114 : decode cX10_feed 114 = .ok (.dup, 1) := by decide +kernel
theorem dX10_feed_115 : decode cX10_feed 115 = .ok (.getfield 96, 3) := by decide +kernel
theorem dX10_feed_118 : decode cX10_feed 118 = .ok (.bipush 20, 2) := by decide +kernel
theorem dX10_feed_120 : decode cX10_feed 120 = .ok (.iadd, 1) := by decide +kernel
theorem dX10_feed_121 : decode cX10_feed 121 = .ok (.putfield 96, 3) := by decide +kernel
theorem dX10_feed_124 : decode cX10_feed 124 = .ok (.aload_n 0, 1) := by decide +kernel
theorem dX10_feed_125 : decode cX10_feed 125 = .ok (.getfield 96, 3) := by decide +kernel
theorem dX10_feed_128 : decode cX10_feed 128 = .ok (.ireturn, 1) := by decide +kernel
theorem dX10_flaw_0 : decode cX10_flaw 0 = .ok (.aload_n 0, 1) := by decide +kernel
theorem dX10_flaw_1 : decode cX10_flaw 1 = .ok (.getfield 99, 3) := by decide +kernel
theorem dX10_flaw_4 : decode cX10_flaw 4 = .ok (.ifCond .le 4, 3) := by decide +kernel
theorem dX10_flaw_7 : decode cX10_flaw 7 = .ok (.return_, 1) := by decide +kernel
theorem dX10_flaw_8 : decode cX10_flaw 8 = .ok (.aload_n 0, 1) := by decide +kernel
theorem dX10_flaw_9 : decode cX10_flaw 9 = .ok (.iload_n 1, 1) := by decide +kernel
theorem dX10_flaw_10 : decode cX10_flaw 10 = .ok (.putfield 99, 3) := by decide +kernel
theorem dX10_flaw_13 : decode cX10_flaw 13 = .ok (.aload_n 0, 1) := by decide +kernel
theorem dX10_flaw_14 : decode cX10_flaw 14 = .ok (.aload_n 0, 1) := by decide +kernel
theorem dX10_flaw_15 : decode cX10_flaw 15 = .ok (.getfield 102, 3) := by decide +kernel
theorem dX10_flaw_18 : decode cX10_flaw 18 = .ok (.putfield 105, 3) := by decide +kernel
theorem dX10_flaw_21 : decode cX10_flaw 21 = .ok (.return_, 1) := by decide +kernel
theorem dX10_isLetterAt_0 : decode cX10_isLetterAt 0 = .ok (.iload_n 1, 1) := by decide +kernel
theorem dX10_isLetterAt_1 : decode cX10_isLetterAt 1 = .ok (.aload_n 0, 1) := by decide +kernel
theorem dX10_isLetterAt_2 : decode cX10_isLetterAt 2 = .ok (.getfield 108, 3) := by decide +kernel
theorem dX10_isLetterAt_5 : decode cX10_isLetterAt 5 = .ok (.if_icmp .ge 23, 3) := by decide +kernel
theorem dX10_isLetterAt_8 : decode cX10_isLetterAt 8 = .ok (.aload_n 0, 1) := by decide +kernel
theorem dX10_isLetterAt_9 : decode cX10_isLetterAt 9 = .ok (.getfield 13, 3) := by decide +kernel
theorem dX10_isLetterAt_12 : decode cX10_isLetterAt 12 = .ok (.iload_n 1, 1) := by decide +kernel
theorem dX10_isLetterAt_13 : decode cX10_isLetterAt 13 = .ok (.iaload, 1) := by decide +kernel
theorem dX10_isLetterAt_14 : decode cX10_isLetterAt 14 = .ok (.bipush 97, 2) := by decide +kernel
theorem dX10_isLetterAt_16 : decode cX10_isLetterAt 16 = .ok (.bipush 122, 2) := by decide +kernel
theorem dX10_isLetterAt_18 : decode cX10_isLetterAt 18 = .ok (.invokestatic 111, 3) := by decide +kernel
theorem dX10_isLetterAt_21 : decode cX10_isLetterAt 21 = .ok (.ifCond .eq 7, 3) := by decide +kernel
theorem dX10_isLetterAt_24 : decode cX10_isLetterAt 24 = .ok (.iconst 1, 1) := by decide +kernel
theorem dX10_isLetterAt_25 : decode cX10_isLetterAt 25 = .ok (.goto 4, 3) := by decide +kernel
theorem dX10_isLetterAt_28 : decode cX10_isLetterAt 28 = .ok (.iconst 0, 1) := by decide +kernel
theorem dX10_isLetterAt_29 : decode cX10_isLetterAt 29 = .ok (.ireturn, 1) := by decide +kernel
theorem dX10_isDigitAt_0 : decode cX10_isDigitAt 0 = .ok (.iload_n 1, 1) := by decide +kernel
theorem dX10_isDigitAt_1 : decode cX10_isDigitAt 1 = .ok (.aload_n 0, 1) := by decide +kernel
theorem dX10_isDigitAt_2 : decode cX10_isDigitAt 2 = .ok (.getfield 108, 3) := by decide +kernel
theorem dX10_isDigitAt_5 : decode cX10_isDigitAt 5 = .ok (.if_icmp .ge 23, 3) := by decide +kernel
theorem dX10_isDigitAt_8 : decode cX10_isDigitAt 8 = .ok (.aload_n 0, 1) := by decide +kernel
theorem dX10_isDigitAt_9 : decode cX10_isDigitAt 9 = .ok (.getfield 13, 3) := by decide +kernel
theorem dX10_isDigitAt_12 : decode cX10_isDigitAt 12 = .ok (.iload_n 1, 1) := by decide +kernel
theorem dX10_isDigitAt_13 : decode cX10_isDigitAt 13 = .ok (.iaload, 1) := by decide +kernel
theorem dX10_isDigitAt_14 : decode cX10_isDigitAt 14 = .ok (.bipush 48, 2) := by decide +kernel
theorem dX10_isDigitAt_16 : decode cX10_isDigitAt 16 = .ok (.bipush 57, 2) := by decide +kernel
theorem dX10_isDigitAt_18 : decode cX10_isDigitAt 18 = .ok (.invokestatic 111, 3) := by decide +kernel
theorem dX10_isDigitAt_21 : decode cX10_isDigitAt 21 = .ok (.ifCond .eq 7, 3) := by decide +kernel
theorem dX10_isDigitAt_24 : decode cX10_isDigitAt 24 = .ok (.iconst 1, 1) := by decide +kernel
theorem dX10_isDigitAt_25 : decode cX10_isDigitAt 25 = .ok (.goto 4, 3) := by decide +kernel
theorem dX10_isDigitAt_28 : decode cX10_isDigitAt 28 = .ok (.iconst 0, 1) := by decide +kernel
theorem dX10_isDigitAt_29 : decode cX10_isDigitAt 29 = .ok (.ireturn, 1) := by decide +kernel
theorem dX10_goOn_0 : decode cX10_goOn 0 = .ok (.aload_n 0, 1) := by decide +kernel
theorem dX10_goOn_1 : decode cX10_goOn 1 = .ok (.getfield 99, 3) := by decide +kernel
theorem dX10_goOn_4 : decode cX10_goOn 4 = .ok (.ifCond .le 4, 3) := by decide +kernel
theorem dX10_goOn_7 : decode cX10_goOn 7 = .ok (.return_, 1) := by decide +kernel
theorem dX10_goOn_8 : decode cX10_goOn 8 = .ok (.aload_n 0, 1) := by decide +kernel
theorem dX10_goOn_9 : decode cX10_goOn 9 = .ok (.getfield 115, 3) := by decide +kernel
theorem dX10_goOn_12 : decode cX10_goOn 12 = .ok (.aload_n 0, 1) := by decide +kernel
theorem dX10_goOn_13 : decode cX10_goOn 13 = .ok (.getfield 108, 3) := by decide +kernel
theorem dX10_goOn_16 : decode cX10_goOn 16 = .ok (.if_icmp .ge 30, 3) := by decide +kernel
theorem dX10_goOn_19 : decode cX10_goOn 19 = .ok (.aload_n 0, 1) := by decide +kernel
theorem dX10_goOn_20 : decode cX10_goOn 20 = .ok (.getfield 13, 3) := by decide +kernel
theorem dX10_goOn_23 : decode cX10_goOn 23 = .ok (.aload_n 0, 1) := by decide +kernel
theorem dX10_goOn_24 : decode cX10_goOn 24 = .ok (.getfield 115, 3) := by decide +kernel
theorem dX10_goOn_27 : decode cX10_goOn 27 = .ok (.iaload, 1) := by decide +kernel
theorem dX10_goOn_28 : decode cX10_goOn 28 = .ok (.bipush 32, 2) := by decide +kernel
theorem dX10_goOn_30 : decode cX10_goOn 30 = .ok (.if_icmp .ne 16, 3) := by decide +kernel
theorem dX10_goOn_33 : decode cX10_goOn 33 = .ok (.aload_n 0, 1) := by decide +kernel
theorem dX10_goOn_34 : decode cX10_goOn 34 = .ok (.dup, 1) := by decide +kernel
theorem dX10_goOn_35 : decode cX10_goOn 35 = .ok (.getfield 115, 3) := by decide +kernel
theorem dX10_goOn_38 : decode cX10_goOn 38 = .ok (.iconst 1, 1) := by decide +kernel
theorem dX10_goOn_39 : decode cX10_goOn 39 = .ok (.iadd, 1) := by decide +kernel
theorem dX10_goOn_40 : decode cX10_goOn 40 = .ok (.putfield 115, 3) := by decide +kernel
theorem dX10_goOn_43 : decode cX10_goOn 43 = .ok (.goto (-35), 3) := by decide +kernel
theorem dX10_goOn_46 : decode cX10_goOn 46 = .ok (.aload_n 0, 1) := by decide +kernel
theorem dX10_goOn_47 : decode cX10_goOn 47 = .ok (.aload_n 0, 1) := by decide +kernel
theorem dX10_goOn_48 : decode cX10_goOn 48 = .ok (.getfield 115, 3) := by decide +kernel
theorem dX10_goOn_51 : decode cX10_goOn 51 = .ok (.putfield 102, 3) := by decide +kernel
theorem dX10_goOn_54 : decode cX10_goOn 54 = .ok (.aload_n 0, 1) := by decide +kernel
theorem dX10_goOn_55 : decode cX10_goOn 55 = .ok (.getfield 115, 3) := by decide +kernel
theorem dX10_goOn_58 : decode cX10_goOn 58 = .ok (.aload_n 0, 1) := by decide +kernel
theorem dX10_goOn_59 : decode cX10_goOn 59 = .ok (.getfield 108, 3) := by decide +kernel
theorem dX10_goOn_62 : decode cX10_goOn 62 = .ok (.if_icmp .ne 11, 3) := by decide +kernel
theorem dX10_goOn_65 : decode cX10_goOn 65 = .ok (.aload_n 0, 1) := by decide +kernel
theorem dX10_goOn_66 : decode cX10_goOn 66 = .ok (.iconst 1, 1) := by decide +kernel
theorem dX10_goOn_67 : decode cX10_goOn 67 = .ok (.putfield 118, 3) := by decide +kernel
theorem dX10_goOn_70 : decode cX10_goOn 70 = .ok (.goto 273, 3) := by decide +kernel
theorem dX10_goOn_73 : decode cX10_goOn 73 = .ok (.aload_n 0, 1) := by decide +kernel
theorem dX10_goOn_74 : decode cX10_goOn 74 = .ok (.aload_n 0, 1) := by decide +kernel
theorem dX10_goOn_75 : decode cX10_goOn 75 = .ok (.getfield 115, 3) := by decide +kernel
theorem dX10_goOn_78 : decode cX10_goOn 78 = .ok (.invokevirtual 121, 3) := by decide +kernel
theorem dX10_goOn_81 : decode cX10_goOn 81 = .ok (.ifCond .eq 101, 3) := by decide +kernel
theorem dX10_goOn_84 : decode cX10_goOn 84 = .ok (.aload_n 0, 1) := by decide +kernel
theorem dX10_goOn_85 : decode cX10_goOn 85 = .ok (.lconst 0, 1) := by decide +kernel
theorem dX10_goOn_86 : decode cX10_goOn 86 = .ok (.putfield 125, 3) := by decide +kernel
theorem dX10_goOn_89 : decode cX10_goOn 89 = .ok (.aload_n 0, 1) := by decide +kernel
theorem dX10_goOn_90 : decode cX10_goOn 90 = .ok (.aload_n 0, 1) := by decide +kernel
theorem dX10_goOn_91 : decode cX10_goOn 91 = .ok (.getfield 115, 3) := by decide +kernel
theorem dX10_goOn_94 : decode cX10_goOn 94 = .ok (.invokevirtual 121, 3) := by decide +kernel
theorem dX10_goOn_97 : decode cX10_goOn 97 = .ok (.ifCond .eq 59, 3) := by decide +kernel
theorem dX10_goOn_100 : decode cX10_goOn 100 = .ok (.aload_n 0, 1) := by decide +kernel
theorem dX10_goOn_101 : decode cX10_goOn 101 = .ok (.getfield 115, 3) := by decide +kernel
theorem dX10_goOn_104 : decode cX10_goOn 104 = .ok (.aload_n 0, 1) := by decide +kernel
theorem dX10_goOn_105 : decode cX10_goOn 105 = .ok (.getfield 102, 3) := by decide +kernel
theorem dX10_goOn_108 : decode cX10_goOn 108 = .ok (.isub, 1) := by decide +kernel
theorem dX10_goOn_109 : decode cX10_goOn 109 = .ok (.bipush 6, 2) := by decide +kernel
theorem dX10_goOn_111 : decode cX10_goOn 111 = .ok (.if_icmp .ge 32, 3) := by decide +kernel
theorem dX10_goOn_114 : decode cX10_goOn 114 = .ok (.aload_n 0, 1) := by decide +kernel
theorem dX10_goOn_115 : decode cX10_goOn 115 = .ok (.aload_n 0, 1) := by decide +kernel
theorem dX10_goOn_116 : decode cX10_goOn 116 = .ok (.getfield 125, 3) := by decide +kernel
theorem dX10_goOn_119 : decode cX10_goOn 119 = .ok (.ldc2_w 129, 3) := by decide +kernel
theorem dX10_goOn_122 : decode cX10_goOn 122 = .ok (.lmul, 1) := by decide +kernel
theorem dX10_goOn_123 : decode cX10_goOn 123 = .ok (.aload_n 0, 1) := by decide +kernel
theorem dX10_goOn_124 : decode cX10_goOn 124 = .ok (.getfield 13, 3) := by decide +kernel
theorem dX10_goOn_127 : decode cX10_goOn 127 = .ok (.aload_n 0, 1) := by decide +kernel
theorem dX10_goOn_128 : decode cX10_goOn 128 = .ok (.getfield 115, 3) := by decide +kernel
theorem dX10_goOn_131 : decode cX10_goOn 131 = .ok (.iaload, 1) := by decide +kernel
theorem dX10_goOn_132 : decode cX10_goOn 132 = .ok (.i2l, 1) := by decide +kernel
theorem dX10_goOn_133 : decode cX10_goOn 133 = .ok (.ladd, 1) := by decide +kernel
theorem dX10_goOn_134 : decode cX10_goOn 134 = .ok (.ldc2_w 131, 3) := by decide +kernel
theorem dX10_goOn_137 : decode cX10_goOn 137 = .ok (.lsub, 1) := by decide +kernel
theorem dX10_goOn_138 : decode cX10_goOn 138 = .ok (.lconst 1, 1) := by decide +kernel
theorem dX10_goOn_139 : decode cX10_goOn 139 = .ok (.ladd, 1) := by decide +kernel
theorem dX10_goOn_140 : decode cX10_goOn 140 = .ok (.putfield 125, 3) := by decide +kernel
theorem dX10_goOn_143 : decode cX10_goOn 143 = .ok (.aload_n 0, 1) := by decide +kernel
theorem dX10_goOn_144 : decode cX10_goOn 144 = .ok (.dup, 1) := by decide +kernel
theorem dX10_goOn_145 : decode cX10_goOn 145 = .ok (.getfield 115, 3) := by decide +kernel
theorem dX10_goOn_148 : decode cX10_goOn 148 = .ok (.iconst 1, 1) := by decide +kernel
theorem dX10_goOn_149 : decode cX10_goOn 149 = .ok (.iadd, 1) := by decide +kernel
theorem dX10_goOn_150 : decode cX10_goOn 150 = .ok (.putfield 115, 3) := by decide +kernel
theorem dX10_goOn_153 : decode cX10_goOn 153 = .ok (.goto (-64), 3) := by decide +kernel
theorem dX10_goOn_156 : decode cX10_goOn 156 = .ok (.aload_n 0, 1) := by decide +kernel
theorem dX10_goOn_157 : decode cX10_goOn 157 = .ok (.aload_n 0, 1) := by decide +kernel
theorem dX10_goOn_158 : decode cX10_goOn 158 = .ok (.getfield 115, 3) := by decide +kernel
theorem dX10_goOn_161 : decode cX10_goOn 161 = .ok (.aload_n 0, 1) := by decide +kernel
theorem dX10_goOn_162 : decode cX10_goOn 162 = .ok (.getfield 102, 3) := by decide +kernel
theorem dX10_goOn_165 : decode cX10_goOn 165 = .ok (.isub, 1) := by decide +kernel
theorem dX10_goOn_166 : decode cX10_goOn 166 = .ok (.bipush 6, 2) := by decide +kernel
theorem dX10_goOn_168 : decode cX10_goOn 168 = .ok (.if_icmp .le 7, 3) := by decide +kernel
theorem dX10_goOn_171 : decode cX10_goOn 171 = .ok (.iconst 0, 1) := by decide +kernel
theorem dX10_goOn_172 : decode cX10_goOn 172 = .ok (.goto 4, 3) := by decide +kernel
theorem dX10_goOn_175 : decode cX10_goOn 175 = .ok (.iconst 2, 1) := by decide +kernel
theorem dX10_goOn_176 : decode cX10_goOn 176 = .ok (.putfield 118, 3) := by decide +kernel
theorem dX10_goOn_179 : decode cX10_goOn 179 = .ok (.goto 164, 3) := by decide +kernel
theorem dX10_goOn_182 : decode cX10_goOn 182 = .ok (.aload_n 0, 1) := by decide +kernel
theorem dX10_goOn_183 : decode cX10_goOn 183 = .ok (.aload_n 0, 1) := by decide +kernel
theorem dX10_goOn_184 : decode cX10_goOn 184 = .ok (.getfield 115, 3) := by decide +kernel
theorem dX10_goOn_187 : decode cX10_goOn 187 = .ok (.invokevirtual 133, 3) := by decide +kernel
theorem dX10_goOn_190 : decode cX10_goOn 190 = .ok (.ifCond .eq 94, 3) := by decide +kernel
theorem dX10_goOn_193 : decode cX10_goOn 193 = .ok (.aload_n 0, 1) := by decide +kernel
theorem dX10_goOn_194 : decode cX10_goOn 194 = .ok (.iconst 0, 1) := by decide +kernel
theorem dX10_goOn_195 : decode cX10_goOn 195 = .ok (.putfield 136, 3) := by decide +kernel
theorem dX10_goOn_198 : decode cX10_goOn 198 = .ok (.aload_n 0, 1) := by decide +kernel
theorem dX10_goOn_199 : decode cX10_goOn 199 = .ok (.aload_n 0, 1) := by decide +kernel
theorem dX10_goOn_200 : decode cX10_goOn 200 = .ok (.getfield 115, 3) := by decide +kernel
theorem dX10_goOn_203 : decode cX10_goOn 203 = .ok (.invokevirtual 133, 3) := by decide +kernel
theorem dX10_goOn_206 : decode cX10_goOn 206 = .ok (.ifCond .eq 53, 3) := by decide +kernel
theorem dX10_goOn_209 : decode cX10_goOn 209 = .ok (.aload_n 0, 1) := by decide +kernel
theorem dX10_goOn_210 : decode cX10_goOn 210 = .ok (.getfield 115, 3) := by decide +kernel
theorem dX10_goOn_213 : decode cX10_goOn 213 = .ok (.aload_n 0, 1) := by decide +kernel
theorem dX10_goOn_214 : decode cX10_goOn 214 = .ok (.getfield 102, 3) := by decide +kernel
theorem dX10_goOn_217 : decode cX10_goOn 217 = .ok (.isub, 1) := by decide +kernel
theorem dX10_goOn_218 : decode cX10_goOn 218 = .ok (.iconst 4, 1) := by decide +kernel
theorem dX10_goOn_219 : decode cX10_goOn 219 = .ok (.if_icmp .ge 27, 3) := by decide +kernel
theorem dX10_goOn_222 : decode cX10_goOn 222 = .ok (.aload_n 0, 1) := by decide +kernel
theorem dX10_goOn_223 : decode cX10_goOn 223 = .ok (.bipush 10, 2) := by decide +kernel
theorem dX10_goOn_225 : decode cX10_goOn 225 = .ok (.aload_n 0, 1) := by decide +kernel
theorem dX10_goOn_226 : decode cX10_goOn 226 = .ok (.getfield 136, 3) := by decide +kernel
theorem dX10_goOn_229 : decode cX10_goOn 229 = .ok (.imul, 1) := by decide +kernel
theorem dX10_goOn_230 : decode cX10_goOn 230 = .ok (.aload_n 0, 1) := by decide +kernel
theorem dX10_goOn_231 : decode cX10_goOn 231 = .ok (.getfield 13, 3) := by decide +kernel
theorem dX10_goOn_234 : decode cX10_goOn 234 = .ok (.aload_n 0, 1) := by decide +kernel
theorem dX10_goOn_235 : decode cX10_goOn 235 = .ok (.getfield 115, 3) := by decide +kernel
theorem dX10_goOn_238 : decode cX10_goOn 238 = .ok (.iaload, 1) := by decide +kernel
theorem dX10_goOn_239 : decode cX10_goOn 239 = .ok (.iadd, 1) := by decide +kernel
theorem dX10_goOn_240 : decode cX10_goOn 240 = .ok (.bipush 48, 2) := by decide +kernel
theorem dX10_goOn_242 : decode cX10_goOn 242 = .ok (.isub, 1) := by decide +kernel
theorem dX10_goOn_243 : decode cX10_goOn 243 = .ok (.putfield 136, 3) := by decide +kernel
theorem dX10_goOn_246 : decode cX10_goOn 246 = .ok (.aload_n 0, 1) := by decide +kernel
theorem dX10_goOn_247 : decode cX10_goOn 247 = .ok (.dup, 1) := by decide +kernel
theorem dX10_goOn_248 : decode cX10_goOn 248 = .ok (.getfield 115, 3) := by decide +kernel
theorem dX10_goOn_251 : decode cX10_goOn 251 = .ok (.iconst 1, 1) := by decide +kernel
theorem dX10_goOn_252 : decode cX10_goOn 252 = .ok (.iadd, 1) := by decide +kernel
theorem dX10_goOn_253 : decode cX10_goOn 253 = .ok (.putfield 115, 3) := by decide +kernel
theorem dX10_goOn_256 : decode cX10_goOn 256 = .ok (.goto (-58), 3) := by decide +kernel
theorem dX10_goOn_259 : decode cX10_goOn 259 = .ok (.aload_n 0, 1) := by decide +kernel
theorem dX10_goOn_260 : decode cX10_goOn 260 = .ok (.aload_n 0, 1) := by decide +kernel
theorem dX10_goOn_261 : decode cX10_goOn 261 = .ok (.getfield 115, 3) := by decide +kernel
theorem dX10_goOn_264 : decode cX10_goOn 264 = .ok (.aload_n 0, 1) := by decide +kernel
theorem dX10_goOn_265 : decode cX10_goOn 265 = .ok (.getfield 102, 3) := by decide +kernel
theorem dX10_goOn_268 : decode cX10_goOn 268 = .ok (.isub, 1) := by decide +kernel
theorem dX10_goOn_269 : decode cX10_goOn 269 = .ok (.iconst 4, 1) := by decide +kernel
theorem dX10_goOn_270 : decode cX10_goOn 270 = .ok (.if_icmp .le 7, 3) := by decide +kernel
theorem dX10_goOn_273 : decode cX10_goOn 273 = .ok (.iconst 0, 1) := by decide +kernel
theorem dX10_goOn_274 : decode cX10_goOn 274 = .ok (.goto 4, 3) := by decide +kernel
theorem dX10_goOn_277 : decode cX10_goOn 277 = .ok (.iconst 3, 1) := by decide +kernel
theorem dX10_goOn_278 : decode cX10_goOn 278 = .ok (.putfield 118, 3) := by decide +kernel
theorem dX10_goOn_281 : decode cX10_goOn 281 = .ok (.goto 62, 3) := by decide +kernel
theorem dX10_goOn_284 : decode cX10_goOn 284 = .ok (.aload_n 0, 1) := by decide +kernel
theorem dX10_goOn_285 : decode cX10_goOn 285 = .ok (.aload_n 0, 1) := by decide +kernel
theorem dX10_goOn_286 : decode cX10_goOn 286 = .ok (.getfield 13, 3) := by decide +kernel
theorem dX10_goOn_289 : decode cX10_goOn 289 = .ok (.aload_n 0, 1) := by decide +kernel
theorem dX10_goOn_290 : decode cX10_goOn 290 = .ok (.getfield 115, 3) := by decide +kernel
theorem dX10_goOn_293 : decode cX10_goOn 293 = .ok (.iaload, 1) := by decide +kernel
theorem dX10_goOn_294 : decode cX10_goOn 294 = .ok (.putfield 139, 3) := by decide +kernel
theorem dX10_goOn_297 : decode cX10_goOn 297 = .ok (.aload_n 0, 1) := by decide +kernel
theorem dX10_goOn_298 : decode cX10_goOn 298 = .ok (.aload_n 0, 1) := by decide +kernel
theorem dX10_goOn_299 : decode cX10_goOn 299 = .ok (.getfield 139, 3) := by decide +kernel
theorem dX10_goOn_302 : decode cX10_goOn 302 = .ok (.bipush 59, 2) := by decide +kernel
theorem dX10_goOn_304 : decode cX10_goOn 304 = .ok (.if_icmp .eq 21, 3) := by decide +kernel
theorem dX10_goOn_307 : decode cX10_goOn 307 = .ok (.aload_n 0, 1) := by decide +kernel
theorem dX10_goOn_308 : decode cX10_goOn 308 = .ok (.getfield 139, 3) := by decide +kernel
theorem dX10_goOn_311 : decode cX10_goOn 311 = .ok (.bipush 44, 2) := by decide +kernel
theorem dX10_goOn_313 : decode cX10_goOn 313 = .ok (.if_icmp .eq 12, 3) := by decide +kernel
theorem dX10_goOn_316 : decode cX10_goOn 316 = .ok (.aload_n 0, 1) := by decide +kernel
theorem dX10_goOn_317 : decode cX10_goOn 317 = .ok (.getfield 139, 3) := by decide +kernel
theorem dX10_goOn_320 : decode cX10_goOn 320 = .ok (.bipush 45, 2) := by decide +kernel
theorem dX10_goOn_322 : decode cX10_goOn 322 = .ok (.if_icmp .ne 7, 3) := by decide +kernel
theorem dX10_goOn_325 : decode cX10_goOn 325 = .ok (.iconst 4, 1) := by decide +kernel
theorem dX10_goOn_326 : decode cX10_goOn 326 = .ok (.goto 4, 3) := by decide +kernel
theorem dX10_goOn_329 : decode cX10_goOn 329 = .ok (.iconst 0, 1) := by decide +kernel
theorem dX10_goOn_330 : decode cX10_goOn 330 = .ok (.putfield 118, 3) := by decide +kernel
theorem dX10_goOn_333 : decode cX10_goOn 333 = .ok (.aload_n 0, 1) := by decide +kernel
theorem dX10_goOn_334 : decode cX10_goOn 334 = .ok (.dup, 1) := by decide +kernel
theorem dX10_goOn_335 : decode cX10_goOn 335 = .ok (.getfield 115, 3) := by decide +kernel
theorem dX10_goOn_338 : decode cX10_goOn 338 = .ok (.iconst 1, 1) := by decide +kernel
theorem dX10_goOn_339 : decode cX10_goOn 339 = .ok (.iadd, 1) := by decide +kernel
theorem dX10_goOn_340 : decode cX10_goOn 340 = .ok (.putfield 115, 3) := by decide +kernel
theorem dX10_goOn_343 : decode cX10_goOn 343 = .ok (.return_, 1) := by decide +kernel
theorem dX10_wordOf_0 : decode cX10_wordOf 0 = .ok (.lconst 0, 1) := by decide +kernel
theorem dX10_wordOf_1 : decode cX10_wordOf 1 = .ok (.lstore_n 1, 1) := by decide +kernel
theorem dX10_wordOf_2 : decode cX10_wordOf 2 = .ok (.iconst 0, 1) := by decide +kernel
theorem dX10_wordOf_3 : decode cX10_wordOf 3 = .ok (.istore_n 3, 1) := by decide +kernel
theorem dX10_wordOf_4 : decode cX10_wordOf 4 = .ok (.iload_n 3, 1) := by decide +kernel
theorem dX10_wordOf_5 : decode cX10_wordOf 5 = .ok (.aload_n 0, 1) := by decide +kernel
theorem dX10_wordOf_6 : decode cX10_wordOf 6 = .ok (.invokevirtual 142, 3) := by decide +kernel
theorem dX10_wordOf_9 : decode cX10_wordOf 9 = .ok (.if_icmp .ge 28, 3) := by decide +kernel
theorem dX10_wordOf_12 : decode cX10_wordOf 12 = .ok (.lload_n 1, 1) := by decide +kernel
theorem dX10_wordOf_13 : decode cX10_wordOf 13 = .ok (.ldc2_w 129, 3) := by decide +kernel
theorem dX10_wordOf_16 : decode cX10_wordOf 16 = .ok (.lmul, 1) := by decide +kernel
theorem dX10_wordOf_17 : decode cX10_wordOf 17 = .ok (.aload_n 0, 1) := by decide +kernel
theorem dX10_wordOf_18 : decode cX10_wordOf 18 = .ok (.iload_n 3, 1) := by decide +kernel
theorem dX10_wordOf_19 : decode cX10_wordOf 19 = .ok (.invokevirtual 148, 3) := by decide +kernel
theorem dX10_wordOf_22 : decode cX10_wordOf 22 = .ok (.i2l, 1) := by decide +kernel
theorem dX10_wordOf_23 : decode cX10_wordOf 23 = .ok (.ladd, 1) := by decide +kernel
theorem dX10_wordOf_24 : decode cX10_wordOf 24 = .ok (.ldc2_w 131, 3) := by decide +kernel
theorem dX10_wordOf_27 : decode cX10_wordOf 27 = .ok (.lsub, 1) := by decide +kernel
theorem dX10_wordOf_28 : decode cX10_wordOf 28 = .ok (.lconst 1, 1) := by decide +kernel
theorem dX10_wordOf_29 : decode cX10_wordOf 29 = .ok (.ladd, 1) := by decide +kernel
theorem dX10_wordOf_30 : decode cX10_wordOf 30 = .ok (.lstore_n 1, 1) := by decide +kernel
theorem dX10_wordOf_31 : decode cX10_wordOf 31 = .ok (.iinc 3 1, 3) := by decide +kernel
theorem dX10_wordOf_34 : decode cX10_wordOf 34 = .ok (.goto (-30), 3) := by decide +kernel
theorem dX10_wordOf_37 : decode cX10_wordOf 37 = .ok (.lload_n 1, 1) := by decide +kernel
theorem dX10_wordOf_38 : decode cX10_wordOf 38 = .ok (.lreturn, 1) := by decide +kernel
theorem dX10_isWord_0 : decode cX10_isWord 0 = .ok (.aload_n 0, 1) := by decide +kernel
theorem dX10_isWord_1 : decode cX10_isWord 1 = .ok (.getfield 99, 3) := by decide +kernel
theorem dX10_isWord_4 : decode cX10_isWord 4 = .ok (.ifCond .ne 27, 3) := by decide +kernel
theorem dX10_isWord_7 : decode cX10_isWord 7 = .ok (.aload_n 0, 1) := by decide +kernel
theorem dX10_isWord_8 : decode cX10_isWord 8 = .ok (.getfield 118, 3) := by decide +kernel
theorem dX10_isWord_11 : decode cX10_isWord 11 = .ok (.iconst 2, 1) := by decide +kernel
theorem dX10_isWord_12 : decode cX10_isWord 12 = .ok (.if_icmp .ne 19, 3) := by decide +kernel
theorem dX10_isWord_15 : decode cX10_isWord 15 = .ok (.aload_n 0, 1) := by decide +kernel
theorem dX10_isWord_16 : decode cX10_isWord 16 = .ok (.getfield 125, 3) := by decide +kernel
theorem dX10_isWord_19 : decode cX10_isWord 19 = .ok (.aload_n 1, 1) := by decide +kernel
theorem dX10_isWord_20 : decode cX10_isWord 20 = .ok (.invokestatic 152, 3) := by decide +kernel
theorem dX10_isWord_23 : decode cX10_isWord 23 = .ok (.lcmp, 1) := by decide +kernel
theorem dX10_isWord_24 : decode cX10_isWord 24 = .ok (.ifCond .ne 7, 3) := by decide +kernel
theorem dX10_isWord_27 : decode cX10_isWord 27 = .ok (.iconst 1, 1) := by decide +kernel
theorem dX10_isWord_28 : decode cX10_isWord 28 = .ok (.goto 4, 3) := by decide +kernel
theorem dX10_isWord_31 : decode cX10_isWord 31 = .ok (.iconst 0, 1) := by decide +kernel
theorem dX10_isWord_32 : decode cX10_isWord 32 = .ok (.ireturn, 1) := by decide +kernel
theorem dX10_isSign_0 : decode cX10_isSign 0 = .ok (.aload_n 0, 1) := by decide +kernel
theorem dX10_isSign_1 : decode cX10_isSign 1 = .ok (.getfield 99, 3) := by decide +kernel
theorem dX10_isSign_4 : decode cX10_isSign 4 = .ok (.ifCond .ne 23, 3) := by decide +kernel
theorem dX10_isSign_7 : decode cX10_isSign 7 = .ok (.aload_n 0, 1) := by decide +kernel
theorem dX10_isSign_8 : decode cX10_isSign 8 = .ok (.getfield 118, 3) := by decide +kernel
theorem dX10_isSign_11 : decode cX10_isSign 11 = .ok (.iconst 4, 1) := by decide +kernel
theorem dX10_isSign_12 : decode cX10_isSign 12 = .ok (.if_icmp .ne 15, 3) := by decide +kernel
theorem dX10_isSign_15 : decode cX10_isSign 15 = .ok (.aload_n 0, 1) := by decide +kernel
theorem dX10_isSign_16 : decode cX10_isSign 16 = .ok (.getfield 139, 3) := by decide +kernel
theorem dX10_isSign_19 : decode cX10_isSign 19 = .ok (.iload_n 1, 1) := by decide +kernel
theorem dX10_isSign_20 : decode cX10_isSign 20 = .ok (.if_icmp .ne 7, 3) := by decide +kernel
theorem dX10_isSign_23 : decode cX10_isSign 23 = .ok (.iconst 1, 1) := by decide +kernel
theorem dX10_isSign_24 : decode cX10_isSign 24 = .ok (.goto 4, 3) := by decide +kernel
theorem dX10_isSign_27 : decode cX10_isSign 27 = .ok (.iconst 0, 1) := by decide +kernel
theorem dX10_isSign_28 : decode cX10_isSign 28 = .ok (.ireturn, 1) := by decide +kernel
theorem dX10_needs_0 : decode cX10_needs 0 = .ok (.aload_n 0, 1) := by decide +kernel
theorem dX10_needs_1 : decode cX10_needs 1 = .ok (.aload_n 1, 1) := by decide +kernel
theorem dX10_needs_2 : decode cX10_needs 2 = .ok (.invokevirtual 156, 3) := by decide +kernel
theorem dX10_needs_5 : decode cX10_needs 5 = .ok (.ifCond .ne 8, 3) := by decide +kernel
theorem dX10_needs_8 : decode cX10_needs 8 = .ok (.aload_n 0, 1) := by decide +kernel
theorem dX10_needs_9 : decode cX10_needs 9 = .ok (.iconst 1, 1) := by decide +kernel
theorem dX10_needs_10 : decode cX10_needs 10 = .ok (.invokevirtual 160, 3) := by decide +kernel
theorem dX10_needs_13 : decode cX10_needs 13 = .ok (.aload_n 0, 1) := by decide +kernel
theorem dX10_needs_14 : decode cX10_needs 14 = .ok (.invokevirtual 164, 3) := by decide +kernel
theorem dX10_needs_17 : decode cX10_needs 17 = .ok (.return_, 1) := by decide +kernel
theorem dX10_passes_0 : decode cX10_passes 0 = .ok (.aload_n 0, 1) := by decide +kernel
theorem dX10_passes_1 : decode cX10_passes 1 = .ok (.aload_n 1, 1) := by decide +kernel
theorem dX10_passes_2 : decode cX10_passes 2 = .ok (.invokevirtual 156, 3) := by decide +kernel
theorem dX10_passes_5 : decode cX10_passes 5 = .ok (.ifCond .ne 5, 3) := by decide +kernel
theorem dX10_passes_8 : decode cX10_passes 8 = .ok (.iconst 0, 1) := by decide +kernel
theorem dX10_passes_9 : decode cX10_passes 9 = .ok (.ireturn, 1) := by decide +kernel
theorem dX10_passes_10 : decode cX10_passes 10 = .ok (.aload_n 0, 1) := by decide +kernel
theorem dX10_passes_11 : decode cX10_passes 11 = .ok (.invokevirtual 164, 3) := by decide +kernel
theorem dX10_passes_14 : decode cX10_passes 14 = .ok (.iconst 1, 1) := by decide +kernel
theorem dX10_passes_15 : decode cX10_passes 15 = .ok (.ireturn, 1) := by decide +kernel
theorem dX10_isOwn_0 : decode cX10_isOwn 0 = .ok (.aload_n 0, 1) := by decide +kernel
theorem dX10_isOwn_1 : decode cX10_isOwn 1 = .ok (.ldc 167, 2) := by decide +kernel
theorem dX10_isOwn_3 : decode cX10_isOwn 3 = .ok (.invokevirtual 156, 3) := by decide +kernel
theorem dX10_isOwn_6 : decode cX10_isOwn 6 = .ok (.ifCond .ne 48, 3) := by decide +kernel
theorem dX10_isOwn_9 : decode cX10_isOwn 9 = .ok (.aload_n 0, 1) := by decide +kernel
theorem dX10_isOwn_10 : decode cX10_isOwn 10 = .ok (.ldc 169, 2) := by decide +kernel
theorem dX10_isOwn_12 : decode cX10_isOwn 12 = .ok (.invokevirtual 156, 3) := by decide +kernel
theorem dX10_isOwn_15 : decode cX10_isOwn 15 = .ok (.ifCond .ne 39, 3) := by decide +kernel
theorem dX10_isOwn_18 : decode cX10_isOwn 18 = .ok (.aload_n 0, 1) := by decide +kernel
theorem dX10_isOwn_19 : decode cX10_isOwn 19 = .ok (.ldc 171, 2) := by decide +kernel
theorem dX10_isOwn_21 : decode cX10_isOwn 21 = .ok (.invokevirtual 156, 3) := by decide +kernel
theorem dX10_isOwn_24 : decode cX10_isOwn 24 = .ok (.ifCond .ne 30, 3) := by decide +kernel
theorem dX10_isOwn_27 : decode cX10_isOwn 27 = .ok (.aload_n 0, 1) := by decide +kernel
theorem dX10_isOwn_28 : decode cX10_isOwn 28 = .ok (.ldc 173, 2) := by decide +kernel
theorem dX10_isOwn_30 : decode cX10_isOwn 30 = .ok (.invokevirtual 156, 3) := by decide +kernel
theorem dX10_isOwn_33 : decode cX10_isOwn 33 = .ok (.ifCond .ne 21, 3) := by decide +kernel
theorem dX10_isOwn_36 : decode cX10_isOwn 36 = .ok (.aload_n 0, 1) := by decide +kernel
theorem dX10_isOwn_37 : decode cX10_isOwn 37 = .ok (.ldc 174, 2) := by decide +kernel
theorem dX10_isOwn_39 : decode cX10_isOwn 39 = .ok (.invokevirtual 156, 3) := by decide +kernel
theorem dX10_isOwn_42 : decode cX10_isOwn 42 = .ok (.ifCond .ne 12, 3) := by decide +kernel
theorem dX10_isOwn_45 : decode cX10_isOwn 45 = .ok (.aload_n 0, 1) := by decide +kernel
theorem dX10_isOwn_46 : decode cX10_isOwn 46 = .ok (.ldc 176, 2) := by decide +kernel
theorem dX10_isOwn_48 : decode cX10_isOwn 48 = .ok (.invokevirtual 156, 3) := by decide +kernel
theorem dX10_isOwn_51 : decode cX10_isOwn 51 = .ok (.ifCond .eq 7, 3) := by decide +kernel
theorem dX10_isOwn_54 : decode cX10_isOwn 54 = .ok (.iconst 1, 1) := by decide +kernel
theorem dX10_isOwn_55 : decode cX10_isOwn 55 = .ok (.goto 4, 3) := by decide +kernel
theorem dX10_isOwn_58 : decode cX10_isOwn 58 = .ok (.iconst 0, 1) := by decide +kernel
theorem dX10_isOwn_59 : decode cX10_isOwn 59 = .ok (.istore_n 1, 1) := by decide +kernel
theorem dX10_isOwn_60 : decode cX10_isOwn 60 = .ok (.iload_n 1, 1) := by decide +kernel
theorem dX10_isOwn_61 : decode cX10_isOwn 61 = .ok (.ifCond .ne 57, 3) := by decide +kernel
theorem dX10_isOwn_64 : decode cX10_isOwn 64 = .ok (.aload_n 0, 1) := by decide +kernel
theorem dX10_isOwn_65 : decode cX10_isOwn 65 = .ok (.ldc 177, 2) := by decide +kernel
theorem dX10_isOwn_67 : decode cX10_isOwn 67 = .ok (.invokevirtual 156, 3) := by decide +kernel
theorem dX10_isOwn_70 : decode cX10_isOwn 70 = .ok (.ifCond .ne 48, 3) := by decide +kernel
theorem dX10_isOwn_73 : decode cX10_isOwn 73 = .ok (.aload_n 0, 1) := by decide +kernel
theorem dX10_isOwn_74 : decode cX10_isOwn 74 = .ok (.ldc 179, 2) := by decide +kernel
theorem dX10_isOwn_76 : decode cX10_isOwn 76 = .ok (.invokevirtual 156, 3) := by decide +kernel
theorem dX10_isOwn_79 : decode cX10_isOwn 79 = .ok (.ifCond .ne 39, 3) := by decide +kernel
theorem dX10_isOwn_82 : decode cX10_isOwn 82 = .ok (.aload_n 0, 1) := by decide +kernel
theorem dX10_isOwn_83 : decode cX10_isOwn 83 = .ok (.ldc 181, 2) := by decide +kernel
theorem dX10_isOwn_85 : decode cX10_isOwn 85 = .ok (.invokevirtual 156, 3) := by decide +kernel
theorem dX10_isOwn_88 : decode cX10_isOwn 88 = .ok (.ifCond .ne 30, 3) := by decide +kernel
theorem dX10_isOwn_91 : decode cX10_isOwn 91 = .ok (.aload_n 0, 1) := by decide +kernel
theorem dX10_isOwn_92 : decode cX10_isOwn 92 = .ok (.ldc 183, 2) := by decide +kernel
theorem dX10_isOwn_94 : decode cX10_isOwn 94 = .ok (.invokevirtual 156, 3) := by decide +kernel
theorem dX10_isOwn_97 : decode cX10_isOwn 97 = .ok (.ifCond .ne 21, 3) := by decide +kernel
theorem dX10_isOwn_100 : decode cX10_isOwn 100 = .ok (.aload_n 0, 1) := by decide +kernel
theorem dX10_isOwn_101 : decode cX10_isOwn 101 = .ok (.ldc 184, 2) := by decide +kernel
theorem dX10_isOwn_103 : decode cX10_isOwn 103 = .ok (.invokevirtual 156, 3) := by decide +kernel
theorem dX10_isOwn_106 : decode cX10_isOwn 106 = .ok (.ifCond .ne 12, 3) := by decide +kernel
theorem dX10_isOwn_109 : decode cX10_isOwn 109 = .ok (.aload_n 0, 1) := by decide +kernel
theorem dX10_isOwn_110 : decode cX10_isOwn 110 = .ok (.ldc 186, 2) := by decide +kernel
theorem dX10_isOwn_112 : decode cX10_isOwn 112 = .ok (.invokevirtual 156, 3) := by decide +kernel
theorem dX10_isOwn_115 : decode cX10_isOwn 115 = .ok (.ifCond .eq 7, 3) := by decide +kernel
theorem dX10_isOwn_118 : decode cX10_isOwn 118 = .ok (.iconst 1, 1) := by decide +kernel
theorem dX10_isOwn_119 : decode cX10_isOwn 119 = .ok (.goto 4, 3) := by decide +kernel
theorem dX10_isOwn_122 : decode cX10_isOwn 122 = .ok (.iconst 0, 1) := by decide +kernel
theorem dX10_isOwn_123 : decode cX10_isOwn 123 = .ok (.ireturn, 1) := by decide +kernel
theorem dX10_readWhole_0 : decode cX10_readWhole 0 = .ok (.aload_n 0, 1) := by decide +kernel
theorem dX10_readWhole_1 : decode cX10_readWhole 1 = .ok (.getfield 118, 3) := by decide +kernel
theorem dX10_readWhole_4 : decode cX10_readWhole 4 = .ok (.iconst 3, 1) := by decide +kernel
theorem dX10_readWhole_5 : decode cX10_readWhole 5 = .ok (.if_icmp .eq 11, 3) := by decide +kernel
theorem dX10_readWhole_8 : decode cX10_readWhole 8 = .ok (.aload_n 0, 1) := by decide +kernel
theorem dX10_readWhole_9 : decode cX10_readWhole 9 = .ok (.iconst 1, 1) := by decide +kernel
theorem dX10_readWhole_10 : decode cX10_readWhole 10 = .ok (.invokevirtual 160, 3) := by decide +kernel
theorem dX10_readWhole_13 : decode cX10_readWhole 13 = .ok (.goto 20, 3) := by decide +kernel
theorem dX10_readWhole_16 : decode cX10_readWhole 16 = .ok (.aload_n 0, 1) := by decide +kernel
theorem dX10_readWhole_17 : decode cX10_readWhole 17 = .ok (.getfield 136, 3) := by decide +kernel
theorem dX10_readWhole_20 : decode cX10_readWhole 20 = .ok (.iload_n 1, 1) := by decide +kernel
theorem dX10_readWhole_21 : decode cX10_readWhole 21 = .ok (.iload_n 2, 1) := by decide +kernel
theorem dX10_readWhole_22 : decode cX10_readWhole 22 = .ok (.invokestatic 111, 3) := by decide +kernel
theorem dX10_readWhole_25 : decode cX10_readWhole 25 = .ok (.ifCond .ne 8, 3) := by decide +kernel
theorem dX10_readWhole_28 : decode cX10_readWhole 28 = .ok (.aload_n 0, 1) := by decide +kernel
theorem dX10_readWhole_29 : decode cX10_readWhole 29 = .ok (.iconst 2, 1) := by decide +kernel
theorem dX10_readWhole_30 : decode cX10_readWhole 30 = .ok (.invokevirtual 160, 3) := by decide +kernel
theorem dX10_readWhole_33 : decode cX10_readWhole 33 = .ok (.aload_n 0, 1) := by decide +kernel
theorem dX10_readWhole_34 : decode cX10_readWhole 34 = .ok (.getfield 136, 3) := by decide +kernel
theorem dX10_readWhole_37 : decode cX10_readWhole 37 = .ok (.istore_n 3, 1) := by decide +kernel
theorem dX10_readWhole_38 : decode cX10_readWhole 38 = .ok (.aload_n 0, 1) := by decide +kernel
theorem dX10_readWhole_39 : decode cX10_readWhole 39 = .ok (.invokevirtual 164, 3) := by decide +kernel
theorem dX10_readWhole_42 : decode cX10_readWhole 42 = .ok (.iload_n 3, 1) := by decide +kernel
theorem dX10_readWhole_43 : decode cX10_readWhole 43 = .ok (.ireturn, 1) := by decide +kernel
theorem dX10_readInt_0 : decode cX10_readInt 0 = .ok (.aload_n 0, 1) := by decide +kernel
theorem dX10_readInt_1 : decode cX10_readInt 1 = .ok (.bipush 45, 2) := by decide +kernel
theorem dX10_readInt_3 : decode cX10_readInt 3 = .ok (.invokevirtual 188, 3) := by decide +kernel
theorem dX10_readInt_6 : decode cX10_readInt 6 = .ok (.istore_n 1, 1) := by decide +kernel
theorem dX10_readInt_7 : decode cX10_readInt 7 = .ok (.iload_n 1, 1) := by decide +kernel
theorem dX10_readInt_8 : decode cX10_readInt 8 = .ok (.ifCond .eq 7, 3) := by decide +kernel
theorem dX10_readInt_11 : decode cX10_readInt 11 = .ok (.aload_n 0, 1) := by decide +kernel
theorem dX10_readInt_12 : decode cX10_readInt 12 = .ok (.invokevirtual 164, 3) := by decide +kernel
theorem dX10_readInt_15 : decode cX10_readInt 15 = .ok (.aload_n 0, 1) := by decide +kernel
theorem dX10_readInt_16 : decode cX10_readInt 16 = .ok (.iconst 0, 1) := by decide +kernel
theorem dX10_readInt_17 : decode cX10_readInt 17 = .ok (.sipush 1000, 3) := by decide +kernel
theorem dX10_readInt_20 : decode cX10_readInt 20 = .ok (.invokevirtual 191, 3) := by decide +kernel
theorem dX10_readInt_23 : decode cX10_readInt 23 = .ok (.istore_n 2, 1) := by decide +kernel
theorem dX10_readInt_24 : decode cX10_readInt 24 = .ok (.iload_n 1, 1) := by decide +kernel
theorem dX10_readInt_25 : decode cX10_readInt 25 = .ok (.ifCond .eq 8, 3) := by decide +kernel
theorem dX10_readInt_28 : decode cX10_readInt 28 = .ok (.iload_n 2, 1) := by decide +kernel
theorem dX10_readInt_29 : decode cX10_readInt 29 = .ok (.ineg, 1) := by decide +kernel
theorem dX10_readInt_30 : decode cX10_readInt 30 = .ok (.goto 4, 3) := by decide +kernel
theorem dX10_readInt_33 : decode cX10_readInt 33 = .ok (.iload_n 2, 1) := by decide +kernel
theorem dX10_readInt_34 : decode cX10_readInt 34 = .ok (.ireturn, 1) := by decide +kernel
theorem dX10_fault_0 : decode cX10_fault 0 = .ok (.aload_n 0, 1) := by decide +kernel
theorem dX10_fault_1 : decode cX10_fault 1 = .ok (.iconst 0, 1) := by decide +kernel
theorem dX10_fault_2 : decode cX10_fault 2 = .ok (.putfield 89, 3) := by decide +kernel
theorem dX10_fault_5 : decode cX10_fault 5 = .ok (.aload_n 0, 1) := by decide +kernel
theorem dX10_fault_6 : decode cX10_fault 6 = .ok (.getfield 99, 3) := by decide +kernel
theorem dX10_fault_9 : decode cX10_fault 9 = .ok (.ireturn, 1) := by decide +kernel
theorem dX10_where_0 : decode cX10_where 0 = .ok (.aload_n 0, 1) := by decide +kernel
theorem dX10_where_1 : decode cX10_where 1 = .ok (.iconst 0, 1) := by decide +kernel
theorem dX10_where_2 : decode cX10_where 2 = .ok (.putfield 89, 3) := by decide +kernel
theorem dX10_where_5 : decode cX10_where 5 = .ok (.aload_n 0, 1) := by decide +kernel
theorem dX10_where_6 : decode cX10_where 6 = .ok (.getfield 9, 3) := by decide +kernel
theorem dX10_where_9 : decode cX10_where 9 = .ok (.ireturn, 1) := by decide +kernel
theorem dX10_readNew_0 : decode cX10_readNew 0 = .ok (.aload_n 0, 1) := by decide +kernel
theorem dX10_readNew_1 : decode cX10_readNew 1 = .ok (.getfield 99, 3) := by decide +kernel
theorem dX10_readNew_4 : decode cX10_readNew 4 = .ok (.ifCond .ne 23, 3) := by decide +kernel
theorem dX10_readNew_7 : decode cX10_readNew 7 = .ok (.aload_n 0, 1) := by decide +kernel
theorem dX10_readNew_8 : decode cX10_readNew 8 = .ok (.getfield 118, 3) := by decide +kernel
theorem dX10_readNew_11 : decode cX10_readNew 11 = .ok (.iconst 2, 1) := by decide +kernel
theorem dX10_readNew_12 : decode cX10_readNew 12 = .ok (.if_icmp .ne 10, 3) := by decide +kernel
theorem dX10_readNew_15 : decode cX10_readNew 15 = .ok (.aload_n 0, 1) := by decide +kernel
theorem dX10_readNew_16 : decode cX10_readNew 16 = .ok (.invokevirtual 195, 3) := by decide +kernel
theorem dX10_readNew_19 : decode cX10_readNew 19 = .ok (.ifCond .eq 8, 3) := by decide +kernel
theorem dX10_readNew_22 : decode cX10_readNew 22 = .ok (.aload_n 0, 1) := by decide +kernel
theorem dX10_readNew_23 : decode cX10_readNew 23 = .ok (.iconst 1, 1) := by decide +kernel
theorem dX10_readNew_24 : decode cX10_readNew 24 = .ok (.invokevirtual 160, 3) := by decide +kernel
theorem dX10_readNew_27 : decode cX10_readNew 27 = .ok (.iconst 0, 1) := by decide +kernel
theorem dX10_readNew_28 : decode cX10_readNew 28 = .ok (.istore_n 1, 1) := by decide +kernel
theorem dX10_readNew_29 : decode cX10_readNew 29 = .ok (.iload_n 1, 1) := by decide +kernel
theorem dX10_readNew_30 : decode cX10_readNew 30 = .ok (.aload_n 0, 1) := by decide +kernel
theorem dX10_readNew_31 : decode cX10_readNew 31 = .ok (.getfield 199, 3) := by decide +kernel
theorem dX10_readNew_34 : decode cX10_readNew 34 = .ok (.if_icmp .ge 30, 3) := by decide +kernel
theorem dX10_readNew_37 : decode cX10_readNew 37 = .ok (.aload_n 0, 1) := by decide +kernel
theorem dX10_readNew_38 : decode cX10_readNew 38 = .ok (.getfield 17, 3) := by decide +kernel
theorem dX10_readNew_41 : decode cX10_readNew 41 = .ok (.iconst 4, 1) := by decide +kernel
theorem dX10_readNew_42 : decode cX10_readNew 42 = .ok (.iload_n 1, 1) := by decide +kernel
theorem dX10_readNew_43 : decode cX10_readNew 43 = .ok (.iadd, 1) := by decide +kernel
theorem dX10_readNew_44 : decode cX10_readNew 44 = .ok (.laload, 1) := by decide +kernel
theorem dX10_readNew_45 : decode cX10_readNew 45 = .ok (.aload_n 0, 1) := by decide +kernel
theorem dX10_readNew_46 : decode cX10_readNew 46 = .ok (.getfield 125, 3) := by decide +kernel
theorem dX10_readNew_49 : decode cX10_readNew 49 = .ok (.lcmp, 1) := by decide +kernel
theorem dX10_readNew_50 : decode cX10_readNew 50 = .ok (.ifCond .ne 8, 3) := by decide +kernel
theorem dX10_readNew_53 : decode cX10_readNew 53 = .ok (.aload_n 0, 1) := by decide +kernel
theorem dX10_readNew_54 : decode cX10_readNew 54 = .ok (.iconst 3, 1) := by decide +kernel
theorem dX10_readNew_55 : decode cX10_readNew 55 = .ok (.invokevirtual 160, 3) := by decide +kernel
theorem dX10_readNew_58 : decode cX10_readNew 58 = .ok (.iinc 1 1, 3) := by decide +kernel
theorem dX10_readNew_61 : decode cX10_readNew 61 = .ok (.goto (-32), 3) := by decide +kernel
theorem dX10_readNew_64 : decode cX10_readNew 64 = .ok (.iconst 0, 1) := by decide +kernel
theorem dX10_readNew_65 : decode cX10_readNew 65 = .ok (.istore_n 1, 1) := by decide +kernel
theorem dX10_readNew_66 : decode cX10_readNew 66 = .ok (.iload_n 1, 1) := by decide +kernel
theorem dX10_readNew_67 : decode cX10_readNew 67 = .ok (.aload_n 0, 1) := by decide +kernel
theorem dX10_readNew_68 : decode cX10_readNew 68 = .ok (.getfield 202, 3) := by decide +kernel
theorem dX10_readNew_71 : decode cX10_readNew 71 = .ok (.if_icmp .ge 30, 3) := by decide +kernel
theorem dX10_readNew_74 : decode cX10_readNew 74 = .ok (.aload_n 0, 1) := by decide +kernel
theorem dX10_readNew_75 : decode cX10_readNew 75 = .ok (.getfield 21, 3) := by decide +kernel
theorem dX10_readNew_78 : decode cX10_readNew 78 = .ok (.iconst 4, 1) := by decide +kernel
theorem dX10_readNew_79 : decode cX10_readNew 79 = .ok (.iload_n 1, 1) := by decide +kernel
theorem dX10_readNew_80 : decode cX10_readNew 80 = .ok (.iadd, 1) := by decide +kernel
theorem dX10_readNew_81 : decode cX10_readNew 81 = .ok (.laload, 1) := by decide +kernel
theorem dX10_readNew_82 : decode cX10_readNew 82 = .ok (.aload_n 0, 1) := by decide +kernel
theorem dX10_readNew_83 : decode cX10_readNew 83 = .ok (.getfield 125, 3) := by decide +kernel
theorem dX10_readNew_86 : decode cX10_readNew 86 = .ok (.lcmp, 1) := by decide +kernel
theorem dX10_readNew_87 : decode cX10_readNew 87 = .ok (.ifCond .ne 8, 3) := by decide +kernel
theorem dX10_readNew_90 : decode cX10_readNew 90 = .ok (.aload_n 0, 1) := by decide +kernel
theorem dX10_readNew_91 : decode cX10_readNew 91 = .ok (.iconst 3, 1) := by decide +kernel
theorem dX10_readNew_92 : decode cX10_readNew 92 = .ok (.invokevirtual 160, 3) := by decide +kernel
theorem dX10_readNew_95 : decode cX10_readNew 95 = .ok (.iinc 1 1, 3) := by decide +kernel
theorem dX10_readNew_98 : decode cX10_readNew 98 = .ok (.goto (-32), 3) := by decide +kernel
theorem dX10_readNew_101 : decode cX10_readNew 101 = .ok (.aload_n 0, 1) := by decide +kernel
theorem dX10_readNew_102 : decode cX10_readNew 102 = .ok (.getfield 125, 3) := by decide +kernel
theorem dX10_readNew_105 : decode cX10_readNew 105 = .ok (.lstore_n 1, 1) := by decide +kernel
theorem dX10_readNew_106 : decode cX10_readNew 106 = .ok (.aload_n 0, 1) := by decide +kernel
theorem dX10_readNew_107 : decode cX10_readNew 107 = .ok (.invokevirtual 164, 3) := by decide +kernel
theorem dX10_readNew_110 : decode cX10_readNew 110 = .ok (.lload_n 1, 1) := by decide +kernel
theorem dX10_readNew_111 : decode cX10_readNew 111 = .ok (.lreturn, 1) := by decide +kernel
theorem dX10_readLoop_0 : decode cX10_readLoop 0 = .ok (.aload_n 0, 1) := by decide +kernel
theorem dX10_readLoop_1 : decode cX10_readLoop 1 = .ok (.getfield 199, 3) := by decide +kernel
theorem dX10_readLoop_4 : decode cX10_readLoop 4 = .ok (.iconst 4, 1) := by decide +kernel
theorem dX10_readLoop_5 : decode cX10_readLoop 5 = .ok (.if_icmp .ne 8, 3) := by decide +kernel
theorem dX10_readLoop_8 : decode cX10_readLoop 8 = .ok (.aload_n 0, 1) := by decide +kernel
theorem dX10_readLoop_9 : decode cX10_readLoop 9 = .ok (.iconst 4, 1) := by decide +kernel
theorem dX10_readLoop_10 : decode cX10_readLoop 10 = .ok (.invokevirtual 160, 3) := by decide +kernel
theorem dX10_readLoop_13 : decode cX10_readLoop 13 = .ok (.aload_n 0, 1) := by decide +kernel
theorem dX10_readLoop_14 : decode cX10_readLoop 14 = .ok (.invokevirtual 164, 3) := by decide +kernel
theorem dX10_readLoop_17 : decode cX10_readLoop 17 = .ok (.aload_n 0, 1) := by decide +kernel
theorem dX10_readLoop_18 : decode cX10_readLoop 18 = .ok (.invokevirtual 205, 3) := by decide +kernel
theorem dX10_readLoop_21 : decode cX10_readLoop 21 = .ok (.lstore_n 1, 1) := by decide +kernel
theorem dX10_readLoop_22 : decode cX10_readLoop 22 = .ok (.aload_n 0, 1) := by decide +kernel
theorem dX10_readLoop_23 : decode cX10_readLoop 23 = .ok (.ldc 171, 2) := by decide +kernel
theorem dX10_readLoop_25 : decode cX10_readLoop 25 = .ok (.invokevirtual 209, 3) := by decide +kernel
theorem dX10_readLoop_28 : decode cX10_readLoop 28 = .ok (.iconst 4, 1) := by decide +kernel
theorem dX10_readLoop_29 : decode cX10_readLoop 29 = .ok (.aload_n 0, 1) := by decide +kernel
theorem dX10_readLoop_30 : decode cX10_readLoop 30 = .ok (.getfield 199, 3) := by decide +kernel
theorem dX10_readLoop_33 : decode cX10_readLoop 33 = .ok (.iadd, 1) := by decide +kernel
theorem dX10_readLoop_34 : decode cX10_readLoop 34 = .ok (.istore_n 3, 1) := by decide +kernel
theorem dX10_readLoop_35 : decode cX10_readLoop 35 = .ok (.aload_n 0, 1) := by decide +kernel
theorem dX10_readLoop_36 : decode cX10_readLoop 36 = .ok (.getfield 99, 3) := by decide +kernel
theorem dX10_readLoop_39 : decode cX10_readLoop 39 = .ok (.ifCond .le 4, 3) := by decide +kernel
theorem dX10_readLoop_42 : decode cX10_readLoop 42 = .ok (.return_, 1) := by decide +kernel
theorem dX10_readLoop_43 : decode cX10_readLoop 43 = .ok (.aload_n 0, 1) := by decide +kernel
theorem dX10_readLoop_44 : decode cX10_readLoop 44 = .ok (.getfield 24, 3) := by decide +kernel
theorem dX10_readLoop_47 : decode cX10_readLoop 47 = .ok (.iload_n 3, 1) := by decide +kernel
theorem dX10_readLoop_48 : decode cX10_readLoop 48 = .ok (.iconst 0, 1) := by decide +kernel
theorem dX10_readLoop_49 : decode cX10_readLoop 49 = .ok (.iastore, 1) := by decide +kernel
theorem dX10_readLoop_50 : decode cX10_readLoop 50 = .ok (.iconst 1, 1) := by decide +kernel
theorem dX10_readLoop_51 : decode cX10_readLoop 51 = .ok (.istore 4, 2) := by decide +kernel
theorem dX10_readLoop_53 : decode cX10_readLoop 53 = .ok (.iload 4, 2) := by decide +kernel
theorem dX10_readLoop_55 : decode cX10_readLoop 55 = .ok (.ifCond .eq 107, 3) := by decide +kernel
theorem dX10_readLoop_58 : decode cX10_readLoop 58 = .ok (.aload_n 0, 1) := by decide +kernel
theorem dX10_readLoop_59 : decode cX10_readLoop 59 = .ok (.getfield 118, 3) := by decide +kernel
theorem dX10_readLoop_62 : decode cX10_readLoop 62 = .ok (.iconst 3, 1) := by decide +kernel
theorem dX10_readLoop_63 : decode cX10_readLoop 63 = .ok (.if_icmp .ne 31, 3) := by decide +kernel
theorem dX10_readLoop_66 : decode cX10_readLoop 66 = .ok (.aload_n 0, 1) := by decide +kernel
theorem dX10_readLoop_67 : decode cX10_readLoop 67 = .ok (.getfield 24, 3) := by decide +kernel
theorem dX10_readLoop_70 : decode cX10_readLoop 70 = .ok (.iload_n 3, 1) := by decide +kernel
theorem dX10_readLoop_71 : decode cX10_readLoop 71 = .ok (.iaload, 1) := by decide +kernel
theorem dX10_readLoop_72 : decode cX10_readLoop 72 = .ok (.iconst 3, 1) := by decide +kernel
theorem dX10_readLoop_73 : decode cX10_readLoop 73 = .ok (.if_icmp .ne 21, 3) := by decide +kernel
theorem dX10_readLoop_76 : decode cX10_readLoop 76 = .ok (.aload_n 0, 1) := by decide +kernel
theorem dX10_readLoop_77 : decode cX10_readLoop 77 = .ok (.getfield 136, 3) := by decide +kernel
theorem dX10_readLoop_80 : decode cX10_readLoop 80 = .ok (.iconst 1, 1) := by decide +kernel
theorem dX10_readLoop_81 : decode cX10_readLoop 81 = .ok (.bipush 32, 2) := by decide +kernel
theorem dX10_readLoop_83 : decode cX10_readLoop 83 = .ok (.invokestatic 111, 3) := by decide +kernel
theorem dX10_readLoop_86 : decode cX10_readLoop 86 = .ok (.ifCond .eq 8, 3) := by decide +kernel
theorem dX10_readLoop_89 : decode cX10_readLoop 89 = .ok (.aload_n 0, 1) := by decide +kernel
theorem dX10_readLoop_90 : decode cX10_readLoop 90 = .ok (.iconst 4, 1) := by decide +kernel
theorem dX10_readLoop_91 : decode cX10_readLoop 91 = .ok (.invokevirtual 160, 3) := by decide +kernel
theorem dX10_readLoop_94 : decode cX10_readLoop 94 = .ok (.aload_n 0, 1) := by decide +kernel
theorem dX10_readLoop_95 : decode cX10_readLoop 95 = .ok (.iconst 1, 1) := by decide +kernel
theorem dX10_readLoop_96 : decode cX10_readLoop 96 = .ok (.bipush 32, 2) := by decide +kernel
theorem dX10_readLoop_98 : decode cX10_readLoop 98 = .ok (.invokevirtual 191, 3) := by decide +kernel
theorem dX10_readLoop_101 : decode cX10_readLoop 101 = .ok (.istore 5, 2) := by decide +kernel
theorem dX10_readLoop_103 : decode cX10_readLoop 103 = .ok (.aload_n 0, 1) := by decide +kernel
theorem dX10_readLoop_104 : decode cX10_readLoop 104 = .ok (.getfield 99, 3) := by decide +kernel
theorem dX10_readLoop_107 : decode cX10_readLoop 107 = .ok (.ifCond .ne 30, 3) := by decide +kernel
theorem dX10_readLoop_110 : decode cX10_readLoop 110 = .ok (.aload_n 0, 1) := by decide +kernel
theorem dX10_readLoop_111 : decode cX10_readLoop 111 = .ok (.getfield 27, 3) := by decide +kernel
theorem dX10_readLoop_114 : decode cX10_readLoop 114 = .ok (.iconst 3, 1) := by decide +kernel
theorem dX10_readLoop_115 : decode cX10_readLoop 115 = .ok (.iload_n 3, 1) := by decide +kernel
theorem dX10_readLoop_116 : decode cX10_readLoop 116 = .ok (.imul, 1) := by decide +kernel
theorem dX10_readLoop_117 : decode cX10_readLoop 117 = .ok (.aload_n 0, 1) := by decide +kernel
theorem dX10_readLoop_118 : decode cX10_readLoop 118 = .ok (.getfield 24, 3) := by decide +kernel
theorem dX10_readLoop_121 : decode cX10_readLoop 121 = .ok (.iload_n 3, 1) := by decide +kernel
theorem dX10_readLoop_122 : decode cX10_readLoop 122 = .ok (.iaload, 1) := by decide +kernel
theorem dX10_readLoop_123 : decode cX10_readLoop 123 = .ok (.iadd, 1) := by decide +kernel
theorem dX10_readLoop_124 : decode cX10_readLoop 124 = .ok (.iload 5, 2) := by decide +kernel
theorem dX10_readLoop_126 : decode cX10_readLoop 126 = .ok (.iastore, 1) := by decide +kernel
theorem dX10_readLoop_127 : decode cX10_readLoop 127 = .ok (.aload_n 0, 1) := by decide +kernel
theorem dX10_readLoop_128 : decode cX10_readLoop 128 = .ok (.getfield 24, 3) := by decide +kernel
theorem dX10_readLoop_131 : decode cX10_readLoop 131 = .ok (.iload_n 3, 1) := by decide +kernel
theorem dX10_readLoop_132 : decode cX10_readLoop 132 = .ok (.dup2, 1) := by decide +kernel
theorem dX10_readLoop_133 : decode cX10_readLoop 133 = .ok (.iaload, 1) := by decide +kernel
theorem dX10_readLoop_134 : decode cX10_readLoop 134 = .ok (.iconst 1, 1) := by decide +kernel
theorem dX10_readLoop_135 : decode cX10_readLoop 135 = .ok (.iadd, 1) := by decide +kernel
theorem dX10_readLoop_136 : decode cX10_readLoop 136 = .ok (.iastore, 1) := by decide +kernel
theorem dX10_readLoop_137 : decode cX10_readLoop 137 = .ok (.aload_n 0, 1) := by decide +kernel
theorem dX10_readLoop_138 : decode cX10_readLoop 138 = .ok (.getfield 99, 3) := by decide +kernel
theorem dX10_readLoop_141 : decode cX10_readLoop 141 = .ok (.ifCond .ne 15, 3) := by decide +kernel
theorem dX10_readLoop_144 : decode cX10_readLoop 144 = .ok (.aload_n 0, 1) := by decide +kernel
theorem dX10_readLoop_145 : decode cX10_readLoop 145 = .ok (.getfield 118, 3) := by decide +kernel
theorem dX10_readLoop_148 : decode cX10_readLoop 148 = .ok (.iconst 3, 1) := by decide +kernel
theorem dX10_readLoop_149 : decode cX10_readLoop 149 = .ok (.if_icmp .ne 7, 3) := by decide +kernel
theorem dX10_readLoop_152 : decode cX10_readLoop 152 = .ok (.iconst 1, 1) := by decide +kernel
theorem dX10_readLoop_153 : decode cX10_readLoop 153 = .ok (.goto 4, 3) := by decide +kernel
theorem dX10_readLoop_156 : decode cX10_readLoop 156 = .ok (.iconst 0, 1) := by decide +kernel
theorem dX10_readLoop_157 : decode cX10_readLoop 157 = .ok (.istore 4, 2) := by decide +kernel
theorem dX10_readLoop_159 : decode cX10_readLoop 159 = .ok (.goto (-106), 3) := by decide +kernel
theorem dX10_readLoop_162 : decode cX10_readLoop 162 = .ok (.aload_n 0, 1) := by decide +kernel
theorem dX10_readLoop_163 : decode cX10_readLoop 163 = .ok (.ldc 173, 2) := by decide +kernel
theorem dX10_readLoop_165 : decode cX10_readLoop 165 = .ok (.invokevirtual 209, 3) := by decide +kernel
theorem dX10_readLoop_168 : decode cX10_readLoop 168 = .ok (.aload_n 0, 1) := by decide +kernel
theorem dX10_readLoop_169 : decode cX10_readLoop 169 = .ok (.getfield 30, 3) := by decide +kernel
theorem dX10_readLoop_172 : decode cX10_readLoop 172 = .ok (.iload_n 3, 1) := by decide +kernel
theorem dX10_readLoop_173 : decode cX10_readLoop 173 = .ok (.aload_n 0, 1) := by decide +kernel
theorem dX10_readLoop_174 : decode cX10_readLoop 174 = .ok (.sipush 1000, 3) := by decide +kernel
theorem dX10_readLoop_177 : decode cX10_readLoop 177 = .ok (.sipush 9999, 3) := by decide +kernel
theorem dX10_readLoop_180 : decode cX10_readLoop 180 = .ok (.invokevirtual 191, 3) := by decide +kernel
theorem dX10_readLoop_183 : decode cX10_readLoop 183 = .ok (.iastore, 1) := by decide +kernel
theorem dX10_readLoop_184 : decode cX10_readLoop 184 = .ok (.aload_n 0, 1) := by decide +kernel
theorem dX10_readLoop_185 : decode cX10_readLoop 185 = .ok (.getfield 39, 3) := by decide +kernel
theorem dX10_readLoop_188 : decode cX10_readLoop 188 = .ok (.iload_n 3, 1) := by decide +kernel
theorem dX10_readLoop_189 : decode cX10_readLoop 189 = .ok (.aload_n 0, 1) := by decide +kernel
theorem dX10_readLoop_190 : decode cX10_readLoop 190 = .ok (.ldc 174, 2) := by decide +kernel
theorem dX10_readLoop_192 : decode cX10_readLoop 192 = .ok (.invokevirtual 213, 3) := by decide +kernel
theorem dX10_readLoop_195 : decode cX10_readLoop 195 = .ok (.bastore, 1) := by decide +kernel
theorem dX10_readLoop_196 : decode cX10_readLoop 196 = .ok (.aload_n 0, 1) := by decide +kernel
theorem dX10_readLoop_197 : decode cX10_readLoop 197 = .ok (.getfield 33, 3) := by decide +kernel
theorem dX10_readLoop_200 : decode cX10_readLoop 200 = .ok (.iload_n 3, 1) := by decide +kernel
theorem dX10_readLoop_201 : decode cX10_readLoop 201 = .ok (.aload_n 0, 1) := by decide +kernel
theorem dX10_readLoop_202 : decode cX10_readLoop 202 = .ok (.ldc 176, 2) := by decide +kernel
theorem dX10_readLoop_204 : decode cX10_readLoop 204 = .ok (.invokevirtual 213, 3) := by decide +kernel
theorem dX10_readLoop_207 : decode cX10_readLoop 207 = .ok (.ifCond .eq 14, 3) := by decide +kernel
theorem dX10_readLoop_210 : decode cX10_readLoop 210 = .ok (.aload_n 0, 1) := by decide +kernel
theorem dX10_readLoop_211 : decode cX10_readLoop 211 = .ok (.iconst 1, 1) := by decide +kernel
theorem dX10_readLoop_212 : decode cX10_readLoop 212 = .ok (.sipush 999, 3) := by decide +kernel
theorem dX10_readLoop_215 : decode cX10_readLoop 215 = .ok (.invokevirtual 191, 3) := by decide +kernel
theorem dX10_readLoop_218 : decode cX10_readLoop 218 = .ok (.goto 4, 3) := by decide +kernel
theorem dX10_readLoop_221 : decode cX10_readLoop 221 = .ok (.iconst 0, 1) := by decide +kernel
theorem dX10_readLoop_222 : decode cX10_readLoop 222 = .ok (.iastore, 1) := by decide +kernel
theorem dX10_readLoop_223 : decode cX10_readLoop 223 = .ok (.aload_n 0, 1) := by decide +kernel
theorem dX10_readLoop_224 : decode cX10_readLoop 224 = .ok (.getfield 99, 3) := by decide +kernel
theorem dX10_readLoop_227 : decode cX10_readLoop 227 = .ok (.ifCond .le 4, 3) := by decide +kernel
theorem dX10_readLoop_230 : decode cX10_readLoop 230 = .ok (.return_, 1) := by decide +kernel
theorem dX10_readLoop_231 : decode cX10_readLoop 231 = .ok (.aload_n 0, 1) := by decide +kernel
theorem dX10_readLoop_232 : decode cX10_readLoop 232 = .ok (.getfield 17, 3) := by decide +kernel
theorem dX10_readLoop_235 : decode cX10_readLoop 235 = .ok (.iload_n 3, 1) := by decide +kernel
theorem dX10_readLoop_236 : decode cX10_readLoop 236 = .ok (.lload_n 1, 1) := by decide +kernel
theorem dX10_readLoop_237 : decode cX10_readLoop 237 = .ok (.lastore, 1) := by decide +kernel
theorem dX10_readLoop_238 : decode cX10_readLoop 238 = .ok (.aload_n 0, 1) := by decide +kernel
theorem dX10_readLoop_239 : decode cX10_readLoop 239 = .ok (.dup, 1) := by decide +kernel
theorem dX10_readLoop_240 : decode cX10_readLoop 240 = .ok (.getfield 199, 3) := by decide +kernel
theorem dX10_readLoop_243 : decode cX10_readLoop 243 = .ok (.iconst 1, 1) := by decide +kernel
theorem dX10_readLoop_244 : decode cX10_readLoop 244 = .ok (.iadd, 1) := by decide +kernel
theorem dX10_readLoop_245 : decode cX10_readLoop 245 = .ok (.putfield 199, 3) := by decide +kernel
theorem dX10_readLoop_248 : decode cX10_readLoop 248 = .ok (.return_, 1) := by decide +kernel
theorem dX10_readPiece_0 : decode cX10_readPiece 0 = .ok (.aload_n 0, 1) := by decide +kernel
theorem dX10_readPiece_1 : decode cX10_readPiece 1 = .ok (.ldc 177, 2) := by decide +kernel
theorem dX10_readPiece_3 : decode cX10_readPiece 3 = .ok (.invokevirtual 156, 3) := by decide +kernel
theorem dX10_readPiece_6 : decode cX10_readPiece 6 = .ok (.istore_n 2, 1) := by decide +kernel
theorem dX10_readPiece_7 : decode cX10_readPiece 7 = .ok (.aload_n 0, 1) := by decide +kernel
theorem dX10_readPiece_8 : decode cX10_readPiece 8 = .ok (.ldc 179, 2) := by decide +kernel
theorem dX10_readPiece_10 : decode cX10_readPiece 10 = .ok (.invokevirtual 156, 3) := by decide +kernel
theorem dX10_readPiece_13 : decode cX10_readPiece 13 = .ok (.istore_n 3, 1) := by decide +kernel
theorem dX10_readPiece_14 : decode cX10_readPiece 14 = .ok (.iload_n 2, 1) := by decide +kernel
theorem dX10_readPiece_15 : decode cX10_readPiece 15 = .ok (.ifCond .ne 21, 3) := by decide +kernel
theorem dX10_readPiece_18 : decode cX10_readPiece 18 = .ok (.iload_n 3, 1) := by decide +kernel
theorem dX10_readPiece_19 : decode cX10_readPiece 19 = .ok (.ifCond .ne 17, 3) := by decide +kernel
theorem dX10_readPiece_22 : decode cX10_readPiece 22 = .ok (.aload_n 0, 1) := by decide +kernel
theorem dX10_readPiece_23 : decode cX10_readPiece 23 = .ok (.ldc 181, 2) := by decide +kernel
theorem dX10_readPiece_25 : decode cX10_readPiece 25 = .ok (.invokevirtual 156, 3) := by decide +kernel
theorem dX10_readPiece_28 : decode cX10_readPiece 28 = .ok (.ifCond .ne 8, 3) := by decide +kernel
theorem dX10_readPiece_31 : decode cX10_readPiece 31 = .ok (.aload_n 0, 1) := by decide +kernel
theorem dX10_readPiece_32 : decode cX10_readPiece 32 = .ok (.iconst 1, 1) := by decide +kernel
theorem dX10_readPiece_33 : decode cX10_readPiece 33 = .ok (.invokevirtual 160, 3) := by decide +kernel
theorem dX10_readPiece_36 : decode cX10_readPiece 36 = .ok (.aload_n 0, 1) := by decide +kernel
theorem dX10_readPiece_37 : decode cX10_readPiece 37 = .ok (.getfield 36, 3) := by decide +kernel
theorem dX10_readPiece_40 : decode cX10_readPiece 40 = .ok (.iload_n 1, 1) := by decide +kernel
theorem dX10_readPiece_41 : decode cX10_readPiece 41 = .ok (.iaload, 1) := by decide +kernel
theorem dX10_readPiece_42 : decode cX10_readPiece 42 = .ok (.bipush 8, 2) := by decide +kernel
theorem dX10_readPiece_44 : decode cX10_readPiece 44 = .ok (.if_icmp .ne 8, 3) := by decide +kernel
theorem dX10_readPiece_47 : decode cX10_readPiece 47 = .ok (.aload_n 0, 1) := by decide +kernel
theorem dX10_readPiece_48 : decode cX10_readPiece 48 = .ok (.iconst 4, 1) := by decide +kernel
theorem dX10_readPiece_49 : decode cX10_readPiece 49 = .ok (.invokevirtual 160, 3) := by decide +kernel
theorem dX10_readPiece_52 : decode cX10_readPiece 52 = .ok (.aload_n 0, 1) := by decide +kernel
theorem dX10_readPiece_53 : decode cX10_readPiece 53 = .ok (.invokevirtual 164, 3) := by decide +kernel
theorem dX10_readPiece_56 : decode cX10_readPiece 56 = .ok (.bipush 8, 2) := by decide +kernel
theorem dX10_readPiece_58 : decode cX10_readPiece 58 = .ok (.iload_n 1, 1) := by decide +kernel
theorem dX10_readPiece_59 : decode cX10_readPiece 59 = .ok (.imul, 1) := by decide +kernel
theorem dX10_readPiece_60 : decode cX10_readPiece 60 = .ok (.aload_n 0, 1) := by decide +kernel
theorem dX10_readPiece_61 : decode cX10_readPiece 61 = .ok (.getfield 36, 3) := by decide +kernel
theorem dX10_readPiece_64 : decode cX10_readPiece 64 = .ok (.iload_n 1, 1) := by decide +kernel
theorem dX10_readPiece_65 : decode cX10_readPiece 65 = .ok (.iaload, 1) := by decide +kernel
theorem dX10_readPiece_66 : decode cX10_readPiece 66 = .ok (.iadd, 1) := by decide +kernel
theorem dX10_readPiece_67 : decode cX10_readPiece 67 = .ok (.istore 4, 2) := by decide +kernel
theorem dX10_readPiece_69 : decode cX10_readPiece 69 = .ok (.aload_n 0, 1) := by decide +kernel
theorem dX10_readPiece_70 : decode cX10_readPiece 70 = .ok (.invokevirtual 216, 3) := by decide +kernel
theorem dX10_readPiece_73 : decode cX10_readPiece 73 = .ok (.istore 5, 2) := by decide +kernel
theorem dX10_readPiece_75 : decode cX10_readPiece 75 = .ok (.iconst 0, 1) := by decide +kernel
theorem dX10_readPiece_76 : decode cX10_readPiece 76 = .ok (.istore 6, 2) := by decide +kernel
theorem dX10_readPiece_78 : decode cX10_readPiece 78 = .ok (.iload_n 3, 1) := by decide +kernel
theorem dX10_readPiece_79 : decode cX10_readPiece 79 = .ok (.ifCond .eq 18, 3) := by decide +kernel
theorem dX10_readPiece_82 : decode cX10_readPiece 82 = .ok (.aload_n 0, 1) := by decide +kernel
theorem dX10_readPiece_83 : decode cX10_readPiece 83 = .ok (.ldc 183, 2) := by decide +kernel
theorem dX10_readPiece_85 : decode cX10_readPiece 85 = .ok (.invokevirtual 209, 3) := by decide +kernel
theorem dX10_readPiece_88 : decode cX10_readPiece 88 = .ok (.aload_n 0, 1) := by decide +kernel
theorem dX10_readPiece_89 : decode cX10_readPiece 89 = .ok (.invokevirtual 216, 3) := by decide +kernel
theorem dX10_readPiece_92 : decode cX10_readPiece 92 = .ok (.istore 6, 2) := by decide +kernel
theorem dX10_readPiece_94 : decode cX10_readPiece 94 = .ok (.goto 22, 3) := by decide +kernel
theorem dX10_readPiece_97 : decode cX10_readPiece 97 = .ok (.iload_n 2, 1) := by decide +kernel
theorem dX10_readPiece_98 : decode cX10_readPiece 98 = .ok (.ifCond .ne 18, 3) := by decide +kernel
theorem dX10_readPiece_101 : decode cX10_readPiece 101 = .ok (.aload_n 0, 1) := by decide +kernel
theorem dX10_readPiece_102 : decode cX10_readPiece 102 = .ok (.ldc 184, 2) := by decide +kernel
theorem dX10_readPiece_104 : decode cX10_readPiece 104 = .ok (.invokevirtual 209, 3) := by decide +kernel
theorem dX10_readPiece_107 : decode cX10_readPiece 107 = .ok (.aload_n 0, 1) := by decide +kernel
theorem dX10_readPiece_108 : decode cX10_readPiece 108 = .ok (.iconst 2, 1) := by decide +kernel
theorem dX10_readPiece_109 : decode cX10_readPiece 109 = .ok (.bipush 99, 2) := by decide +kernel
theorem dX10_readPiece_111 : decode cX10_readPiece 111 = .ok (.invokevirtual 191, 3) := by decide +kernel
theorem dX10_readPiece_114 : decode cX10_readPiece 114 = .ok (.istore 6, 2) := by decide +kernel
theorem dX10_readPiece_116 : decode cX10_readPiece 116 = .ok (.aload_n 0, 1) := by decide +kernel
theorem dX10_readPiece_117 : decode cX10_readPiece 117 = .ok (.ldc 186, 2) := by decide +kernel
theorem dX10_readPiece_119 : decode cX10_readPiece 119 = .ok (.invokevirtual 209, 3) := by decide +kernel
theorem dX10_readPiece_122 : decode cX10_readPiece 122 = .ok (.aload_n 0, 1) := by decide +kernel
theorem dX10_readPiece_123 : decode cX10_readPiece 123 = .ok (.iconst 1, 1) := by decide +kernel
theorem dX10_readPiece_124 : decode cX10_readPiece 124 = .ok (.sipush 500, 3) := by decide +kernel
theorem dX10_readPiece_127 : decode cX10_readPiece 127 = .ok (.invokevirtual 191, 3) := by decide +kernel
theorem dX10_readPiece_130 : decode cX10_readPiece 130 = .ok (.istore 7, 2) := by decide +kernel
theorem dX10_readPiece_132 : decode cX10_readPiece 132 = .ok (.aload_n 0, 1) := by decide +kernel
theorem dX10_readPiece_133 : decode cX10_readPiece 133 = .ok (.getfield 99, 3) := by decide +kernel
theorem dX10_readPiece_136 : decode cX10_readPiece 136 = .ok (.ifCond .le 4, 3) := by decide +kernel
theorem dX10_readPiece_139 : decode cX10_readPiece 139 = .ok (.return_, 1) := by decide +kernel
theorem dX10_readPiece_140 : decode cX10_readPiece 140 = .ok (.aload_n 0, 1) := by decide +kernel
theorem dX10_readPiece_141 : decode cX10_readPiece 141 = .ok (.getfield 43, 3) := by decide +kernel
theorem dX10_readPiece_144 : decode cX10_readPiece 144 = .ok (.iload 4, 2) := by decide +kernel
theorem dX10_readPiece_146 : decode cX10_readPiece 146 = .ok (.iload_n 2, 1) := by decide +kernel
theorem dX10_readPiece_147 : decode cX10_readPiece 147 = .ok (.ifCond .eq 7, 3) := by decide +kernel
theorem dX10_readPiece_150 : decode cX10_readPiece 150 = .ok (.iconst 0, 1) := by decide +kernel
theorem dX10_readPiece_151 : decode cX10_readPiece 151 = .ok (.goto 12, 3) := by decide +kernel
theorem dX10_readPiece_154 : decode cX10_readPiece 154 = .ok (.iload_n 3, 1) := by decide +kernel
theorem dX10_readPiece_155 : decode cX10_readPiece 155 = .ok (.ifCond .eq 7, 3) := by decide +kernel
theorem dX10_readPiece_158 : decode cX10_readPiece 158 = .ok (.iconst 1, 1) := by decide +kernel
theorem dX10_readPiece_159 : decode cX10_readPiece 159 = .ok (.goto 4, 3) := by decide +kernel
theorem dX10_readPiece_162 : decode cX10_readPiece 162 = .ok (.iconst 2, 1) := by decide +kernel
theorem dX10_readPiece_163 : decode cX10_readPiece 163 = .ok (.iastore, 1) := by decide +kernel
theorem dX10_readPiece_164 : decode cX10_readPiece 164 = .ok (.aload_n 0, 1) := by decide +kernel
theorem dX10_readPiece_165 : decode cX10_readPiece 165 = .ok (.getfield 46, 3) := by decide +kernel
theorem dX10_readPiece_168 : decode cX10_readPiece 168 = .ok (.iload 4, 2) := by decide +kernel
theorem dX10_readPiece_170 : decode cX10_readPiece 170 = .ok (.iload 5, 2) := by decide +kernel
theorem dX10_readPiece_172 : decode cX10_readPiece 172 = .ok (.iastore, 1) := by decide +kernel
theorem dX10_readPiece_173 : decode cX10_readPiece 173 = .ok (.aload_n 0, 1) := by decide +kernel
theorem dX10_readPiece_174 : decode cX10_readPiece 174 = .ok (.getfield 49, 3) := by decide +kernel
theorem dX10_readPiece_177 : decode cX10_readPiece 177 = .ok (.iload 4, 2) := by decide +kernel
theorem dX10_readPiece_179 : decode cX10_readPiece 179 = .ok (.iload 6, 2) := by decide +kernel
theorem dX10_readPiece_181 : decode cX10_readPiece 181 = .ok (.iastore, 1) := by decide +kernel
theorem dX10_readPiece_182 : decode cX10_readPiece 182 = .ok (.aload_n 0, 1) := by decide +kernel
theorem dX10_readPiece_183 : decode cX10_readPiece 183 = .ok (.getfield 52, 3) := by decide +kernel
theorem dX10_readPiece_186 : decode cX10_readPiece 186 = .ok (.iload 4, 2) := by decide +kernel
theorem dX10_readPiece_188 : decode cX10_readPiece 188 = .ok (.iload 7, 2) := by decide +kernel
theorem dX10_readPiece_190 : decode cX10_readPiece 190 = .ok (.iastore, 1) := by decide +kernel
theorem dX10_readPiece_191 : decode cX10_readPiece 191 = .ok (.aload_n 0, 1) := by decide +kernel
theorem dX10_readPiece_192 : decode cX10_readPiece 192 = .ok (.getfield 36, 3) := by decide +kernel
theorem dX10_readPiece_195 : decode cX10_readPiece 195 = .ok (.iload_n 1, 1) := by decide +kernel
theorem dX10_readPiece_196 : decode cX10_readPiece 196 = .ok (.dup2, 1) := by decide +kernel
theorem dX10_readPiece_197 : decode cX10_readPiece 197 = .ok (.iaload, 1) := by decide +kernel
theorem dX10_readPiece_198 : decode cX10_readPiece 198 = .ok (.iconst 1, 1) := by decide +kernel
theorem dX10_readPiece_199 : decode cX10_readPiece 199 = .ok (.iadd, 1) := by decide +kernel
theorem dX10_readPiece_200 : decode cX10_readPiece 200 = .ok (.iastore, 1) := by decide +kernel
theorem dX10_readPiece_201 : decode cX10_readPiece 201 = .ok (.return_, 1) := by decide +kernel
theorem dX10_readWave_0 : decode cX10_readWave 0 = .ok (.aload_n 0, 1) := by decide +kernel
theorem dX10_readWave_1 : decode cX10_readWave 1 = .ok (.getfield 202, 3) := by decide +kernel
theorem dX10_readWave_4 : decode cX10_readWave 4 = .ok (.iconst 4, 1) := by decide +kernel
theorem dX10_readWave_5 : decode cX10_readWave 5 = .ok (.if_icmp .ne 8, 3) := by decide +kernel
theorem dX10_readWave_8 : decode cX10_readWave 8 = .ok (.aload_n 0, 1) := by decide +kernel
theorem dX10_readWave_9 : decode cX10_readWave 9 = .ok (.iconst 4, 1) := by decide +kernel
theorem dX10_readWave_10 : decode cX10_readWave 10 = .ok (.invokevirtual 160, 3) := by decide +kernel
theorem dX10_readWave_13 : decode cX10_readWave 13 = .ok (.aload_n 0, 1) := by decide +kernel
theorem dX10_readWave_14 : decode cX10_readWave 14 = .ok (.invokevirtual 164, 3) := by decide +kernel
theorem dX10_readWave_17 : decode cX10_readWave 17 = .ok (.aload_n 0, 1) := by decide +kernel
theorem dX10_readWave_18 : decode cX10_readWave 18 = .ok (.invokevirtual 205, 3) := by decide +kernel
theorem dX10_readWave_21 : decode cX10_readWave 21 = .ok (.lstore_n 1, 1) := by decide +kernel
theorem dX10_readWave_22 : decode cX10_readWave 22 = .ok (.aload_n 0, 1) := by decide +kernel
theorem dX10_readWave_23 : decode cX10_readWave 23 = .ok (.getfield 99, 3) := by decide +kernel
theorem dX10_readWave_26 : decode cX10_readWave 26 = .ok (.ifCond .le 4, 3) := by decide +kernel
theorem dX10_readWave_29 : decode cX10_readWave 29 = .ok (.return_, 1) := by decide +kernel
theorem dX10_readWave_30 : decode cX10_readWave 30 = .ok (.iconst 4, 1) := by decide +kernel
theorem dX10_readWave_31 : decode cX10_readWave 31 = .ok (.aload_n 0, 1) := by decide +kernel
theorem dX10_readWave_32 : decode cX10_readWave 32 = .ok (.getfield 202, 3) := by decide +kernel
theorem dX10_readWave_35 : decode cX10_readWave 35 = .ok (.iadd, 1) := by decide +kernel
theorem dX10_readWave_36 : decode cX10_readWave 36 = .ok (.istore_n 3, 1) := by decide +kernel
theorem dX10_readWave_37 : decode cX10_readWave 37 = .ok (.aload_n 0, 1) := by decide +kernel
theorem dX10_readWave_38 : decode cX10_readWave 38 = .ok (.getfield 36, 3) := by decide +kernel
theorem dX10_readWave_41 : decode cX10_readWave 41 = .ok (.iload_n 3, 1) := by decide +kernel
theorem dX10_readWave_42 : decode cX10_readWave 42 = .ok (.iconst 0, 1) := by decide +kernel
theorem dX10_readWave_43 : decode cX10_readWave 43 = .ok (.iastore, 1) := by decide +kernel
theorem dX10_readWave_44 : decode cX10_readWave 44 = .ok (.aload_n 0, 1) := by decide +kernel
theorem dX10_readWave_45 : decode cX10_readWave 45 = .ok (.iload_n 3, 1) := by decide +kernel
theorem dX10_readWave_46 : decode cX10_readWave 46 = .ok (.invokevirtual 219, 3) := by decide +kernel
theorem dX10_readWave_49 : decode cX10_readWave 49 = .ok (.aload_n 0, 1) := by decide +kernel
theorem dX10_readWave_50 : decode cX10_readWave 50 = .ok (.bipush 44, 2) := by decide +kernel
theorem dX10_readWave_52 : decode cX10_readWave 52 = .ok (.invokevirtual 188, 3) := by decide +kernel
theorem dX10_readWave_55 : decode cX10_readWave 55 = .ok (.ifCond .eq 15, 3) := by decide +kernel
theorem dX10_readWave_58 : decode cX10_readWave 58 = .ok (.aload_n 0, 1) := by decide +kernel
theorem dX10_readWave_59 : decode cX10_readWave 59 = .ok (.invokevirtual 164, 3) := by decide +kernel
theorem dX10_readWave_62 : decode cX10_readWave 62 = .ok (.aload_n 0, 1) := by decide +kernel
theorem dX10_readWave_63 : decode cX10_readWave 63 = .ok (.iload_n 3, 1) := by decide +kernel
theorem dX10_readWave_64 : decode cX10_readWave 64 = .ok (.invokevirtual 219, 3) := by decide +kernel
theorem dX10_readWave_67 : decode cX10_readWave 67 = .ok (.goto (-18), 3) := by decide +kernel
theorem dX10_readWave_70 : decode cX10_readWave 70 = .ok (.aload_n 0, 1) := by decide +kernel
theorem dX10_readWave_71 : decode cX10_readWave 71 = .ok (.getfield 99, 3) := by decide +kernel
theorem dX10_readWave_74 : decode cX10_readWave 74 = .ok (.ifCond .le 4, 3) := by decide +kernel
theorem dX10_readWave_77 : decode cX10_readWave 77 = .ok (.return_, 1) := by decide +kernel
theorem dX10_readWave_78 : decode cX10_readWave 78 = .ok (.aload_n 0, 1) := by decide +kernel
theorem dX10_readWave_79 : decode cX10_readWave 79 = .ok (.getfield 21, 3) := by decide +kernel
theorem dX10_readWave_82 : decode cX10_readWave 82 = .ok (.iload_n 3, 1) := by decide +kernel
theorem dX10_readWave_83 : decode cX10_readWave 83 = .ok (.lload_n 1, 1) := by decide +kernel
theorem dX10_readWave_84 : decode cX10_readWave 84 = .ok (.lastore, 1) := by decide +kernel
theorem dX10_readWave_85 : decode cX10_readWave 85 = .ok (.aload_n 0, 1) := by decide +kernel
theorem dX10_readWave_86 : decode cX10_readWave 86 = .ok (.dup, 1) := by decide +kernel
theorem dX10_readWave_87 : decode cX10_readWave 87 = .ok (.getfield 202, 3) := by decide +kernel
theorem dX10_readWave_90 : decode cX10_readWave 90 = .ok (.iconst 1, 1) := by decide +kernel
theorem dX10_readWave_91 : decode cX10_readWave 91 = .ok (.iadd, 1) := by decide +kernel
theorem dX10_readWave_92 : decode cX10_readWave 92 = .ok (.putfield 202, 3) := by decide +kernel
theorem dX10_readWave_95 : decode cX10_readWave 95 = .ok (.return_, 1) := by decide +kernel
theorem dX10_readLine_0 : decode cX10_readLine 0 = .ok (.aload_n 0, 1) := by decide +kernel
theorem dX10_readLine_1 : decode cX10_readLine 1 = .ok (.ldc 167, 2) := by decide +kernel
theorem dX10_readLine_3 : decode cX10_readLine 3 = .ok (.invokevirtual 156, 3) := by decide +kernel
theorem dX10_readLine_6 : decode cX10_readLine 6 = .ok (.ifCond .eq 10, 3) := by decide +kernel
theorem dX10_readLine_9 : decode cX10_readLine 9 = .ok (.aload_n 0, 1) := by decide +kernel
theorem dX10_readLine_10 : decode cX10_readLine 10 = .ok (.invokevirtual 222, 3) := by decide +kernel
theorem dX10_readLine_13 : decode cX10_readLine 13 = .ok (.goto 24, 3) := by decide +kernel
theorem dX10_readLine_16 : decode cX10_readLine 16 = .ok (.aload_n 0, 1) := by decide +kernel
theorem dX10_readLine_17 : decode cX10_readLine 17 = .ok (.ldc 169, 2) := by decide +kernel
theorem dX10_readLine_19 : decode cX10_readLine 19 = .ok (.invokevirtual 156, 3) := by decide +kernel
theorem dX10_readLine_22 : decode cX10_readLine 22 = .ok (.ifCond .eq 10, 3) := by decide +kernel
theorem dX10_readLine_25 : decode cX10_readLine 25 = .ok (.aload_n 0, 1) := by decide +kernel
theorem dX10_readLine_26 : decode cX10_readLine 26 = .ok (.invokevirtual 225, 3) := by decide +kernel
theorem dX10_readLine_29 : decode cX10_readLine 29 = .ok (.goto 8, 3) := by decide +kernel
theorem dX10_readLine_32 : decode cX10_readLine 32 = .ok (.aload_n 0, 1) := by decide +kernel
theorem dX10_readLine_33 : decode cX10_readLine 33 = .ok (.iconst 1, 1) := by decide +kernel
theorem dX10_readLine_34 : decode cX10_readLine 34 = .ok (.invokevirtual 160, 3) := by decide +kernel
theorem dX10_readLine_37 : decode cX10_readLine 37 = .ok (.return_, 1) := by decide +kernel
theorem dX10_text_0 : decode cX10_text 0 = .ok (.aload_n 0, 1) := by decide +kernel
theorem dX10_text_1 : decode cX10_text 1 = .ok (.iconst 0, 1) := by decide +kernel
theorem dX10_text_2 : decode cX10_text 2 = .ok (.putfield 89, 3) := by decide +kernel
theorem dX10_text_5 : decode cX10_text 5 = .ok (.iload_n 1, 1) := by decide +kernel
theorem dX10_text_6 : decode cX10_text 6 = .ok (.iconst 0, 1) := by decide +kernel
theorem dX10_text_7 : decode cX10_text 7 = .ok (.aload_n 0, 1) := by decide +kernel
theorem dX10_text_8 : decode cX10_text 8 = .ok (.getfield 96, 3) := by decide +kernel
theorem dX10_text_11 : decode cX10_text 11 = .ok (.invokestatic 111, 3) := by decide +kernel
theorem dX10_text_14 : decode cX10_text 14 = .ok (.ifCond .ne 9, 3) := by decide +kernel
theorem dX10_text_17 : decode cX10_text 17 = .ok (.aload_n 0, 1) := by decide +kernel
theorem dX10_text_18 : decode cX10_text 18 = .ok (.iconst 2, 1) := by decide +kernel
theorem dX10_text_19 : decode cX10_text 19 = .ok (.invokevirtual 228, 3) := by decide +kernel
theorem dX10_text_22 : decode cX10_text 22 = .ok (.ireturn, 1) := by decide +kernel
theorem dX10_text_23 : decode cX10_text 23 = .ok (.aload_n 0, 1) := by decide +kernel
theorem dX10_text_24 : decode cX10_text 24 = .ok (.iload_n 1, 1) := by decide +kernel
theorem dX10_text_25 : decode cX10_text 25 = .ok (.putfield 108, 3) := by decide +kernel
theorem dX10_text_28 : decode cX10_text 28 = .ok (.aload_n 0, 1) := by decide +kernel
theorem dX10_text_29 : decode cX10_text 29 = .ok (.iconst 0, 1) := by decide +kernel
theorem dX10_text_30 : decode cX10_text 30 = .ok (.putfield 96, 3) := by decide +kernel
theorem dX10_text_33 : decode cX10_text 33 = .ok (.aload_n 0, 1) := by decide +kernel
theorem dX10_text_34 : decode cX10_text 34 = .ok (.iconst 0, 1) := by decide +kernel
theorem dX10_text_35 : decode cX10_text 35 = .ok (.putfield 115, 3) := by decide +kernel
theorem dX10_text_38 : decode cX10_text 38 = .ok (.aload_n 0, 1) := by decide +kernel
theorem dX10_text_39 : decode cX10_text 39 = .ok (.iconst 0, 1) := by decide +kernel
theorem dX10_text_40 : decode cX10_text 40 = .ok (.putfield 99, 3) := by decide +kernel
theorem dX10_text_43 : decode cX10_text 43 = .ok (.aload_n 0, 1) := by decide +kernel
theorem dX10_text_44 : decode cX10_text 44 = .ok (.iconst 0, 1) := by decide +kernel
theorem dX10_text_45 : decode cX10_text 45 = .ok (.putfield 199, 3) := by decide +kernel
theorem dX10_text_48 : decode cX10_text 48 = .ok (.aload_n 0, 1) := by decide +kernel
theorem dX10_text_49 : decode cX10_text 49 = .ok (.iconst 0, 1) := by decide +kernel
theorem dX10_text_50 : decode cX10_text 50 = .ok (.putfield 202, 3) := by decide +kernel
theorem dX10_text_53 : decode cX10_text 53 = .ok (.aload_n 0, 1) := by decide +kernel
theorem dX10_text_54 : decode cX10_text 54 = .ok (.invokevirtual 164, 3) := by decide +kernel
theorem dX10_text_57 : decode cX10_text 57 = .ok (.aload_n 0, 1) := by decide +kernel
theorem dX10_text_58 : decode cX10_text 58 = .ok (.invokevirtual 232, 3) := by decide +kernel
theorem dX10_text_61 : decode cX10_text 61 = .ok (.aload_n 0, 1) := by decide +kernel
theorem dX10_text_62 : decode cX10_text 62 = .ok (.bipush 59, 2) := by decide +kernel
theorem dX10_text_64 : decode cX10_text 64 = .ok (.invokevirtual 188, 3) := by decide +kernel
theorem dX10_text_67 : decode cX10_text 67 = .ok (.ifCond .eq 14, 3) := by decide +kernel
theorem dX10_text_70 : decode cX10_text 70 = .ok (.aload_n 0, 1) := by decide +kernel
theorem dX10_text_71 : decode cX10_text 71 = .ok (.invokevirtual 164, 3) := by decide +kernel
theorem dX10_text_74 : decode cX10_text 74 = .ok (.aload_n 0, 1) := by decide +kernel
theorem dX10_text_75 : decode cX10_text 75 = .ok (.invokevirtual 232, 3) := by decide +kernel
theorem dX10_text_78 : decode cX10_text 78 = .ok (.goto (-17), 3) := by decide +kernel
theorem dX10_text_81 : decode cX10_text 81 = .ok (.aload_n 0, 1) := by decide +kernel
theorem dX10_text_82 : decode cX10_text 82 = .ok (.getfield 99, 3) := by decide +kernel
theorem dX10_text_85 : decode cX10_text 85 = .ok (.ifCond .ne 16, 3) := by decide +kernel
theorem dX10_text_88 : decode cX10_text 88 = .ok (.aload_n 0, 1) := by decide +kernel
theorem dX10_text_89 : decode cX10_text 89 = .ok (.getfield 118, 3) := by decide +kernel
theorem dX10_text_92 : decode cX10_text 92 = .ok (.iconst 1, 1) := by decide +kernel
theorem dX10_text_93 : decode cX10_text 93 = .ok (.if_icmp .eq 8, 3) := by decide +kernel
theorem dX10_text_96 : decode cX10_text 96 = .ok (.aload_n 0, 1) := by decide +kernel
theorem dX10_text_97 : decode cX10_text 97 = .ok (.iconst 1, 1) := by decide +kernel
theorem dX10_text_98 : decode cX10_text 98 = .ok (.invokevirtual 160, 3) := by decide +kernel
theorem dX10_text_101 : decode cX10_text 101 = .ok (.aload_n 0, 1) := by decide +kernel
theorem dX10_text_102 : decode cX10_text 102 = .ok (.getfield 99, 3) := by decide +kernel
theorem dX10_text_105 : decode cX10_text 105 = .ok (.ifCond .le 18, 3) := by decide +kernel
theorem dX10_text_108 : decode cX10_text 108 = .ok (.aload_n 0, 1) := by decide +kernel
theorem dX10_text_109 : decode cX10_text 109 = .ok (.iconst 4, 1) := by decide +kernel
theorem dX10_text_110 : decode cX10_text 110 = .ok (.putfield 92, 3) := by decide +kernel
theorem dX10_text_113 : decode cX10_text 113 = .ok (.aload_n 0, 1) := by decide +kernel
theorem dX10_text_114 : decode cX10_text 114 = .ok (.aload_n 0, 1) := by decide +kernel
theorem dX10_text_115 : decode cX10_text 115 = .ok (.getfield 105, 3) := by decide +kernel
theorem dX10_text_118 : decode cX10_text 118 = .ok (.putfield 9, 3) := by decide +kernel
theorem dX10_text_121 : decode cX10_text 121 = .ok (.iconst (-1), 1) := by decide +kernel
theorem dX10_text_122 : decode cX10_text 122 = .ok (.ireturn, 1) := by decide +kernel
theorem dX10_text_123 : decode cX10_text 123 = .ok (.aload_n 0, 1) := by decide +kernel
theorem dX10_text_124 : decode cX10_text 124 = .ok (.invokevirtual 235, 3) := by decide +kernel
theorem dX10_text_127 : decode cX10_text 127 = .ok (.aload_n 0, 1) := by decide +kernel
theorem dX10_text_128 : decode cX10_text 128 = .ok (.aload_n 0, 1) := by decide +kernel
theorem dX10_text_129 : decode cX10_text 129 = .ok (.getfield 238, 3) := by decide +kernel
theorem dX10_text_132 : decode cX10_text 132 = .ok (.invokevirtual 241, 3) := by decide +kernel
theorem dX10_text_135 : decode cX10_text 135 = .ok (.ireturn, 1) := by decide +kernel
theorem dX10_holds_0 : decode cX10_holds 0 = .ok (.aload_n 0, 1) := by decide +kernel
theorem dX10_holds_1 : decode cX10_holds 1 = .ok (.aload_n 0, 1) := by decide +kernel
theorem dX10_holds_2 : decode cX10_holds 2 = .ok (.getfield 199, 3) := by decide +kernel
theorem dX10_holds_5 : decode cX10_holds 5 = .ok (.putfield 238, 3) := by decide +kernel
theorem dX10_holds_8 : decode cX10_holds 8 = .ok (.aload_n 0, 1) := by decide +kernel
theorem dX10_holds_9 : decode cX10_holds 9 = .ok (.aload_n 0, 1) := by decide +kernel
theorem dX10_holds_10 : decode cX10_holds 10 = .ok (.getfield 202, 3) := by decide +kernel
theorem dX10_holds_13 : decode cX10_holds 13 = .ok (.putfield 244, 3) := by decide +kernel
theorem dX10_holds_16 : decode cX10_holds 16 = .ok (.iconst 0, 1) := by decide +kernel
theorem dX10_holds_17 : decode cX10_holds 17 = .ok (.istore_n 1, 1) := by decide +kernel
theorem dX10_holds_18 : decode cX10_holds 18 = .ok (.iload_n 1, 1) := by decide +kernel
theorem dX10_holds_19 : decode cX10_holds 19 = .ok (.iconst 4, 1) := by decide +kernel
theorem dX10_holds_20 : decode cX10_holds 20 = .ok (.if_icmp .ge 107, 3) := by decide +kernel
theorem dX10_holds_23 : decode cX10_holds 23 = .ok (.aload_n 0, 1) := by decide +kernel
theorem dX10_holds_24 : decode cX10_holds 24 = .ok (.getfield 17, 3) := by decide +kernel
theorem dX10_holds_27 : decode cX10_holds 27 = .ok (.iload_n 1, 1) := by decide +kernel
theorem dX10_holds_28 : decode cX10_holds 28 = .ok (.aload_n 0, 1) := by decide +kernel
theorem dX10_holds_29 : decode cX10_holds 29 = .ok (.getfield 17, 3) := by decide +kernel
theorem dX10_holds_32 : decode cX10_holds 32 = .ok (.iconst 4, 1) := by decide +kernel
theorem dX10_holds_33 : decode cX10_holds 33 = .ok (.iload_n 1, 1) := by decide +kernel
theorem dX10_holds_34 : decode cX10_holds 34 = .ok (.iadd, 1) := by decide +kernel
theorem dX10_holds_35 : decode cX10_holds 35 = .ok (.laload, 1) := by decide +kernel
theorem dX10_holds_36 : decode cX10_holds 36 = .ok (.lastore, 1) := by decide +kernel
theorem dX10_holds_37 : decode cX10_holds 37 = .ok (.aload_n 0, 1) := by decide +kernel
theorem dX10_holds_38 : decode cX10_holds 38 = .ok (.getfield 21, 3) := by decide +kernel
theorem dX10_holds_41 : decode cX10_holds 41 = .ok (.iload_n 1, 1) := by decide +kernel
theorem dX10_holds_42 : decode cX10_holds 42 = .ok (.aload_n 0, 1) := by decide +kernel
theorem dX10_holds_43 : decode cX10_holds 43 = .ok (.getfield 21, 3) := by decide +kernel
theorem dX10_holds_46 : decode cX10_holds 46 = .ok (.iconst 4, 1) := by decide +kernel
theorem dX10_holds_47 : decode cX10_holds 47 = .ok (.iload_n 1, 1) := by decide +kernel
theorem dX10_holds_48 : decode cX10_holds 48 = .ok (.iadd, 1) := by decide +kernel
theorem dX10_holds_49 : decode cX10_holds 49 = .ok (.laload, 1) := by decide +kernel
theorem dX10_holds_50 : decode cX10_holds 50 = .ok (.lastore, 1) := by decide +kernel
theorem dX10_holds_51 : decode cX10_holds 51 = .ok (.aload_n 0, 1) := by decide +kernel
theorem dX10_holds_52 : decode cX10_holds 52 = .ok (.getfield 24, 3) := by decide +kernel
theorem dX10_holds_55 : decode cX10_holds 55 = .ok (.iload_n 1, 1) := by decide +kernel
theorem dX10_holds_56 : decode cX10_holds 56 = .ok (.aload_n 0, 1) := by decide +kernel
theorem dX10_holds_57 : decode cX10_holds 57 = .ok (.getfield 24, 3) := by decide +kernel
theorem dX10_holds_60 : decode cX10_holds 60 = .ok (.iconst 4, 1) := by decide +kernel
theorem dX10_holds_61 : decode cX10_holds 61 = .ok (.iload_n 1, 1) := by decide +kernel
theorem dX10_holds_62 : decode cX10_holds 62 = .ok (.iadd, 1) := by decide +kernel
theorem dX10_holds_63 : decode cX10_holds 63 = .ok (.iaload, 1) := by decide +kernel
theorem dX10_holds_64 : decode cX10_holds 64 = .ok (.iastore, 1) := by decide +kernel
theorem dX10_holds_65 : decode cX10_holds 65 = .ok (.aload_n 0, 1) := by decide +kernel
theorem dX10_holds_66 : decode cX10_holds 66 = .ok (.getfield 30, 3) := by decide +kernel
theorem dX10_holds_69 : decode cX10_holds 69 = .ok (.iload_n 1, 1) := by decide +kernel
theorem dX10_holds_70 : decode cX10_holds 70 = .ok (.aload_n 0, 1) := by decide +kernel
theorem dX10_holds_71 : decode cX10_holds 71 = .ok (.getfield 30, 3) := by decide +kernel
theorem dX10_holds_74 : decode cX10_holds 74 = .ok (.iconst 4, 1) := by decide +kernel
theorem dX10_holds_75 : decode cX10_holds 75 = .ok (.iload_n 1, 1) := by decide +kernel
theorem dX10_holds_76 : decode cX10_holds 76 = .ok (.iadd, 1) := by decide +kernel
theorem dX10_holds_77 : decode cX10_holds 77 = .ok (.iaload, 1) := by decide +kernel
theorem dX10_holds_78 : decode cX10_holds 78 = .ok (.iastore, 1) := by decide +kernel
theorem dX10_holds_79 : decode cX10_holds 79 = .ok (.aload_n 0, 1) := by decide +kernel
theorem dX10_holds_80 : decode cX10_holds 80 = .ok (.getfield 33, 3) := by decide +kernel
theorem dX10_holds_83 : decode cX10_holds 83 = .ok (.iload_n 1, 1) := by decide +kernel
theorem dX10_holds_84 : decode cX10_holds 84 = .ok (.aload_n 0, 1) := by decide +kernel
theorem dX10_holds_85 : decode cX10_holds 85 = .ok (.getfield 33, 3) := by decide +kernel
theorem dX10_holds_88 : decode cX10_holds 88 = .ok (.iconst 4, 1) := by decide +kernel
theorem dX10_holds_89 : decode cX10_holds 89 = .ok (.iload_n 1, 1) := by decide +kernel
theorem dX10_holds_90 : decode cX10_holds 90 = .ok (.iadd, 1) := by decide +kernel
theorem dX10_holds_91 : decode cX10_holds 91 = .ok (.iaload, 1) := by decide +kernel
theorem dX10_holds_92 : decode cX10_holds 92 = .ok (.iastore, 1) := by decide +kernel
theorem dX10_holds_93 : decode cX10_holds 93 = .ok (.aload_n 0, 1) := by decide +kernel
theorem dX10_holds_94 : decode cX10_holds 94 = .ok (.getfield 39, 3) := by decide +kernel
theorem dX10_holds_97 : decode cX10_holds 97 = .ok (.iload_n 1, 1) := by decide +kernel
theorem dX10_holds_98 : decode cX10_holds 98 = .ok (.aload_n 0, 1) := by decide +kernel
theorem dX10_holds_99 : decode cX10_holds 99 = .ok (.getfield 39, 3) := by decide +kernel
theorem dX10_holds_102 : decode cX10_holds 102 = .ok (.iconst 4, 1) := by decide +kernel
theorem dX10_holds_103 : decode cX10_holds 103 = .ok (.iload_n 1, 1) := by decide +kernel
theorem dX10_holds_104 : decode cX10_holds 104 = .ok (.iadd, 1) := by decide +kernel
theorem dX10_holds_105 : decode cX10_holds 105 = .ok (.baload, 1) := by decide +kernel
theorem dX10_holds_106 : decode cX10_holds 106 = .ok (.bastore, 1) := by decide +kernel
theorem dX10_holds_107 : decode cX10_holds 107 = .ok (.aload_n 0, 1) := by decide +kernel
theorem dX10_holds_108 : decode cX10_holds 108 = .ok (.getfield 36, 3) := by decide +kernel
theorem dX10_holds_111 : decode cX10_holds 111 = .ok (.iload_n 1, 1) := by decide +kernel
theorem dX10_holds_112 : decode cX10_holds 112 = .ok (.aload_n 0, 1) := by decide +kernel
theorem dX10_holds_113 : decode cX10_holds 113 = .ok (.getfield 36, 3) := by decide +kernel
theorem dX10_holds_116 : decode cX10_holds 116 = .ok (.iconst 4, 1) := by decide +kernel
theorem dX10_holds_117 : decode cX10_holds 117 = .ok (.iload_n 1, 1) := by decide +kernel
theorem dX10_holds_118 : decode cX10_holds 118 = .ok (.iadd, 1) := by decide +kernel
theorem dX10_holds_119 : decode cX10_holds 119 = .ok (.iaload, 1) := by decide +kernel
theorem dX10_holds_120 : decode cX10_holds 120 = .ok (.iastore, 1) := by decide +kernel
theorem dX10_holds_121 : decode cX10_holds 121 = .ok (.iinc 1 1, 3) := by decide +kernel
theorem dX10_holds_124 : decode cX10_holds 124 = .ok (.goto (-106), 3) := by decide +kernel
theorem dX10_holds_127 : decode cX10_holds 127 = .ok (.iconst 0, 1) := by decide +kernel
theorem dX10_holds_128 : decode cX10_holds 128 = .ok (.istore_n 1, 1) := by decide +kernel
theorem dX10_holds_129 : decode cX10_holds 129 = .ok (.iload_n 1, 1) := by decide +kernel
theorem dX10_holds_130 : decode cX10_holds 130 = .ok (.bipush 12, 2) := by decide +kernel
theorem dX10_holds_132 : decode cX10_holds 132 = .ok (.if_icmp .ge 24, 3) := by decide +kernel
theorem dX10_holds_135 : decode cX10_holds 135 = .ok (.aload_n 0, 1) := by decide +kernel
theorem dX10_holds_136 : decode cX10_holds 136 = .ok (.getfield 27, 3) := by decide +kernel
theorem dX10_holds_139 : decode cX10_holds 139 = .ok (.iload_n 1, 1) := by decide +kernel
theorem dX10_holds_140 : decode cX10_holds 140 = .ok (.aload_n 0, 1) := by decide +kernel
theorem dX10_holds_141 : decode cX10_holds 141 = .ok (.getfield 27, 3) := by decide +kernel
theorem dX10_holds_144 : decode cX10_holds 144 = .ok (.bipush 12, 2) := by decide +kernel
theorem dX10_holds_146 : decode cX10_holds 146 = .ok (.iload_n 1, 1) := by decide +kernel
theorem dX10_holds_147 : decode cX10_holds 147 = .ok (.iadd, 1) := by decide +kernel
theorem dX10_holds_148 : decode cX10_holds 148 = .ok (.iaload, 1) := by decide +kernel
theorem dX10_holds_149 : decode cX10_holds 149 = .ok (.iastore, 1) := by decide +kernel
theorem dX10_holds_150 : decode cX10_holds 150 = .ok (.iinc 1 1, 3) := by decide +kernel
theorem dX10_holds_153 : decode cX10_holds 153 = .ok (.goto (-24), 3) := by decide +kernel
theorem dX10_holds_156 : decode cX10_holds 156 = .ok (.iconst 0, 1) := by decide +kernel
theorem dX10_holds_157 : decode cX10_holds 157 = .ok (.istore_n 1, 1) := by decide +kernel
theorem dX10_holds_158 : decode cX10_holds 158 = .ok (.iload_n 1, 1) := by decide +kernel
theorem dX10_holds_159 : decode cX10_holds 159 = .ok (.bipush 32, 2) := by decide +kernel
theorem dX10_holds_161 : decode cX10_holds 161 = .ok (.if_icmp .ge 69, 3) := by decide +kernel
theorem dX10_holds_164 : decode cX10_holds 164 = .ok (.aload_n 0, 1) := by decide +kernel
theorem dX10_holds_165 : decode cX10_holds 165 = .ok (.getfield 43, 3) := by decide +kernel
theorem dX10_holds_168 : decode cX10_holds 168 = .ok (.iload_n 1, 1) := by decide +kernel
theorem dX10_holds_169 : decode cX10_holds 169 = .ok (.aload_n 0, 1) := by decide +kernel
theorem dX10_holds_170 : decode cX10_holds 170 = .ok (.getfield 43, 3) := by decide +kernel
theorem dX10_holds_173 : decode cX10_holds 173 = .ok (.bipush 32, 2) := by decide +kernel
theorem dX10_holds_175 : decode cX10_holds 175 = .ok (.iload_n 1, 1) := by decide +kernel
theorem dX10_holds_176 : decode cX10_holds 176 = .ok (.iadd, 1) := by decide +kernel
theorem dX10_holds_177 : decode cX10_holds 177 = .ok (.iaload, 1) := by decide +kernel
theorem dX10_holds_178 : decode cX10_holds 178 = .ok (.iastore, 1) := by decide +kernel
theorem dX10_holds_179 : decode cX10_holds 179 = .ok (.aload_n 0, 1) := by decide +kernel
theorem dX10_holds_180 : decode cX10_holds 180 = .ok (.getfield 46, 3) := by decide +kernel
theorem dX10_holds_183 : decode cX10_holds 183 = .ok (.iload_n 1, 1) := by decide +kernel
theorem dX10_holds_184 : decode cX10_holds 184 = .ok (.aload_n 0, 1) := by decide +kernel
theorem dX10_holds_185 : decode cX10_holds 185 = .ok (.getfield 46, 3) := by decide +kernel
theorem dX10_holds_188 : decode cX10_holds 188 = .ok (.bipush 32, 2) := by decide +kernel
theorem dX10_holds_190 : decode cX10_holds 190 = .ok (.iload_n 1, 1) := by decide +kernel
theorem dX10_holds_191 : decode cX10_holds 191 = .ok (.iadd, 1) := by decide +kernel
theorem dX10_holds_192 : decode cX10_holds 192 = .ok (.iaload, 1) := by decide +kernel
theorem dX10_holds_193 : decode cX10_holds 193 = .ok (.iastore, 1) := by decide +kernel
theorem dX10_holds_194 : decode cX10_holds 194 = .ok (.aload_n 0, 1) := by decide +kernel
theorem dX10_holds_195 : decode cX10_holds 195 = .ok (.getfield 49, 3) := by decide +kernel
theorem dX10_holds_198 : decode cX10_holds 198 = .ok (.iload_n 1, 1) := by decide +kernel
theorem dX10_holds_199 : decode cX10_holds 199 = .ok (.aload_n 0, 1) := by decide +kernel
theorem dX10_holds_200 : decode cX10_holds 200 = .ok (.getfield 49, 3) := by decide +kernel
theorem dX10_holds_203 : decode cX10_holds 203 = .ok (.bipush 32, 2) := by decide +kernel
theorem dX10_holds_205 : decode cX10_holds 205 = .ok (.iload_n 1, 1) := by decide +kernel
theorem dX10_holds_206 : decode cX10_holds 206 = .ok (.iadd, 1) := by decide +kernel
theorem dX10_holds_207 : decode cX10_holds 207 = .ok (.iaload, 1) := by decide +kernel
theorem dX10_holds_208 : decode cX10_holds 208 = .ok (.iastore, 1) := by decide +kernel
theorem dX10_holds_209 : decode cX10_holds 209 = .ok (.aload_n 0, 1) := by decide +kernel
theorem dX10_holds_210 : decode cX10_holds 210 = .ok (.getfield 52, 3) := by decide +kernel
theorem dX10_holds_213 : decode cX10_holds 213 = .ok (.iload_n 1, 1) := by decide +kernel
theorem dX10_holds_214 : decode cX10_holds 214 = .ok (.aload_n 0, 1) := by decide +kernel
theorem dX10_holds_215 : decode cX10_holds 215 = .ok (.getfield 52, 3) := by decide +kernel
theorem dX10_holds_218 : decode cX10_holds 218 = .ok (.bipush 32, 2) := by decide +kernel
theorem dX10_holds_220 : decode cX10_holds 220 = .ok (.iload_n 1, 1) := by decide +kernel
theorem dX10_holds_221 : decode cX10_holds 221 = .ok (.iadd, 1) := by decide +kernel
theorem dX10_holds_222 : decode cX10_holds 222 = .ok (.iaload, 1) := by decide +kernel
theorem dX10_holds_223 : decode cX10_holds 223 = .ok (.iastore, 1) := by decide +kernel
theorem dX10_holds_224 : decode cX10_holds 224 = .ok (.iinc 1 1, 3) := by decide +kernel
theorem dX10_holds_227 : decode cX10_holds 227 = .ok (.goto (-69), 3) := by decide +kernel
theorem dX10_holds_230 : decode cX10_holds 230 = .ok (.aload_n 0, 1) := by decide +kernel
theorem dX10_holds_231 : decode cX10_holds 231 = .ok (.iconst 1, 1) := by decide +kernel
theorem dX10_holds_232 : decode cX10_holds 232 = .ok (.putfield 247, 3) := by decide +kernel
theorem dX10_holds_235 : decode cX10_holds 235 = .ok (.aload_n 0, 1) := by decide +kernel
theorem dX10_holds_236 : decode cX10_holds 236 = .ok (.getfield 55, 3) := by decide +kernel
theorem dX10_holds_239 : decode cX10_holds 239 = .ok (.iconst 0, 1) := by decide +kernel
theorem dX10_holds_240 : decode cX10_holds 240 = .ok (.iconst (-1), 1) := by decide +kernel
theorem dX10_holds_241 : decode cX10_holds 241 = .ok (.iastore, 1) := by decide +kernel
theorem dX10_holds_242 : decode cX10_holds 242 = .ok (.aload_n 0, 1) := by decide +kernel
theorem dX10_holds_243 : decode cX10_holds 243 = .ok (.getfield 74, 3) := by decide +kernel
theorem dX10_holds_246 : decode cX10_holds 246 = .ok (.iconst 0, 1) := by decide +kernel
theorem dX10_holds_247 : decode cX10_holds 247 = .ok (.iconst 0, 1) := by decide +kernel
theorem dX10_holds_248 : decode cX10_holds 248 = .ok (.bastore, 1) := by decide +kernel
theorem dX10_holds_249 : decode cX10_holds 249 = .ok (.aload_n 0, 1) := by decide +kernel
theorem dX10_holds_250 : decode cX10_holds 250 = .ok (.getfield 74, 3) := by decide +kernel
theorem dX10_holds_253 : decode cX10_holds 253 = .ok (.iconst 1, 1) := by decide +kernel
theorem dX10_holds_254 : decode cX10_holds 254 = .ok (.iconst 0, 1) := by decide +kernel
theorem dX10_holds_255 : decode cX10_holds 255 = .ok (.bastore, 1) := by decide +kernel
theorem dX10_holds_256 : decode cX10_holds 256 = .ok (.return_, 1) := by decide +kernel
theorem dX10_isLoop_0 : decode cX10_isLoop 0 = .ok (.aload_n 0, 1) := by decide +kernel
theorem dX10_isLoop_1 : decode cX10_isLoop 1 = .ok (.getfield 247, 3) := by decide +kernel
theorem dX10_isLoop_4 : decode cX10_isLoop 4 = .ok (.ifCond .eq 21, 3) := by decide +kernel
theorem dX10_isLoop_7 : decode cX10_isLoop 7 = .ok (.iload_n 1, 1) := by decide +kernel
theorem dX10_isLoop_8 : decode cX10_isLoop 8 = .ok (.iconst 0, 1) := by decide +kernel
theorem dX10_isLoop_9 : decode cX10_isLoop 9 = .ok (.aload_n 0, 1) := by decide +kernel
theorem dX10_isLoop_10 : decode cX10_isLoop 10 = .ok (.getfield 238, 3) := by decide +kernel
theorem dX10_isLoop_13 : decode cX10_isLoop 13 = .ok (.iconst 1, 1) := by decide +kernel
theorem dX10_isLoop_14 : decode cX10_isLoop 14 = .ok (.isub, 1) := by decide +kernel
theorem dX10_isLoop_15 : decode cX10_isLoop 15 = .ok (.invokestatic 111, 3) := by decide +kernel
theorem dX10_isLoop_18 : decode cX10_isLoop 18 = .ok (.ifCond .eq 7, 3) := by decide +kernel
theorem dX10_isLoop_21 : decode cX10_isLoop 21 = .ok (.iconst 1, 1) := by decide +kernel
theorem dX10_isLoop_22 : decode cX10_isLoop 22 = .ok (.goto 4, 3) := by decide +kernel
theorem dX10_isLoop_25 : decode cX10_isLoop 25 = .ok (.iconst 0, 1) := by decide +kernel
theorem dX10_isLoop_26 : decode cX10_isLoop 26 = .ok (.ireturn, 1) := by decide +kernel
theorem dX10_isWave_0 : decode cX10_isWave 0 = .ok (.aload_n 0, 1) := by decide +kernel
theorem dX10_isWave_1 : decode cX10_isWave 1 = .ok (.getfield 247, 3) := by decide +kernel
theorem dX10_isWave_4 : decode cX10_isWave 4 = .ok (.ifCond .eq 21, 3) := by decide +kernel
theorem dX10_isWave_7 : decode cX10_isWave 7 = .ok (.iload_n 1, 1) := by decide +kernel
theorem dX10_isWave_8 : decode cX10_isWave 8 = .ok (.iconst 0, 1) := by decide +kernel
theorem dX10_isWave_9 : decode cX10_isWave 9 = .ok (.aload_n 0, 1) := by decide +kernel
theorem dX10_isWave_10 : decode cX10_isWave 10 = .ok (.getfield 244, 3) := by decide +kernel
theorem dX10_isWave_13 : decode cX10_isWave 13 = .ok (.iconst 1, 1) := by decide +kernel
theorem dX10_isWave_14 : decode cX10_isWave 14 = .ok (.isub, 1) := by decide +kernel
theorem dX10_isWave_15 : decode cX10_isWave 15 = .ok (.invokestatic 111, 3) := by decide +kernel
theorem dX10_isWave_18 : decode cX10_isWave 18 = .ok (.ifCond .eq 7, 3) := by decide +kernel
theorem dX10_isWave_21 : decode cX10_isWave 21 = .ok (.iconst 1, 1) := by decide +kernel
theorem dX10_isWave_22 : decode cX10_isWave 22 = .ok (.goto 4, 3) := by decide +kernel
theorem dX10_isWave_25 : decode cX10_isWave 25 = .ok (.iconst 0, 1) := by decide +kernel
theorem dX10_isWave_26 : decode cX10_isWave 26 = .ok (.ireturn, 1) := by decide +kernel
theorem dX10_about_0 : decode cX10_about 0 = .ok (.aload_n 0, 1) := by decide +kernel
theorem dX10_about_1 : decode cX10_about 1 = .ok (.iconst 0, 1) := by decide +kernel
theorem dX10_about_2 : decode cX10_about 2 = .ok (.putfield 89, 3) := by decide +kernel
theorem dX10_about_5 : decode cX10_about 5 = .ok (.aload_n 0, 1) := by decide +kernel
theorem dX10_about_6 : decode cX10_about 6 = .ok (.getfield 247, 3) := by decide +kernel
theorem dX10_about_9 : decode cX10_about 9 = .ok (.ifCond .eq 34, 3) := by decide +kernel
theorem dX10_about_12 : decode cX10_about 12 = .ok (.iload_n 1, 1) := by decide +kernel
theorem dX10_about_13 : decode cX10_about 13 = .ok (.iconst 0, 1) := by decide +kernel
theorem dX10_about_14 : decode cX10_about 14 = .ok (.iconst 1, 1) := by decide +kernel
theorem dX10_about_15 : decode cX10_about 15 = .ok (.invokestatic 111, 3) := by decide +kernel
theorem dX10_about_18 : decode cX10_about 18 = .ok (.ifCond .eq 25, 3) := by decide +kernel
theorem dX10_about_21 : decode cX10_about 21 = .ok (.aload_n 0, 1) := by decide +kernel
theorem dX10_about_22 : decode cX10_about 22 = .ok (.iload_n 1, 1) := by decide +kernel
theorem dX10_about_23 : decode cX10_about 23 = .ok (.ifCond .ne 10, 3) := by decide +kernel
theorem dX10_about_26 : decode cX10_about 26 = .ok (.aload_n 0, 1) := by decide +kernel
theorem dX10_about_27 : decode cX10_about 27 = .ok (.getfield 238, 3) := by decide +kernel
theorem dX10_about_30 : decode cX10_about 30 = .ok (.goto 7, 3) := by decide +kernel
theorem dX10_about_33 : decode cX10_about 33 = .ok (.aload_n 0, 1) := by decide +kernel
theorem dX10_about_34 : decode cX10_about 34 = .ok (.getfield 244, 3) := by decide +kernel
theorem dX10_about_37 : decode cX10_about 37 = .ok (.invokevirtual 241, 3) := by decide +kernel
theorem dX10_about_40 : decode cX10_about 40 = .ok (.goto 8, 3) := by decide +kernel
theorem dX10_about_43 : decode cX10_about 43 = .ok (.aload_n 0, 1) := by decide +kernel
theorem dX10_about_44 : decode cX10_about 44 = .ok (.iconst 1, 1) := by decide +kernel
theorem dX10_about_45 : decode cX10_about 45 = .ok (.invokevirtual 228, 3) := by decide +kernel
theorem dX10_about_48 : decode cX10_about 48 = .ok (.ireturn, 1) := by decide +kernel
theorem dX10_loop_0 : decode cX10_loop 0 = .ok (.aload_n 0, 1) := by decide +kernel
theorem dX10_loop_1 : decode cX10_loop 1 = .ok (.iconst 0, 1) := by decide +kernel
theorem dX10_loop_2 : decode cX10_loop 2 = .ok (.putfield 89, 3) := by decide +kernel
theorem dX10_loop_5 : decode cX10_loop 5 = .ok (.aload_n 0, 1) := by decide +kernel
theorem dX10_loop_6 : decode cX10_loop 6 = .ok (.iload_n 1, 1) := by decide +kernel
theorem dX10_loop_7 : decode cX10_loop 7 = .ok (.invokevirtual 251, 3) := by decide +kernel
theorem dX10_loop_10 : decode cX10_loop 10 = .ok (.ifCond .ne 9, 3) := by decide +kernel
theorem dX10_loop_13 : decode cX10_loop 13 = .ok (.aload_n 0, 1) := by decide +kernel
theorem dX10_loop_14 : decode cX10_loop 14 = .ok (.iconst 1, 1) := by decide +kernel
theorem dX10_loop_15 : decode cX10_loop 15 = .ok (.invokevirtual 228, 3) := by decide +kernel
theorem dX10_loop_18 : decode cX10_loop 18 = .ok (.ireturn, 1) := by decide +kernel
theorem dX10_loop_19 : decode cX10_loop 19 = .ok (.iload_n 2, 1) := by decide +kernel
theorem dX10_loop_20 : decode cX10_loop 20 = .ok (.tableswitch 127 0 6 #[44, 55, 55, 55, 86, 97, 116], 44) := by decide +kernel
theorem dX10_loop_64 : decode cX10_loop 64 = .ok (.aload_n 0, 1) := by decide +kernel
theorem dX10_loop_65 : decode cX10_loop 65 = .ok (.aload_n 0, 1) := by decide +kernel
theorem dX10_loop_66 : decode cX10_loop 66 = .ok (.getfield 24, 3) := by decide +kernel
theorem dX10_loop_69 : decode cX10_loop 69 = .ok (.iload_n 1, 1) := by decide +kernel
theorem dX10_loop_70 : decode cX10_loop 70 = .ok (.iaload, 1) := by decide +kernel
theorem dX10_loop_71 : decode cX10_loop 71 = .ok (.invokevirtual 241, 3) := by decide +kernel
theorem dX10_loop_74 : decode cX10_loop 74 = .ok (.ireturn, 1) := by decide +kernel
theorem dX10_loop_75 : decode cX10_loop 75 = .ok (.aload_n 0, 1) := by decide +kernel
theorem dX10_loop_76 : decode cX10_loop 76 = .ok (.iload_n 2, 1) := by decide +kernel
theorem dX10_loop_77 : decode cX10_loop 77 = .ok (.aload_n 0, 1) := by decide +kernel
theorem dX10_loop_78 : decode cX10_loop 78 = .ok (.getfield 24, 3) := by decide +kernel
theorem dX10_loop_81 : decode cX10_loop 81 = .ok (.iload_n 1, 1) := by decide +kernel
theorem dX10_loop_82 : decode cX10_loop 82 = .ok (.iaload, 1) := by decide +kernel
theorem dX10_loop_83 : decode cX10_loop 83 = .ok (.if_icmp .gt 18, 3) := by decide +kernel
theorem dX10_loop_86 : decode cX10_loop 86 = .ok (.aload_n 0, 1) := by decide +kernel
theorem dX10_loop_87 : decode cX10_loop 87 = .ok (.getfield 27, 3) := by decide +kernel
theorem dX10_loop_90 : decode cX10_loop 90 = .ok (.iconst 3, 1) := by decide +kernel
theorem dX10_loop_91 : decode cX10_loop 91 = .ok (.iload_n 1, 1) := by decide +kernel
theorem dX10_loop_92 : decode cX10_loop 92 = .ok (.imul, 1) := by decide +kernel
theorem dX10_loop_93 : decode cX10_loop 93 = .ok (.iload_n 2, 1) := by decide +kernel
theorem dX10_loop_94 : decode cX10_loop 94 = .ok (.iadd, 1) := by decide +kernel
theorem dX10_loop_95 : decode cX10_loop 95 = .ok (.iconst 1, 1) := by decide +kernel
theorem dX10_loop_96 : decode cX10_loop 96 = .ok (.isub, 1) := by decide +kernel
theorem dX10_loop_97 : decode cX10_loop 97 = .ok (.iaload, 1) := by decide +kernel
theorem dX10_loop_98 : decode cX10_loop 98 = .ok (.goto 4, 3) := by decide +kernel
theorem dX10_loop_101 : decode cX10_loop 101 = .ok (.iconst 0, 1) := by decide +kernel
theorem dX10_loop_102 : decode cX10_loop 102 = .ok (.invokevirtual 241, 3) := by decide +kernel
theorem dX10_loop_105 : decode cX10_loop 105 = .ok (.ireturn, 1) := by decide +kernel
theorem dX10_loop_106 : decode cX10_loop 106 = .ok (.aload_n 0, 1) := by decide +kernel
theorem dX10_loop_107 : decode cX10_loop 107 = .ok (.aload_n 0, 1) := by decide +kernel
theorem dX10_loop_108 : decode cX10_loop 108 = .ok (.getfield 30, 3) := by decide +kernel
theorem dX10_loop_111 : decode cX10_loop 111 = .ok (.iload_n 1, 1) := by decide +kernel
theorem dX10_loop_112 : decode cX10_loop 112 = .ok (.iaload, 1) := by decide +kernel
theorem dX10_loop_113 : decode cX10_loop 113 = .ok (.invokevirtual 241, 3) := by decide +kernel
theorem dX10_loop_116 : decode cX10_loop 116 = .ok (.ireturn, 1) := by decide +kernel
theorem dX10_loop_117 : decode cX10_loop 117 = .ok (.aload_n 0, 1) := by decide +kernel
theorem dX10_loop_118 : decode cX10_loop 118 = .ok (.aload_n 0, 1) := by decide +kernel
theorem dX10_loop_119 : decode cX10_loop 119 = .ok (.getfield 39, 3) := by decide +kernel
theorem dX10_loop_122 : decode cX10_loop 122 = .ok (.iload_n 1, 1) := by decide +kernel
theorem dX10_loop_123 : decode cX10_loop 123 = .ok (.baload, 1) := by decide +kernel
theorem dX10_loop_124 : decode cX10_loop 124 = .ok (.ifCond .eq 7, 3) := by decide +kernel
theorem dX10_loop_127 : decode cX10_loop 127 = .ok (.iconst 3, 1) := by decide +kernel
theorem dX10_loop_128 : decode cX10_loop 128 = .ok (.goto 4, 3) := by decide +kernel
theorem dX10_loop_131 : decode cX10_loop 131 = .ok (.iconst 2, 1) := by decide +kernel
theorem dX10_loop_132 : decode cX10_loop 132 = .ok (.invokevirtual 241, 3) := by decide +kernel
theorem dX10_loop_135 : decode cX10_loop 135 = .ok (.ireturn, 1) := by decide +kernel
theorem dX10_loop_136 : decode cX10_loop 136 = .ok (.aload_n 0, 1) := by decide +kernel
theorem dX10_loop_137 : decode cX10_loop 137 = .ok (.aload_n 0, 1) := by decide +kernel
theorem dX10_loop_138 : decode cX10_loop 138 = .ok (.getfield 33, 3) := by decide +kernel
theorem dX10_loop_141 : decode cX10_loop 141 = .ok (.iload_n 1, 1) := by decide +kernel
theorem dX10_loop_142 : decode cX10_loop 142 = .ok (.iaload, 1) := by decide +kernel
theorem dX10_loop_143 : decode cX10_loop 143 = .ok (.invokevirtual 241, 3) := by decide +kernel
theorem dX10_loop_146 : decode cX10_loop 146 = .ok (.ireturn, 1) := by decide +kernel
theorem dX10_loop_147 : decode cX10_loop 147 = .ok (.aload_n 0, 1) := by decide +kernel
theorem dX10_loop_148 : decode cX10_loop 148 = .ok (.iconst 1, 1) := by decide +kernel
theorem dX10_loop_149 : decode cX10_loop 149 = .ok (.invokevirtual 228, 3) := by decide +kernel
theorem dX10_loop_152 : decode cX10_loop 152 = .ok (.ireturn, 1) := by decide +kernel
theorem dX10_longOf_0 : decode cX10_longOf 0 = .ok (.iconst 0, 1) := by decide +kernel
theorem dX10_longOf_1 : decode cX10_longOf 1 = .ok (.istore_n 2, 1) := by decide +kernel
theorem dX10_longOf_2 : decode cX10_longOf 2 = .ok (.iconst 0, 1) := by decide +kernel
theorem dX10_longOf_3 : decode cX10_longOf 3 = .ok (.istore_n 3, 1) := by decide +kernel
theorem dX10_longOf_4 : decode cX10_longOf 4 = .ok (.iload_n 3, 1) := by decide +kernel
theorem dX10_longOf_5 : decode cX10_longOf 5 = .ok (.aload_n 0, 1) := by decide +kernel
theorem dX10_longOf_6 : decode cX10_longOf 6 = .ok (.getfield 36, 3) := by decide +kernel
theorem dX10_longOf_9 : decode cX10_longOf 9 = .ok (.iload_n 1, 1) := by decide +kernel
theorem dX10_longOf_10 : decode cX10_longOf 10 = .ok (.iaload, 1) := by decide +kernel
theorem dX10_longOf_11 : decode cX10_longOf 11 = .ok (.if_icmp .ge 23, 3) := by decide +kernel
theorem dX10_longOf_14 : decode cX10_longOf 14 = .ok (.iload_n 2, 1) := by decide +kernel
theorem dX10_longOf_15 : decode cX10_longOf 15 = .ok (.aload_n 0, 1) := by decide +kernel
theorem dX10_longOf_16 : decode cX10_longOf 16 = .ok (.getfield 52, 3) := by decide +kernel
theorem dX10_longOf_19 : decode cX10_longOf 19 = .ok (.bipush 8, 2) := by decide +kernel
theorem dX10_longOf_21 : decode cX10_longOf 21 = .ok (.iload_n 1, 1) := by decide +kernel
theorem dX10_longOf_22 : decode cX10_longOf 22 = .ok (.imul, 1) := by decide +kernel
theorem dX10_longOf_23 : decode cX10_longOf 23 = .ok (.iload_n 3, 1) := by decide +kernel
theorem dX10_longOf_24 : decode cX10_longOf 24 = .ok (.iadd, 1) := by decide +kernel
theorem dX10_longOf_25 : decode cX10_longOf 25 = .ok (.iaload, 1) := by decide +kernel
theorem dX10_longOf_26 : decode cX10_longOf 26 = .ok (.iadd, 1) := by decide +kernel
theorem dX10_longOf_27 : decode cX10_longOf 27 = .ok (.istore_n 2, 1) := by decide +kernel
theorem dX10_longOf_28 : decode cX10_longOf 28 = .ok (.iinc 3 1, 3) := by decide +kernel
theorem dX10_longOf_31 : decode cX10_longOf 31 = .ok (.goto (-27), 3) := by decide +kernel
theorem dX10_longOf_34 : decode cX10_longOf 34 = .ok (.iload_n 2, 1) := by decide +kernel
theorem dX10_longOf_35 : decode cX10_longOf 35 = .ok (.ireturn, 1) := by decide +kernel
theorem dX10_levelIn_0 : decode cX10_levelIn 0 = .ok (.aload_n 0, 1) := by decide +kernel
theorem dX10_levelIn_1 : decode cX10_levelIn 1 = .ok (.getfield 43, 3) := by decide +kernel
theorem dX10_levelIn_4 : decode cX10_levelIn 4 = .ok (.iload_n 1, 1) := by decide +kernel
theorem dX10_levelIn_5 : decode cX10_levelIn 5 = .ok (.iaload, 1) := by decide +kernel
theorem dX10_levelIn_6 : decode cX10_levelIn 6 = .ok (.ifCond .ne 10, 3) := by decide +kernel
theorem dX10_levelIn_9 : decode cX10_levelIn 9 = .ok (.aload_n 0, 1) := by decide +kernel
theorem dX10_levelIn_10 : decode cX10_levelIn 10 = .ok (.getfield 46, 3) := by decide +kernel
theorem dX10_levelIn_13 : decode cX10_levelIn 13 = .ok (.iload_n 1, 1) := by decide +kernel
theorem dX10_levelIn_14 : decode cX10_levelIn 14 = .ok (.iaload, 1) := by decide +kernel
theorem dX10_levelIn_15 : decode cX10_levelIn 15 = .ok (.ireturn, 1) := by decide +kernel
theorem dX10_levelIn_16 : decode cX10_levelIn 16 = .ok (.aload_n 0, 1) := by decide +kernel
theorem dX10_levelIn_17 : decode cX10_levelIn 17 = .ok (.getfield 43, 3) := by decide +kernel
theorem dX10_levelIn_20 : decode cX10_levelIn 20 = .ok (.iload_n 1, 1) := by decide +kernel
theorem dX10_levelIn_21 : decode cX10_levelIn 21 = .ok (.iaload, 1) := by decide +kernel
theorem dX10_levelIn_22 : decode cX10_levelIn 22 = .ok (.iconst 1, 1) := by decide +kernel
theorem dX10_levelIn_23 : decode cX10_levelIn 23 = .ok (.if_icmp .ne 35, 3) := by decide +kernel
theorem dX10_levelIn_26 : decode cX10_levelIn 26 = .ok (.aload_n 0, 1) := by decide +kernel
theorem dX10_levelIn_27 : decode cX10_levelIn 27 = .ok (.getfield 46, 3) := by decide +kernel
theorem dX10_levelIn_30 : decode cX10_levelIn 30 = .ok (.iload_n 1, 1) := by decide +kernel
theorem dX10_levelIn_31 : decode cX10_levelIn 31 = .ok (.iaload, 1) := by decide +kernel
theorem dX10_levelIn_32 : decode cX10_levelIn 32 = .ok (.aload_n 0, 1) := by decide +kernel
theorem dX10_levelIn_33 : decode cX10_levelIn 33 = .ok (.getfield 49, 3) := by decide +kernel
theorem dX10_levelIn_36 : decode cX10_levelIn 36 = .ok (.iload_n 1, 1) := by decide +kernel
theorem dX10_levelIn_37 : decode cX10_levelIn 37 = .ok (.iaload, 1) := by decide +kernel
theorem dX10_levelIn_38 : decode cX10_levelIn 38 = .ok (.aload_n 0, 1) := by decide +kernel
theorem dX10_levelIn_39 : decode cX10_levelIn 39 = .ok (.getfield 46, 3) := by decide +kernel
theorem dX10_levelIn_42 : decode cX10_levelIn 42 = .ok (.iload_n 1, 1) := by decide +kernel
theorem dX10_levelIn_43 : decode cX10_levelIn 43 = .ok (.iaload, 1) := by decide +kernel
theorem dX10_levelIn_44 : decode cX10_levelIn 44 = .ok (.isub, 1) := by decide +kernel
theorem dX10_levelIn_45 : decode cX10_levelIn 45 = .ok (.iload_n 2, 1) := by decide +kernel
theorem dX10_levelIn_46 : decode cX10_levelIn 46 = .ok (.imul, 1) := by decide +kernel
theorem dX10_levelIn_47 : decode cX10_levelIn 47 = .ok (.aload_n 0, 1) := by decide +kernel
theorem dX10_levelIn_48 : decode cX10_levelIn 48 = .ok (.getfield 52, 3) := by decide +kernel
theorem dX10_levelIn_51 : decode cX10_levelIn 51 = .ok (.iload_n 1, 1) := by decide +kernel
theorem dX10_levelIn_52 : decode cX10_levelIn 52 = .ok (.iaload, 1) := by decide +kernel
theorem dX10_levelIn_53 : decode cX10_levelIn 53 = .ok (.invokestatic 254, 3) := by decide +kernel
theorem dX10_levelIn_56 : decode cX10_levelIn 56 = .ok (.iadd, 1) := by decide +kernel
theorem dX10_levelIn_57 : decode cX10_levelIn 57 = .ok (.ireturn, 1) := by decide +kernel
theorem dX10_levelIn_58 : decode cX10_levelIn 58 = .ok (.iload_n 2, 1) := by decide +kernel
theorem dX10_levelIn_59 : decode cX10_levelIn 59 = .ok (.aload_n 0, 1) := by decide +kernel
theorem dX10_levelIn_60 : decode cX10_levelIn 60 = .ok (.getfield 49, 3) := by decide +kernel
theorem dX10_levelIn_63 : decode cX10_levelIn 63 = .ok (.iload_n 1, 1) := by decide +kernel
theorem dX10_levelIn_64 : decode cX10_levelIn 64 = .ok (.iaload, 1) := by decide +kernel
theorem dX10_levelIn_65 : decode cX10_levelIn 65 = .ok (.irem, 1) := by decide +kernel
theorem dX10_levelIn_66 : decode cX10_levelIn 66 = .ok (.istore_n 3, 1) := by decide +kernel
theorem dX10_levelIn_67 : decode cX10_levelIn 67 = .ok (.aload_n 0, 1) := by decide +kernel
theorem dX10_levelIn_68 : decode cX10_levelIn 68 = .ok (.getfield 49, 3) := by decide +kernel
theorem dX10_levelIn_71 : decode cX10_levelIn 71 = .ok (.iload_n 1, 1) := by decide +kernel
theorem dX10_levelIn_72 : decode cX10_levelIn 72 = .ok (.iaload, 1) := by decide +kernel
theorem dX10_levelIn_73 : decode cX10_levelIn 73 = .ok (.iload_n 3, 1) := by decide +kernel
theorem dX10_levelIn_74 : decode cX10_levelIn 74 = .ok (.isub, 1) := by decide +kernel
theorem dX10_levelIn_75 : decode cX10_levelIn 75 = .ok (.iload_n 3, 1) := by decide +kernel
theorem dX10_levelIn_76 : decode cX10_levelIn 76 = .ok (.if_icmp .ge 14, 3) := by decide +kernel
theorem dX10_levelIn_79 : decode cX10_levelIn 79 = .ok (.aload_n 0, 1) := by decide +kernel
theorem dX10_levelIn_80 : decode cX10_levelIn 80 = .ok (.getfield 49, 3) := by decide +kernel
theorem dX10_levelIn_83 : decode cX10_levelIn 83 = .ok (.iload_n 1, 1) := by decide +kernel
theorem dX10_levelIn_84 : decode cX10_levelIn 84 = .ok (.iaload, 1) := by decide +kernel
theorem dX10_levelIn_85 : decode cX10_levelIn 85 = .ok (.iload_n 3, 1) := by decide +kernel
theorem dX10_levelIn_86 : decode cX10_levelIn 86 = .ok (.isub, 1) := by decide +kernel
theorem dX10_levelIn_87 : decode cX10_levelIn 87 = .ok (.goto 4, 3) := by decide +kernel
theorem dX10_levelIn_90 : decode cX10_levelIn 90 = .ok (.iload_n 3, 1) := by decide +kernel
theorem dX10_levelIn_91 : decode cX10_levelIn 91 = .ok (.istore 4, 2) := by decide +kernel
theorem dX10_levelIn_93 : decode cX10_levelIn 93 = .ok (.aload_n 0, 1) := by decide +kernel
theorem dX10_levelIn_94 : decode cX10_levelIn 94 = .ok (.getfield 46, 3) := by decide +kernel
theorem dX10_levelIn_97 : decode cX10_levelIn 97 = .ok (.iload_n 1, 1) := by decide +kernel
theorem dX10_levelIn_98 : decode cX10_levelIn 98 = .ok (.iaload, 1) := by decide +kernel
theorem dX10_levelIn_99 : decode cX10_levelIn 99 = .ok (.aload_n 0, 1) := by decide +kernel
theorem dX10_levelIn_100 : decode cX10_levelIn 100 = .ok (.getfield 49, 3) := by decide +kernel
theorem dX10_levelIn_103 : decode cX10_levelIn 103 = .ok (.iload_n 1, 1) := by decide +kernel
theorem dX10_levelIn_104 : decode cX10_levelIn 104 = .ok (.iaload, 1) := by decide +kernel
theorem dX10_levelIn_105 : decode cX10_levelIn 105 = .ok (.iconst 4, 1) := by decide +kernel
theorem dX10_levelIn_106 : decode cX10_levelIn 106 = .ok (.iload 4, 2) := by decide +kernel
theorem dX10_levelIn_108 : decode cX10_levelIn 108 = .ok (.imul, 1) := by decide +kernel
theorem dX10_levelIn_109 : decode cX10_levelIn 109 = .ok (.isub, 1) := by decide +kernel
theorem dX10_levelIn_110 : decode cX10_levelIn 110 = .ok (.imul, 1) := by decide +kernel
theorem dX10_levelIn_111 : decode cX10_levelIn 111 = .ok (.aload_n 0, 1) := by decide +kernel
theorem dX10_levelIn_112 : decode cX10_levelIn 112 = .ok (.getfield 49, 3) := by decide +kernel
theorem dX10_levelIn_115 : decode cX10_levelIn 115 = .ok (.iload_n 1, 1) := by decide +kernel
theorem dX10_levelIn_116 : decode cX10_levelIn 116 = .ok (.iaload, 1) := by decide +kernel
theorem dX10_levelIn_117 : decode cX10_levelIn 117 = .ok (.invokestatic 254, 3) := by decide +kernel
theorem dX10_levelIn_120 : decode cX10_levelIn 120 = .ok (.ireturn, 1) := by decide +kernel
theorem dX10_levelOf_0 : decode cX10_levelOf 0 = .ok (.iload_n 2, 1) := by decide +kernel
theorem dX10_levelOf_1 : decode cX10_levelOf 1 = .ok (.aload_n 0, 1) := by decide +kernel
theorem dX10_levelOf_2 : decode cX10_levelOf 2 = .ok (.iload_n 1, 1) := by decide +kernel
theorem dX10_levelOf_3 : decode cX10_levelOf 3 = .ok (.invokevirtual 257, 3) := by decide +kernel
theorem dX10_levelOf_6 : decode cX10_levelOf 6 = .ok (.irem, 1) := by decide +kernel
theorem dX10_levelOf_7 : decode cX10_levelOf 7 = .ok (.istore_n 3, 1) := by decide +kernel
theorem dX10_levelOf_8 : decode cX10_levelOf 8 = .ok (.bipush 8, 2) := by decide +kernel
theorem dX10_levelOf_10 : decode cX10_levelOf 10 = .ok (.iload_n 1, 1) := by decide +kernel
theorem dX10_levelOf_11 : decode cX10_levelOf 11 = .ok (.imul, 1) := by decide +kernel
theorem dX10_levelOf_12 : decode cX10_levelOf 12 = .ok (.istore 4, 2) := by decide +kernel
theorem dX10_levelOf_14 : decode cX10_levelOf 14 = .ok (.iload_n 3, 1) := by decide +kernel
theorem dX10_levelOf_15 : decode cX10_levelOf 15 = .ok (.aload_n 0, 1) := by decide +kernel
theorem dX10_levelOf_16 : decode cX10_levelOf 16 = .ok (.getfield 52, 3) := by decide +kernel
theorem dX10_levelOf_19 : decode cX10_levelOf 19 = .ok (.iload 4, 2) := by decide +kernel
theorem dX10_levelOf_21 : decode cX10_levelOf 21 = .ok (.iaload, 1) := by decide +kernel
theorem dX10_levelOf_22 : decode cX10_levelOf 22 = .ok (.if_icmp .lt 19, 3) := by decide +kernel
theorem dX10_levelOf_25 : decode cX10_levelOf 25 = .ok (.iload_n 3, 1) := by decide +kernel
theorem dX10_levelOf_26 : decode cX10_levelOf 26 = .ok (.aload_n 0, 1) := by decide +kernel
theorem dX10_levelOf_27 : decode cX10_levelOf 27 = .ok (.getfield 52, 3) := by decide +kernel
theorem dX10_levelOf_30 : decode cX10_levelOf 30 = .ok (.iload 4, 2) := by decide +kernel
theorem dX10_levelOf_32 : decode cX10_levelOf 32 = .ok (.iaload, 1) := by decide +kernel
theorem dX10_levelOf_33 : decode cX10_levelOf 33 = .ok (.isub, 1) := by decide +kernel
theorem dX10_levelOf_34 : decode cX10_levelOf 34 = .ok (.istore_n 3, 1) := by decide +kernel
theorem dX10_levelOf_35 : decode cX10_levelOf 35 = .ok (.iinc 4 1, 3) := by decide +kernel
theorem dX10_levelOf_38 : decode cX10_levelOf 38 = .ok (.goto (-24), 3) := by decide +kernel
theorem dX10_levelOf_41 : decode cX10_levelOf 41 = .ok (.aload_n 0, 1) := by decide +kernel
theorem dX10_levelOf_42 : decode cX10_levelOf 42 = .ok (.iload 4, 2) := by decide +kernel
theorem dX10_levelOf_44 : decode cX10_levelOf 44 = .ok (.iload_n 3, 1) := by decide +kernel
theorem dX10_levelOf_45 : decode cX10_levelOf 45 = .ok (.invokevirtual 260, 3) := by decide +kernel
theorem dX10_levelOf_48 : decode cX10_levelOf 48 = .ok (.ireturn, 1) := by decide +kernel
theorem dX10_wave_0 : decode cX10_wave 0 = .ok (.aload_n 0, 1) := by decide +kernel
theorem dX10_wave_1 : decode cX10_wave 1 = .ok (.iconst 0, 1) := by decide +kernel
theorem dX10_wave_2 : decode cX10_wave 2 = .ok (.putfield 89, 3) := by decide +kernel
theorem dX10_wave_5 : decode cX10_wave 5 = .ok (.aload_n 0, 1) := by decide +kernel
theorem dX10_wave_6 : decode cX10_wave 6 = .ok (.iload_n 1, 1) := by decide +kernel
theorem dX10_wave_7 : decode cX10_wave 7 = .ok (.invokevirtual 263, 3) := by decide +kernel
theorem dX10_wave_10 : decode cX10_wave 10 = .ok (.ifCond .eq 12, 3) := by decide +kernel
theorem dX10_wave_13 : decode cX10_wave 13 = .ok (.iload_n 2, 1) := by decide +kernel
theorem dX10_wave_14 : decode cX10_wave 14 = .ok (.iconst 0, 1) := by decide +kernel
theorem dX10_wave_15 : decode cX10_wave 15 = .ok (.iconst 3, 1) := by decide +kernel
theorem dX10_wave_16 : decode cX10_wave 16 = .ok (.invokestatic 111, 3) := by decide +kernel
theorem dX10_wave_19 : decode cX10_wave 19 = .ok (.ifCond .ne 9, 3) := by decide +kernel
theorem dX10_wave_22 : decode cX10_wave 22 = .ok (.aload_n 0, 1) := by decide +kernel
theorem dX10_wave_23 : decode cX10_wave 23 = .ok (.iconst 1, 1) := by decide +kernel
theorem dX10_wave_24 : decode cX10_wave 24 = .ok (.invokevirtual 266, 3) := by decide +kernel
theorem dX10_wave_27 : decode cX10_wave 27 = .ok (.ireturn, 1) := by decide +kernel
theorem dX10_wave_28 : decode cX10_wave 28 = .ok (.iload_n 2, 1) := by decide +kernel
theorem dX10_wave_29 : decode cX10_wave 29 = .ok (.iconst 2, 1) := by decide +kernel
theorem dX10_wave_30 : decode cX10_wave 30 = .ok (.if_icmp .ge 26, 3) := by decide +kernel
theorem dX10_wave_33 : decode cX10_wave 33 = .ok (.aload_n 0, 1) := by decide +kernel
theorem dX10_wave_34 : decode cX10_wave 34 = .ok (.iload_n 2, 1) := by decide +kernel
theorem dX10_wave_35 : decode cX10_wave 35 = .ok (.ifCond .ne 12, 3) := by decide +kernel
theorem dX10_wave_38 : decode cX10_wave 38 = .ok (.aload_n 0, 1) := by decide +kernel
theorem dX10_wave_39 : decode cX10_wave 39 = .ok (.getfield 36, 3) := by decide +kernel
theorem dX10_wave_42 : decode cX10_wave 42 = .ok (.iload_n 1, 1) := by decide +kernel
theorem dX10_wave_43 : decode cX10_wave 43 = .ok (.iaload, 1) := by decide +kernel
theorem dX10_wave_44 : decode cX10_wave 44 = .ok (.goto 8, 3) := by decide +kernel
theorem dX10_wave_47 : decode cX10_wave 47 = .ok (.aload_n 0, 1) := by decide +kernel
theorem dX10_wave_48 : decode cX10_wave 48 = .ok (.iload_n 1, 1) := by decide +kernel
theorem dX10_wave_49 : decode cX10_wave 49 = .ok (.invokevirtual 257, 3) := by decide +kernel
theorem dX10_wave_52 : decode cX10_wave 52 = .ok (.invokevirtual 241, 3) := by decide +kernel
theorem dX10_wave_55 : decode cX10_wave 55 = .ok (.ireturn, 1) := by decide +kernel
theorem dX10_wave_56 : decode cX10_wave 56 = .ok (.aload_n 0, 1) := by decide +kernel
theorem dX10_wave_57 : decode cX10_wave 57 = .ok (.iload_n 1, 1) := by decide +kernel
theorem dX10_wave_58 : decode cX10_wave 58 = .ok (.iconst 0, 1) := by decide +kernel
theorem dX10_wave_59 : decode cX10_wave 59 = .ok (.invokevirtual 269, 3) := by decide +kernel
theorem dX10_wave_62 : decode cX10_wave 62 = .ok (.istore_n 3, 1) := by decide +kernel
theorem dX10_wave_63 : decode cX10_wave 63 = .ok (.iconst 1, 1) := by decide +kernel
theorem dX10_wave_64 : decode cX10_wave 64 = .ok (.istore 4, 2) := by decide +kernel
theorem dX10_wave_66 : decode cX10_wave 66 = .ok (.iload 4, 2) := by decide +kernel
theorem dX10_wave_68 : decode cX10_wave 68 = .ok (.aload_n 0, 1) := by decide +kernel
theorem dX10_wave_69 : decode cX10_wave 69 = .ok (.iload_n 1, 1) := by decide +kernel
theorem dX10_wave_70 : decode cX10_wave 70 = .ok (.invokevirtual 257, 3) := by decide +kernel
theorem dX10_wave_73 : decode cX10_wave 73 = .ok (.if_icmp .ge 41, 3) := by decide +kernel
theorem dX10_wave_76 : decode cX10_wave 76 = .ok (.aload_n 0, 1) := by decide +kernel
theorem dX10_wave_77 : decode cX10_wave 77 = .ok (.iload_n 1, 1) := by decide +kernel
theorem dX10_wave_78 : decode cX10_wave 78 = .ok (.iload 4, 2) := by decide +kernel
theorem dX10_wave_80 : decode cX10_wave 80 = .ok (.invokevirtual 269, 3) := by decide +kernel
theorem dX10_wave_83 : decode cX10_wave 83 = .ok (.istore 5, 2) := by decide +kernel
theorem dX10_wave_85 : decode cX10_wave 85 = .ok (.iload_n 2, 1) := by decide +kernel
theorem dX10_wave_86 : decode cX10_wave 86 = .ok (.iconst 2, 1) := by decide +kernel
theorem dX10_wave_87 : decode cX10_wave 87 = .ok (.if_icmp .ne 12, 3) := by decide +kernel
theorem dX10_wave_90 : decode cX10_wave 90 = .ok (.iload 5, 2) := by decide +kernel
theorem dX10_wave_92 : decode cX10_wave 92 = .ok (.iload_n 3, 1) := by decide +kernel
theorem dX10_wave_93 : decode cX10_wave 93 = .ok (.if_icmp .ge 15, 3) := by decide +kernel
theorem dX10_wave_96 : decode cX10_wave 96 = .ok (.goto 9, 3) := by decide +kernel
theorem dX10_wave_99 : decode cX10_wave 99 = .ok (.iload 5, 2) := by decide +kernel
theorem dX10_wave_101 : decode cX10_wave 101 = .ok (.iload_n 3, 1) := by decide +kernel
theorem dX10_wave_102 : decode cX10_wave 102 = .ok (.if_icmp .le 6, 3) := by decide +kernel
theorem dX10_wave_105 : decode cX10_wave 105 = .ok (.iload 5, 2) := by decide +kernel
theorem dX10_wave_107 : decode cX10_wave 107 = .ok (.istore_n 3, 1) := by decide +kernel
theorem dX10_wave_108 : decode cX10_wave 108 = .ok (.iinc 4 1, 3) := by decide +kernel
theorem dX10_wave_111 : decode cX10_wave 111 = .ok (.goto (-45), 3) := by decide +kernel
theorem dX10_wave_114 : decode cX10_wave 114 = .ok (.aload_n 0, 1) := by decide +kernel
theorem dX10_wave_115 : decode cX10_wave 115 = .ok (.iload_n 3, 1) := by decide +kernel
theorem dX10_wave_116 : decode cX10_wave 116 = .ok (.invokevirtual 241, 3) := by decide +kernel
theorem dX10_wave_119 : decode cX10_wave 119 = .ok (.ireturn, 1) := by decide +kernel
theorem dX10_level_0 : decode cX10_level 0 = .ok (.aload_n 0, 1) := by decide +kernel
theorem dX10_level_1 : decode cX10_level 1 = .ok (.iconst 0, 1) := by decide +kernel
theorem dX10_level_2 : decode cX10_level 2 = .ok (.putfield 89, 3) := by decide +kernel
theorem dX10_level_5 : decode cX10_level 5 = .ok (.aload_n 0, 1) := by decide +kernel
theorem dX10_level_6 : decode cX10_level 6 = .ok (.iload_n 1, 1) := by decide +kernel
theorem dX10_level_7 : decode cX10_level 7 = .ok (.invokevirtual 263, 3) := by decide +kernel
theorem dX10_level_10 : decode cX10_level 10 = .ok (.ifCond .ne 9, 3) := by decide +kernel
theorem dX10_level_13 : decode cX10_level 13 = .ok (.aload_n 0, 1) := by decide +kernel
theorem dX10_level_14 : decode cX10_level 14 = .ok (.iconst 1, 1) := by decide +kernel
theorem dX10_level_15 : decode cX10_level 15 = .ok (.invokevirtual 266, 3) := by decide +kernel
theorem dX10_level_18 : decode cX10_level 18 = .ok (.ireturn, 1) := by decide +kernel
theorem dX10_level_19 : decode cX10_level 19 = .ok (.iload_n 2, 1) := by decide +kernel
theorem dX10_level_20 : decode cX10_level 20 = .ok (.ifCond .ge 11, 3) := by decide +kernel
theorem dX10_level_23 : decode cX10_level 23 = .ok (.aload_n 0, 1) := by decide +kernel
theorem dX10_level_24 : decode cX10_level 24 = .ok (.iconst 2, 1) := by decide +kernel
theorem dX10_level_25 : decode cX10_level 25 = .ok (.invokevirtual 266, 3) := by decide +kernel
theorem dX10_level_28 : decode cX10_level 28 = .ok (.goto 13, 3) := by decide +kernel
theorem dX10_level_31 : decode cX10_level 31 = .ok (.aload_n 0, 1) := by decide +kernel
theorem dX10_level_32 : decode cX10_level 32 = .ok (.aload_n 0, 1) := by decide +kernel
theorem dX10_level_33 : decode cX10_level 33 = .ok (.iload_n 1, 1) := by decide +kernel
theorem dX10_level_34 : decode cX10_level 34 = .ok (.iload_n 2, 1) := by decide +kernel
theorem dX10_level_35 : decode cX10_level 35 = .ok (.invokevirtual 269, 3) := by decide +kernel
theorem dX10_level_38 : decode cX10_level 38 = .ok (.invokevirtual 241, 3) := by decide +kernel
theorem dX10_level_41 : decode cX10_level 41 = .ok (.ireturn, 1) := by decide +kernel
theorem dX10_starts_0 : decode cX10_starts 0 = .ok (.iconst 0, 1) := by decide +kernel
theorem dX10_starts_1 : decode cX10_starts 1 = .ok (.istore 4, 2) := by decide +kernel
theorem dX10_starts_3 : decode cX10_starts 3 = .ok (.iload 4, 2) := by decide +kernel
theorem dX10_starts_5 : decode cX10_starts 5 = .ok (.bipush 11, 2) := by decide +kernel
theorem dX10_starts_7 : decode cX10_starts 7 = .ok (.if_icmp .ge 14, 3) := by decide +kernel
theorem dX10_starts_10 : decode cX10_starts 10 = .ok (.aload_n 1, 1) := by decide +kernel
theorem dX10_starts_11 : decode cX10_starts 11 = .ok (.iload 4, 2) := by decide +kernel
theorem dX10_starts_13 : decode cX10_starts 13 = .ok (.iconst 0, 1) := by decide +kernel
theorem dX10_starts_14 : decode cX10_starts 14 = .ok (.iastore, 1) := by decide +kernel
theorem dX10_starts_15 : decode cX10_starts 15 = .ok (.iinc 4 1, 3) := by decide +kernel
theorem dX10_starts_18 : decode cX10_starts 18 = .ok (.goto (-15), 3) := by decide +kernel
theorem dX10_starts_21 : decode cX10_starts 21 = .ok (.aload_n 1, 1) := by decide +kernel
theorem dX10_starts_22 : decode cX10_starts 22 = .ok (.iconst 0, 1) := by decide +kernel
theorem dX10_starts_23 : decode cX10_starts 23 = .ok (.iload_n 2, 1) := by decide +kernel
theorem dX10_starts_24 : decode cX10_starts 24 = .ok (.iastore, 1) := by decide +kernel
theorem dX10_starts_25 : decode cX10_starts 25 = .ok (.aload_n 1, 1) := by decide +kernel
theorem dX10_starts_26 : decode cX10_starts 26 = .ok (.iconst 1, 1) := by decide +kernel
theorem dX10_starts_27 : decode cX10_starts 27 = .ok (.iload_n 3, 1) := by decide +kernel
theorem dX10_starts_28 : decode cX10_starts 28 = .ok (.iastore, 1) := by decide +kernel
theorem dX10_starts_29 : decode cX10_starts 29 = .ok (.aload_n 1, 1) := by decide +kernel
theorem dX10_starts_30 : decode cX10_starts 30 = .ok (.iconst 3, 1) := by decide +kernel
theorem dX10_starts_31 : decode cX10_starts 31 = .ok (.aload_n 0, 1) := by decide +kernel
theorem dX10_starts_32 : decode cX10_starts 32 = .ok (.getfield 80, 3) := by decide +kernel
theorem dX10_starts_35 : decode cX10_starts 35 = .ok (.iastore, 1) := by decide +kernel
theorem dX10_starts_36 : decode cX10_starts 36 = .ok (.return_, 1) := by decide +kernel
theorem dX10_clock_0 : decode cX10_clock 0 = .ok (.aload_n 1, 1) := by decide +kernel
theorem dX10_clock_1 : decode cX10_clock 1 = .ok (.iconst 0, 1) := by decide +kernel
theorem dX10_clock_2 : decode cX10_clock 2 = .ok (.iaload, 1) := by decide +kernel
theorem dX10_clock_3 : decode cX10_clock 3 = .ok (.istore 4, 2) := by decide +kernel
theorem dX10_clock_5 : decode cX10_clock 5 = .ok (.iconst 0, 1) := by decide +kernel
theorem dX10_clock_6 : decode cX10_clock 6 = .ok (.istore 5, 2) := by decide +kernel
theorem dX10_clock_8 : decode cX10_clock 8 = .ok (.iload_n 3, 1) := by decide +kernel
theorem dX10_clock_9 : decode cX10_clock 9 = .ok (.ifCond .le 63, 3) := by decide +kernel
theorem dX10_clock_12 : decode cX10_clock 12 = .ok (.aload_n 1, 1) := by decide +kernel
theorem dX10_clock_13 : decode cX10_clock 13 = .ok (.iconst 3, 1) := by decide +kernel
theorem dX10_clock_14 : decode cX10_clock 14 = .ok (.iaload, 1) := by decide +kernel
theorem dX10_clock_15 : decode cX10_clock 15 = .ok (.istore 6, 2) := by decide +kernel
theorem dX10_clock_17 : decode cX10_clock 17 = .ok (.iload 6, 2) := by decide +kernel
theorem dX10_clock_19 : decode cX10_clock 19 = .ok (.iload 6, 2) := by decide +kernel
theorem dX10_clock_21 : decode cX10_clock 21 = .ok (.iconst 2, 1) := by decide +kernel
theorem dX10_clock_22 : decode cX10_clock 22 = .ok (.ishr, 1) := by decide +kernel
theorem dX10_clock_23 : decode cX10_clock 23 = .ok (.ixor, 1) := by decide +kernel
theorem dX10_clock_24 : decode cX10_clock 24 = .ok (.iload 6, 2) := by decide +kernel
theorem dX10_clock_26 : decode cX10_clock 26 = .ok (.iconst 3, 1) := by decide +kernel
theorem dX10_clock_27 : decode cX10_clock 27 = .ok (.ishr, 1) := by decide +kernel
theorem dX10_clock_28 : decode cX10_clock 28 = .ok (.ixor, 1) := by decide +kernel
theorem dX10_clock_29 : decode cX10_clock 29 = .ok (.iload 6, 2) := by decide +kernel
theorem dX10_clock_31 : decode cX10_clock 31 = .ok (.iconst 5, 1) := by decide +kernel
theorem dX10_clock_32 : decode cX10_clock 32 = .ok (.ishr, 1) := by decide +kernel
theorem dX10_clock_33 : decode cX10_clock 33 = .ok (.ixor, 1) := by decide +kernel
theorem dX10_clock_34 : decode cX10_clock 34 = .ok (.iconst 1, 1) := by decide +kernel
theorem dX10_clock_35 : decode cX10_clock 35 = .ok (.iand, 1) := by decide +kernel
theorem dX10_clock_36 : decode cX10_clock 36 = .ok (.istore 7, 2) := by decide +kernel
theorem dX10_clock_38 : decode cX10_clock 38 = .ok (.iload 6, 2) := by decide +kernel
theorem dX10_clock_40 : decode cX10_clock 40 = .ok (.iconst 2, 1) := by decide +kernel
theorem dX10_clock_41 : decode cX10_clock 41 = .ok (.idiv, 1) := by decide +kernel
theorem dX10_clock_42 : decode cX10_clock 42 = .ok (.ldc_w 272, 3) := by decide +kernel
theorem dX10_clock_45 : decode cX10_clock 45 = .ok (.iload 7, 2) := by decide +kernel
theorem dX10_clock_47 : decode cX10_clock 47 = .ok (.imul, 1) := by decide +kernel
theorem dX10_clock_48 : decode cX10_clock 48 = .ok (.iadd, 1) := by decide +kernel
theorem dX10_clock_49 : decode cX10_clock 49 = .ok (.istore 6, 2) := by decide +kernel
theorem dX10_clock_51 : decode cX10_clock 51 = .ok (.aload_n 1, 1) := by decide +kernel
theorem dX10_clock_52 : decode cX10_clock 52 = .ok (.iconst 3, 1) := by decide +kernel
theorem dX10_clock_53 : decode cX10_clock 53 = .ok (.iload 6, 2) := by decide +kernel
theorem dX10_clock_55 : decode cX10_clock 55 = .ok (.iastore, 1) := by decide +kernel
theorem dX10_clock_56 : decode cX10_clock 56 = .ok (.iload 6, 2) := by decide +kernel
theorem dX10_clock_58 : decode cX10_clock 58 = .ok (.iconst 2, 1) := by decide +kernel
theorem dX10_clock_59 : decode cX10_clock 59 = .ok (.irem, 1) := by decide +kernel
theorem dX10_clock_60 : decode cX10_clock 60 = .ok (.iconst 1, 1) := by decide +kernel
theorem dX10_clock_61 : decode cX10_clock 61 = .ok (.if_icmp .ne 7, 3) := by decide +kernel
theorem dX10_clock_64 : decode cX10_clock 64 = .ok (.iload_n 3, 1) := by decide +kernel
theorem dX10_clock_65 : decode cX10_clock 65 = .ok (.goto 5, 3) := by decide +kernel
theorem dX10_clock_68 : decode cX10_clock 68 = .ok (.iload_n 3, 1) := by decide +kernel
theorem dX10_clock_69 : decode cX10_clock 69 = .ok (.ineg, 1) := by decide +kernel
theorem dX10_clock_70 : decode cX10_clock 70 = .ok (.istore 5, 2) := by decide +kernel
theorem dX10_clock_72 : decode cX10_clock 72 = .ok (.aload_n 1, 1) := by decide +kernel
theorem dX10_clock_73 : decode cX10_clock 73 = .ok (.iconst 5, 1) := by decide +kernel
theorem dX10_clock_74 : decode cX10_clock 74 = .ok (.aload_n 0, 1) := by decide +kernel
theorem dX10_clock_75 : decode cX10_clock 75 = .ok (.getfield 24, 3) := by decide +kernel
theorem dX10_clock_78 : decode cX10_clock 78 = .ok (.iload 4, 2) := by decide +kernel
theorem dX10_clock_80 : decode cX10_clock 80 = .ok (.iaload, 1) := by decide +kernel
theorem dX10_clock_81 : decode cX10_clock 81 = .ok (.iadd, 1) := by decide +kernel
theorem dX10_clock_82 : decode cX10_clock 82 = .ok (.iconst 1, 1) := by decide +kernel
theorem dX10_clock_83 : decode cX10_clock 83 = .ok (.isub, 1) := by decide +kernel
theorem dX10_clock_84 : decode cX10_clock 84 = .ok (.iaload, 1) := by decide +kernel
theorem dX10_clock_85 : decode cX10_clock 85 = .ok (.iload 5, 2) := by decide +kernel
theorem dX10_clock_87 : decode cX10_clock 87 = .ok (.iadd, 1) := by decide +kernel
theorem dX10_clock_88 : decode cX10_clock 88 = .ok (.istore 6, 2) := by decide +kernel
theorem dX10_clock_90 : decode cX10_clock 90 = .ok (.aload_n 0, 1) := by decide +kernel
theorem dX10_clock_91 : decode cX10_clock 91 = .ok (.getfield 39, 3) := by decide +kernel
theorem dX10_clock_94 : decode cX10_clock 94 = .ok (.iload 4, 2) := by decide +kernel
theorem dX10_clock_96 : decode cX10_clock 96 = .ok (.baload, 1) := by decide +kernel
theorem dX10_clock_97 : decode cX10_clock 97 = .ok (.ifCond .eq 31, 3) := by decide +kernel
theorem dX10_clock_100 : decode cX10_clock 100 = .ok (.iload 6, 2) := by decide +kernel
theorem dX10_clock_102 : decode cX10_clock 102 = .ok (.sipush 500, 3) := by decide +kernel
theorem dX10_clock_105 : decode cX10_clock 105 = .ok (.if_icmp .lt 7, 3) := by decide +kernel
theorem dX10_clock_108 : decode cX10_clock 108 = .ok (.iconst 1, 1) := by decide +kernel
theorem dX10_clock_109 : decode cX10_clock 109 = .ok (.goto 29, 3) := by decide +kernel
theorem dX10_clock_112 : decode cX10_clock 112 = .ok (.iload 6, 2) := by decide +kernel
theorem dX10_clock_114 : decode cX10_clock 114 = .ok (.sipush (-500), 3) := by decide +kernel
theorem dX10_clock_117 : decode cX10_clock 117 = .ok (.if_icmp .gt 7, 3) := by decide +kernel
theorem dX10_clock_120 : decode cX10_clock 120 = .ok (.iconst (-1), 1) := by decide +kernel
theorem dX10_clock_121 : decode cX10_clock 121 = .ok (.goto 17, 3) := by decide +kernel
theorem dX10_clock_124 : decode cX10_clock 124 = .ok (.iconst 0, 1) := by decide +kernel
theorem dX10_clock_125 : decode cX10_clock 125 = .ok (.goto 13, 3) := by decide +kernel
theorem dX10_clock_128 : decode cX10_clock 128 = .ok (.iload 6, 2) := by decide +kernel
theorem dX10_clock_130 : decode cX10_clock 130 = .ok (.ifCond .lt 7, 3) := by decide +kernel
theorem dX10_clock_133 : decode cX10_clock 133 = .ok (.iconst 1, 1) := by decide +kernel
theorem dX10_clock_134 : decode cX10_clock 134 = .ok (.goto 4, 3) := by decide +kernel
theorem dX10_clock_137 : decode cX10_clock 137 = .ok (.iconst (-1), 1) := by decide +kernel
theorem dX10_clock_138 : decode cX10_clock 138 = .ok (.istore 7, 2) := by decide +kernel
theorem dX10_clock_140 : decode cX10_clock 140 = .ok (.iload_n 2, 1) := by decide +kernel
theorem dX10_clock_141 : decode cX10_clock 141 = .ok (.istore 8, 2) := by decide +kernel
theorem dX10_clock_143 : decode cX10_clock 143 = .ok (.iconst 0, 1) := by decide +kernel
theorem dX10_clock_144 : decode cX10_clock 144 = .ok (.istore 9, 2) := by decide +kernel
theorem dX10_clock_146 : decode cX10_clock 146 = .ok (.iload 9, 2) := by decide +kernel
theorem dX10_clock_148 : decode cX10_clock 148 = .ok (.aload_n 0, 1) := by decide +kernel
theorem dX10_clock_149 : decode cX10_clock 149 = .ok (.getfield 24, 3) := by decide +kernel
theorem dX10_clock_152 : decode cX10_clock 152 = .ok (.iload 4, 2) := by decide +kernel
theorem dX10_clock_154 : decode cX10_clock 154 = .ok (.iaload, 1) := by decide +kernel
theorem dX10_clock_155 : decode cX10_clock 155 = .ok (.if_icmp .ge 141, 3) := by decide +kernel
theorem dX10_clock_158 : decode cX10_clock 158 = .ok (.aload_n 1, 1) := by decide +kernel
theorem dX10_clock_159 : decode cX10_clock 159 = .ok (.iconst 5, 1) := by decide +kernel
theorem dX10_clock_160 : decode cX10_clock 160 = .ok (.iload 9, 2) := by decide +kernel
theorem dX10_clock_162 : decode cX10_clock 162 = .ok (.iadd, 1) := by decide +kernel
theorem dX10_clock_163 : decode cX10_clock 163 = .ok (.iaload, 1) := by decide +kernel
theorem dX10_clock_164 : decode cX10_clock 164 = .ok (.aload_n 0, 1) := by decide +kernel
theorem dX10_clock_165 : decode cX10_clock 165 = .ok (.getfield 27, 3) := by decide +kernel
theorem dX10_clock_168 : decode cX10_clock 168 = .ok (.iconst 3, 1) := by decide +kernel
theorem dX10_clock_169 : decode cX10_clock 169 = .ok (.iload 4, 2) := by decide +kernel
theorem dX10_clock_171 : decode cX10_clock 171 = .ok (.imul, 1) := by decide +kernel
theorem dX10_clock_172 : decode cX10_clock 172 = .ok (.iload 9, 2) := by decide +kernel
theorem dX10_clock_174 : decode cX10_clock 174 = .ok (.iadd, 1) := by decide +kernel
theorem dX10_clock_175 : decode cX10_clock 175 = .ok (.iaload, 1) := by decide +kernel
theorem dX10_clock_176 : decode cX10_clock 176 = .ok (.iload 8, 2) := by decide +kernel
theorem dX10_clock_178 : decode cX10_clock 178 = .ok (.sipush 1000, 3) := by decide +kernel
theorem dX10_clock_181 : decode cX10_clock 181 = .ok (.iload 7, 2) := by decide +kernel
theorem dX10_clock_183 : decode cX10_clock 183 = .ok (.imul, 1) := by decide +kernel
theorem dX10_clock_184 : decode cX10_clock 184 = .ok (.isub, 1) := by decide +kernel
theorem dX10_clock_185 : decode cX10_clock 185 = .ok (.imul, 1) := by decide +kernel
theorem dX10_clock_186 : decode cX10_clock 186 = .ok (.bipush 16, 2) := by decide +kernel
theorem dX10_clock_188 : decode cX10_clock 188 = .ok (.invokestatic 254, 3) := by decide +kernel
theorem dX10_clock_191 : decode cX10_clock 191 = .ok (.iadd, 1) := by decide +kernel
theorem dX10_clock_192 : decode cX10_clock 192 = .ok (.istore 10, 2) := by decide +kernel
theorem dX10_clock_194 : decode cX10_clock 194 = .ok (.iload 10, 2) := by decide +kernel
theorem dX10_clock_196 : decode cX10_clock 196 = .ok (.aload_n 0, 1) := by decide +kernel
theorem dX10_clock_197 : decode cX10_clock 197 = .ok (.getfield 30, 3) := by decide +kernel
theorem dX10_clock_200 : decode cX10_clock 200 = .ok (.iload 4, 2) := by decide +kernel
theorem dX10_clock_202 : decode cX10_clock 202 = .ok (.iaload, 1) := by decide +kernel
theorem dX10_clock_203 : decode cX10_clock 203 = .ok (.if_icmp .gt 16, 3) := by decide +kernel
theorem dX10_clock_206 : decode cX10_clock 206 = .ok (.iload 10, 2) := by decide +kernel
theorem dX10_clock_208 : decode cX10_clock 208 = .ok (.aload_n 0, 1) := by decide +kernel
theorem dX10_clock_209 : decode cX10_clock 209 = .ok (.getfield 30, 3) := by decide +kernel
theorem dX10_clock_212 : decode cX10_clock 212 = .ok (.iload 4, 2) := by decide +kernel
theorem dX10_clock_214 : decode cX10_clock 214 = .ok (.iaload, 1) := by decide +kernel
theorem dX10_clock_215 : decode cX10_clock 215 = .ok (.ineg, 1) := by decide +kernel
theorem dX10_clock_216 : decode cX10_clock 216 = .ok (.if_icmp .ge 35, 3) := by decide +kernel
theorem dX10_clock_219 : decode cX10_clock 219 = .ok (.aload_n 1, 1) := by decide +kernel
theorem dX10_clock_220 : decode cX10_clock 220 = .ok (.iconst 4, 1) := by decide +kernel
theorem dX10_clock_221 : decode cX10_clock 221 = .ok (.dup2, 1) := by decide +kernel
theorem dX10_clock_222 : decode cX10_clock 222 = .ok (.iaload, 1) := by decide +kernel
theorem dX10_clock_223 : decode cX10_clock 223 = .ok (.iconst 1, 1) := by decide +kernel
theorem dX10_clock_224 : decode cX10_clock 224 = .ok (.iadd, 1) := by decide +kernel
theorem dX10_clock_225 : decode cX10_clock 225 = .ok (.iastore, 1) := by decide +kernel
theorem dX10_clock_226 : decode cX10_clock 226 = .ok (.iload 10, 2) := by decide +kernel
theorem dX10_clock_228 : decode cX10_clock 228 = .ok (.ifCond .le 13, 3) := by decide +kernel
theorem dX10_clock_231 : decode cX10_clock 231 = .ok (.aload_n 0, 1) := by decide +kernel
theorem dX10_clock_232 : decode cX10_clock 232 = .ok (.getfield 30, 3) := by decide +kernel
theorem dX10_clock_235 : decode cX10_clock 235 = .ok (.iload 4, 2) := by decide +kernel
theorem dX10_clock_237 : decode cX10_clock 237 = .ok (.iaload, 1) := by decide +kernel
theorem dX10_clock_238 : decode cX10_clock 238 = .ok (.goto 11, 3) := by decide +kernel
theorem dX10_clock_241 : decode cX10_clock 241 = .ok (.aload_n 0, 1) := by decide +kernel
theorem dX10_clock_242 : decode cX10_clock 242 = .ok (.getfield 30, 3) := by decide +kernel
theorem dX10_clock_245 : decode cX10_clock 245 = .ok (.iload 4, 2) := by decide +kernel
theorem dX10_clock_247 : decode cX10_clock 247 = .ok (.iaload, 1) := by decide +kernel
theorem dX10_clock_248 : decode cX10_clock 248 = .ok (.ineg, 1) := by decide +kernel
theorem dX10_clock_249 : decode cX10_clock 249 = .ok (.istore 10, 2) := by decide +kernel
theorem dX10_clock_251 : decode cX10_clock 251 = .ok (.aload_n 1, 1) := by decide +kernel
theorem dX10_clock_252 : decode cX10_clock 252 = .ok (.iconst 5, 1) := by decide +kernel
theorem dX10_clock_253 : decode cX10_clock 253 = .ok (.iload 9, 2) := by decide +kernel
theorem dX10_clock_255 : decode cX10_clock 255 = .ok (.iadd, 1) := by decide +kernel
theorem dX10_clock_256 : decode cX10_clock 256 = .ok (.iload 10, 2) := by decide +kernel
theorem dX10_clock_258 : decode cX10_clock 258 = .ok (.iastore, 1) := by decide +kernel
theorem dX10_clock_259 : decode cX10_clock 259 = .ok (.iload 10, 2) := by decide +kernel
theorem dX10_clock_261 : decode cX10_clock 261 = .ok (.invokestatic 273, 3) := by decide +kernel
theorem dX10_clock_264 : decode cX10_clock 264 = .ok (.aload_n 1, 1) := by decide +kernel
theorem dX10_clock_265 : decode cX10_clock 265 = .ok (.bipush 8, 2) := by decide +kernel
theorem dX10_clock_267 : decode cX10_clock 267 = .ok (.iload 9, 2) := by decide +kernel
theorem dX10_clock_269 : decode cX10_clock 269 = .ok (.iadd, 1) := by decide +kernel
theorem dX10_clock_270 : decode cX10_clock 270 = .ok (.iaload, 1) := by decide +kernel
theorem dX10_clock_271 : decode cX10_clock 271 = .ok (.if_icmp .le 15, 3) := by decide +kernel
theorem dX10_clock_274 : decode cX10_clock 274 = .ok (.aload_n 1, 1) := by decide +kernel
theorem dX10_clock_275 : decode cX10_clock 275 = .ok (.bipush 8, 2) := by decide +kernel
theorem dX10_clock_277 : decode cX10_clock 277 = .ok (.iload 9, 2) := by decide +kernel
theorem dX10_clock_279 : decode cX10_clock 279 = .ok (.iadd, 1) := by decide +kernel
theorem dX10_clock_280 : decode cX10_clock 280 = .ok (.iload 10, 2) := by decide +kernel
theorem dX10_clock_282 : decode cX10_clock 282 = .ok (.invokestatic 273, 3) := by decide +kernel
theorem dX10_clock_285 : decode cX10_clock 285 = .ok (.iastore, 1) := by decide +kernel
theorem dX10_clock_286 : decode cX10_clock 286 = .ok (.iload 10, 2) := by decide +kernel
theorem dX10_clock_288 : decode cX10_clock 288 = .ok (.istore 8, 2) := by decide +kernel
theorem dX10_clock_290 : decode cX10_clock 290 = .ok (.iinc 9 1, 3) := by decide +kernel
theorem dX10_clock_293 : decode cX10_clock 293 = .ok (.goto (-147), 3) := by decide +kernel
theorem dX10_clock_296 : decode cX10_clock 296 = .ok (.aload_n 1, 1) := by decide +kernel
theorem dX10_clock_297 : decode cX10_clock 297 = .ok (.iconst 2, 1) := by decide +kernel
theorem dX10_clock_298 : decode cX10_clock 298 = .ok (.dup2, 1) := by decide +kernel
theorem dX10_clock_299 : decode cX10_clock 299 = .ok (.iaload, 1) := by decide +kernel
theorem dX10_clock_300 : decode cX10_clock 300 = .ok (.iconst 1, 1) := by decide +kernel
theorem dX10_clock_301 : decode cX10_clock 301 = .ok (.iadd, 1) := by decide +kernel
theorem dX10_clock_302 : decode cX10_clock 302 = .ok (.iastore, 1) := by decide +kernel
theorem dX10_clock_303 : decode cX10_clock 303 = .ok (.iload 7, 2) := by decide +kernel
theorem dX10_clock_305 : decode cX10_clock 305 = .ok (.ireturn, 1) := by decide +kernel
theorem dX10_hasRun_0 : decode cX10_hasRun 0 = .ok (.aload_n 0, 1) := by decide +kernel
theorem dX10_hasRun_1 : decode cX10_hasRun 1 = .ok (.getfield 247, 3) := by decide +kernel
theorem dX10_hasRun_4 : decode cX10_hasRun 4 = .ok (.ifCond .eq 17, 3) := by decide +kernel
theorem dX10_hasRun_7 : decode cX10_hasRun 7 = .ok (.aload_n 0, 1) := by decide +kernel
theorem dX10_hasRun_8 : decode cX10_hasRun 8 = .ok (.getfield 55, 3) := by decide +kernel
theorem dX10_hasRun_11 : decode cX10_hasRun 11 = .ok (.iconst 0, 1) := by decide +kernel
theorem dX10_hasRun_12 : decode cX10_hasRun 12 = .ok (.iaload, 1) := by decide +kernel
theorem dX10_hasRun_13 : decode cX10_hasRun 13 = .ok (.iconst (-1), 1) := by decide +kernel
theorem dX10_hasRun_14 : decode cX10_hasRun 14 = .ok (.if_icmp .eq 7, 3) := by decide +kernel
theorem dX10_hasRun_17 : decode cX10_hasRun 17 = .ok (.iconst 1, 1) := by decide +kernel
theorem dX10_hasRun_18 : decode cX10_hasRun 18 = .ok (.goto 4, 3) := by decide +kernel
theorem dX10_hasRun_21 : decode cX10_hasRun 21 = .ok (.iconst 0, 1) := by decide +kernel
theorem dX10_hasRun_22 : decode cX10_hasRun 22 = .ok (.ireturn, 1) := by decide +kernel
theorem dX10_seed_0 : decode cX10_seed 0 = .ok (.aload_n 0, 1) := by decide +kernel
theorem dX10_seed_1 : decode cX10_seed 1 = .ok (.iconst 0, 1) := by decide +kernel
theorem dX10_seed_2 : decode cX10_seed 2 = .ok (.putfield 89, 3) := by decide +kernel
theorem dX10_seed_5 : decode cX10_seed 5 = .ok (.iload_n 1, 1) := by decide +kernel
theorem dX10_seed_6 : decode cX10_seed 6 = .ok (.iconst 1, 1) := by decide +kernel
theorem dX10_seed_7 : decode cX10_seed 7 = .ok (.ldc_w 276, 3) := by decide +kernel
theorem dX10_seed_10 : decode cX10_seed 10 = .ok (.invokestatic 111, 3) := by decide +kernel
theorem dX10_seed_13 : decode cX10_seed 13 = .ok (.ifCond .ne 9, 3) := by decide +kernel
theorem dX10_seed_16 : decode cX10_seed 16 = .ok (.aload_n 0, 1) := by decide +kernel
theorem dX10_seed_17 : decode cX10_seed 17 = .ok (.iconst 2, 1) := by decide +kernel
theorem dX10_seed_18 : decode cX10_seed 18 = .ok (.invokevirtual 277, 3) := by decide +kernel
theorem dX10_seed_21 : decode cX10_seed 21 = .ok (.ireturn, 1) := by decide +kernel
theorem dX10_seed_22 : decode cX10_seed 22 = .ok (.aload_n 0, 1) := by decide +kernel
theorem dX10_seed_23 : decode cX10_seed 23 = .ok (.iload_n 1, 1) := by decide +kernel
theorem dX10_seed_24 : decode cX10_seed 24 = .ok (.putfield 80, 3) := by decide +kernel
theorem dX10_seed_27 : decode cX10_seed 27 = .ok (.aload_n 0, 1) := by decide +kernel
theorem dX10_seed_28 : decode cX10_seed 28 = .ok (.iconst 0, 1) := by decide +kernel
theorem dX10_seed_29 : decode cX10_seed 29 = .ok (.invokevirtual 277, 3) := by decide +kernel
theorem dX10_seed_32 : decode cX10_seed 32 = .ok (.ireturn, 1) := by decide +kernel
theorem dX10_begin_0 : decode cX10_begin 0 = .ok (.aload_n 0, 1) := by decide +kernel
theorem dX10_begin_1 : decode cX10_begin 1 = .ok (.iconst 0, 1) := by decide +kernel
theorem dX10_begin_2 : decode cX10_begin 2 = .ok (.putfield 89, 3) := by decide +kernel
theorem dX10_begin_5 : decode cX10_begin 5 = .ok (.aload_n 0, 1) := by decide +kernel
theorem dX10_begin_6 : decode cX10_begin 6 = .ok (.iload_n 1, 1) := by decide +kernel
theorem dX10_begin_7 : decode cX10_begin 7 = .ok (.invokevirtual 251, 3) := by decide +kernel
theorem dX10_begin_10 : decode cX10_begin 10 = .ok (.ifCond .eq 11, 3) := by decide +kernel
theorem dX10_begin_13 : decode cX10_begin 13 = .ok (.aload_n 0, 1) := by decide +kernel
theorem dX10_begin_14 : decode cX10_begin 14 = .ok (.iload_n 2, 1) := by decide +kernel
theorem dX10_begin_15 : decode cX10_begin 15 = .ok (.invokevirtual 263, 3) := by decide +kernel
theorem dX10_begin_18 : decode cX10_begin 18 = .ok (.ifCond .ne 9, 3) := by decide +kernel
theorem dX10_begin_21 : decode cX10_begin 21 = .ok (.aload_n 0, 1) := by decide +kernel
theorem dX10_begin_22 : decode cX10_begin 22 = .ok (.iconst 1, 1) := by decide +kernel
theorem dX10_begin_23 : decode cX10_begin 23 = .ok (.invokevirtual 277, 3) := by decide +kernel
theorem dX10_begin_26 : decode cX10_begin 26 = .ok (.ireturn, 1) := by decide +kernel
theorem dX10_begin_27 : decode cX10_begin 27 = .ok (.aload_n 0, 1) := by decide +kernel
theorem dX10_begin_28 : decode cX10_begin 28 = .ok (.aload_n 0, 1) := by decide +kernel
theorem dX10_begin_29 : decode cX10_begin 29 = .ok (.getfield 55, 3) := by decide +kernel
theorem dX10_begin_32 : decode cX10_begin 32 = .ok (.iload_n 1, 1) := by decide +kernel
theorem dX10_begin_33 : decode cX10_begin 33 = .ok (.iload_n 2, 1) := by decide +kernel
theorem dX10_begin_34 : decode cX10_begin 34 = .ok (.invokevirtual 280, 3) := by decide +kernel
theorem dX10_begin_37 : decode cX10_begin 37 = .ok (.aload_n 0, 1) := by decide +kernel
theorem dX10_begin_38 : decode cX10_begin 38 = .ok (.iconst 0, 1) := by decide +kernel
theorem dX10_begin_39 : decode cX10_begin 39 = .ok (.invokevirtual 277, 3) := by decide +kernel
theorem dX10_begin_42 : decode cX10_begin 42 = .ok (.ireturn, 1) := by decide +kernel
theorem dX10_run_0 : decode cX10_run 0 = .ok (.aload_n 0, 1) := by decide +kernel
theorem dX10_run_1 : decode cX10_run 1 = .ok (.iconst 0, 1) := by decide +kernel
theorem dX10_run_2 : decode cX10_run 2 = .ok (.putfield 89, 3) := by decide +kernel
theorem dX10_run_5 : decode cX10_run 5 = .ok (.aload_n 0, 1) := by decide +kernel
theorem dX10_run_6 : decode cX10_run 6 = .ok (.invokevirtual 284, 3) := by decide +kernel
theorem dX10_run_9 : decode cX10_run 9 = .ok (.ifCond .ne 9, 3) := by decide +kernel
theorem dX10_run_12 : decode cX10_run 12 = .ok (.aload_n 0, 1) := by decide +kernel
theorem dX10_run_13 : decode cX10_run 13 = .ok (.iconst 1, 1) := by decide +kernel
theorem dX10_run_14 : decode cX10_run 14 = .ok (.invokevirtual 266, 3) := by decide +kernel
theorem dX10_run_17 : decode cX10_run 17 = .ok (.ireturn, 1) := by decide +kernel
theorem dX10_run_18 : decode cX10_run 18 = .ok (.iload_n 1, 1) := by decide +kernel
theorem dX10_run_19 : decode cX10_run 19 = .ok (.iconst 1, 1) := by decide +kernel
theorem dX10_run_20 : decode cX10_run 20 = .ok (.sipush 500, 3) := by decide +kernel
theorem dX10_run_23 : decode cX10_run 23 = .ok (.invokestatic 111, 3) := by decide +kernel
theorem dX10_run_26 : decode cX10_run 26 = .ok (.ifCond .ne 9, 3) := by decide +kernel
theorem dX10_run_29 : decode cX10_run 29 = .ok (.aload_n 0, 1) := by decide +kernel
theorem dX10_run_30 : decode cX10_run 30 = .ok (.iconst 2, 1) := by decide +kernel
theorem dX10_run_31 : decode cX10_run 31 = .ok (.invokevirtual 266, 3) := by decide +kernel
theorem dX10_run_34 : decode cX10_run 34 = .ok (.ireturn, 1) := by decide +kernel
theorem dX10_run_35 : decode cX10_run 35 = .ok (.aload_n 0, 1) := by decide +kernel
theorem dX10_run_36 : decode cX10_run 36 = .ok (.getfield 55, 3) := by decide +kernel
theorem dX10_run_39 : decode cX10_run 39 = .ok (.iconst 2, 1) := by decide +kernel
theorem dX10_run_40 : decode cX10_run 40 = .ok (.iaload, 1) := by decide +kernel
theorem dX10_run_41 : decode cX10_run 41 = .ok (.iload_n 1, 1) := by decide +kernel
theorem dX10_run_42 : decode cX10_run 42 = .ok (.iadd, 1) := by decide +kernel
theorem dX10_run_43 : decode cX10_run 43 = .ok (.sipush 4096, 3) := by decide +kernel
theorem dX10_run_46 : decode cX10_run 46 = .ok (.if_icmp .le 9, 3) := by decide +kernel
theorem dX10_run_49 : decode cX10_run 49 = .ok (.aload_n 0, 1) := by decide +kernel
theorem dX10_run_50 : decode cX10_run 50 = .ok (.iconst 3, 1) := by decide +kernel
theorem dX10_run_51 : decode cX10_run 51 = .ok (.invokevirtual 266, 3) := by decide +kernel
theorem dX10_run_54 : decode cX10_run 54 = .ok (.ireturn, 1) := by decide +kernel
theorem dX10_run_55 : decode cX10_run 55 = .ok (.iconst 0, 1) := by decide +kernel
theorem dX10_run_56 : decode cX10_run 56 = .ok (.istore_n 2, 1) := by decide +kernel
theorem dX10_run_57 : decode cX10_run 57 = .ok (.iconst 0, 1) := by decide +kernel
theorem dX10_run_58 : decode cX10_run 58 = .ok (.istore_n 3, 1) := by decide +kernel
theorem dX10_run_59 : decode cX10_run 59 = .ok (.iload_n 3, 1) := by decide +kernel
theorem dX10_run_60 : decode cX10_run 60 = .ok (.iload_n 1, 1) := by decide +kernel
theorem dX10_run_61 : decode cX10_run 61 = .ok (.if_icmp .ge 65, 3) := by decide +kernel
theorem dX10_run_64 : decode cX10_run 64 = .ok (.aload_n 0, 1) := by decide +kernel
theorem dX10_run_65 : decode cX10_run 65 = .ok (.getfield 55, 3) := by decide +kernel
theorem dX10_run_68 : decode cX10_run 68 = .ok (.iconst 2, 1) := by decide +kernel
theorem dX10_run_69 : decode cX10_run 69 = .ok (.iaload, 1) := by decide +kernel
theorem dX10_run_70 : decode cX10_run 70 = .ok (.istore 4, 2) := by decide +kernel
theorem dX10_run_72 : decode cX10_run 72 = .ok (.aload_n 0, 1) := by decide +kernel
theorem dX10_run_73 : decode cX10_run 73 = .ok (.aload_n 0, 1) := by decide +kernel
theorem dX10_run_74 : decode cX10_run 74 = .ok (.getfield 55, 3) := by decide +kernel
theorem dX10_run_77 : decode cX10_run 77 = .ok (.aload_n 0, 1) := by decide +kernel
theorem dX10_run_78 : decode cX10_run 78 = .ok (.aload_n 0, 1) := by decide +kernel
theorem dX10_run_79 : decode cX10_run 79 = .ok (.getfield 55, 3) := by decide +kernel
theorem dX10_run_82 : decode cX10_run 82 = .ok (.iconst 1, 1) := by decide +kernel
theorem dX10_run_83 : decode cX10_run 83 = .ok (.iaload, 1) := by decide +kernel
theorem dX10_run_84 : decode cX10_run 84 = .ok (.iload 4, 2) := by decide +kernel
theorem dX10_run_86 : decode cX10_run 86 = .ok (.invokevirtual 269, 3) := by decide +kernel
theorem dX10_run_89 : decode cX10_run 89 = .ok (.aload_n 0, 1) := by decide +kernel
theorem dX10_run_90 : decode cX10_run 90 = .ok (.getfield 33, 3) := by decide +kernel
theorem dX10_run_93 : decode cX10_run 93 = .ok (.aload_n 0, 1) := by decide +kernel
theorem dX10_run_94 : decode cX10_run 94 = .ok (.getfield 55, 3) := by decide +kernel
theorem dX10_run_97 : decode cX10_run 97 = .ok (.iconst 0, 1) := by decide +kernel
theorem dX10_run_98 : decode cX10_run 98 = .ok (.iaload, 1) := by decide +kernel
theorem dX10_run_99 : decode cX10_run 99 = .ok (.iaload, 1) := by decide +kernel
theorem dX10_run_100 : decode cX10_run 100 = .ok (.invokevirtual 287, 3) := by decide +kernel
theorem dX10_run_103 : decode cX10_run 103 = .ok (.istore 5, 2) := by decide +kernel
theorem dX10_run_105 : decode cX10_run 105 = .ok (.aload_n 0, 1) := by decide +kernel
theorem dX10_run_106 : decode cX10_run 106 = .ok (.getfield 67, 3) := by decide +kernel
theorem dX10_run_109 : decode cX10_run 109 = .ok (.iload 4, 2) := by decide +kernel
theorem dX10_run_111 : decode cX10_run 111 = .ok (.iload 5, 2) := by decide +kernel
theorem dX10_run_113 : decode cX10_run 113 = .ok (.i2b, 1) := by decide +kernel
theorem dX10_run_114 : decode cX10_run 114 = .ok (.bastore, 1) := by decide +kernel
theorem dX10_run_115 : decode cX10_run 115 = .ok (.iload_n 2, 1) := by decide +kernel
theorem dX10_run_116 : decode cX10_run 116 = .ok (.iload 5, 2) := by decide +kernel
theorem dX10_run_118 : decode cX10_run 118 = .ok (.iadd, 1) := by decide +kernel
theorem dX10_run_119 : decode cX10_run 119 = .ok (.istore_n 2, 1) := by decide +kernel
theorem dX10_run_120 : decode cX10_run 120 = .ok (.iinc 3 1, 3) := by decide +kernel
theorem dX10_run_123 : decode cX10_run 123 = .ok (.goto (-64), 3) := by decide +kernel
theorem dX10_run_126 : decode cX10_run 126 = .ok (.aload_n 0, 1) := by decide +kernel
theorem dX10_run_127 : decode cX10_run 127 = .ok (.iload_n 2, 1) := by decide +kernel
theorem dX10_run_128 : decode cX10_run 128 = .ok (.invokevirtual 241, 3) := by decide +kernel
theorem dX10_run_131 : decode cX10_run 131 = .ok (.ireturn, 1) := by decide +kernel
theorem dX10_now_0 : decode cX10_now 0 = .ok (.aload_n 0, 1) := by decide +kernel
theorem dX10_now_1 : decode cX10_now 1 = .ok (.iconst 0, 1) := by decide +kernel
theorem dX10_now_2 : decode cX10_now 2 = .ok (.putfield 89, 3) := by decide +kernel
theorem dX10_now_5 : decode cX10_now 5 = .ok (.aload_n 0, 1) := by decide +kernel
theorem dX10_now_6 : decode cX10_now 6 = .ok (.invokevirtual 284, 3) := by decide +kernel
theorem dX10_now_9 : decode cX10_now 9 = .ok (.ifCond .eq 25, 3) := by decide +kernel
theorem dX10_now_12 : decode cX10_now 12 = .ok (.iload_n 1, 1) := by decide +kernel
theorem dX10_now_13 : decode cX10_now 13 = .ok (.iconst 0, 1) := by decide +kernel
theorem dX10_now_14 : decode cX10_now 14 = .ok (.iconst 4, 1) := by decide +kernel
theorem dX10_now_15 : decode cX10_now 15 = .ok (.invokestatic 111, 3) := by decide +kernel
theorem dX10_now_18 : decode cX10_now 18 = .ok (.ifCond .eq 16, 3) := by decide +kernel
theorem dX10_now_21 : decode cX10_now 21 = .ok (.aload_n 0, 1) := by decide +kernel
theorem dX10_now_22 : decode cX10_now 22 = .ok (.aload_n 0, 1) := by decide +kernel
theorem dX10_now_23 : decode cX10_now 23 = .ok (.getfield 55, 3) := by decide +kernel
theorem dX10_now_26 : decode cX10_now 26 = .ok (.iload_n 1, 1) := by decide +kernel
theorem dX10_now_27 : decode cX10_now 27 = .ok (.iaload, 1) := by decide +kernel
theorem dX10_now_28 : decode cX10_now 28 = .ok (.invokevirtual 241, 3) := by decide +kernel
theorem dX10_now_31 : decode cX10_now 31 = .ok (.goto 8, 3) := by decide +kernel
theorem dX10_now_34 : decode cX10_now 34 = .ok (.aload_n 0, 1) := by decide +kernel
theorem dX10_now_35 : decode cX10_now 35 = .ok (.iconst 1, 1) := by decide +kernel
theorem dX10_now_36 : decode cX10_now 36 = .ok (.invokevirtual 228, 3) := by decide +kernel
theorem dX10_now_39 : decode cX10_now 39 = .ok (.ireturn, 1) := by decide +kernel
theorem dX10_isStage_0 : decode cX10_isStage 0 = .ok (.aload_n 0, 1) := by decide +kernel
theorem dX10_isStage_1 : decode cX10_isStage 1 = .ok (.invokevirtual 284, 3) := by decide +kernel
theorem dX10_isStage_4 : decode cX10_isStage 4 = .ok (.ifCond .eq 28, 3) := by decide +kernel
theorem dX10_isStage_7 : decode cX10_isStage 7 = .ok (.iload_n 1, 1) := by decide +kernel
theorem dX10_isStage_8 : decode cX10_isStage 8 = .ok (.iconst 0, 1) := by decide +kernel
theorem dX10_isStage_9 : decode cX10_isStage 9 = .ok (.aload_n 0, 1) := by decide +kernel
theorem dX10_isStage_10 : decode cX10_isStage 10 = .ok (.getfield 24, 3) := by decide +kernel
theorem dX10_isStage_13 : decode cX10_isStage 13 = .ok (.aload_n 0, 1) := by decide +kernel
theorem dX10_isStage_14 : decode cX10_isStage 14 = .ok (.getfield 55, 3) := by decide +kernel
theorem dX10_isStage_17 : decode cX10_isStage 17 = .ok (.iconst 0, 1) := by decide +kernel
theorem dX10_isStage_18 : decode cX10_isStage 18 = .ok (.iaload, 1) := by decide +kernel
theorem dX10_isStage_19 : decode cX10_isStage 19 = .ok (.iaload, 1) := by decide +kernel
theorem dX10_isStage_20 : decode cX10_isStage 20 = .ok (.iconst 1, 1) := by decide +kernel
theorem dX10_isStage_21 : decode cX10_isStage 21 = .ok (.isub, 1) := by decide +kernel
theorem dX10_isStage_22 : decode cX10_isStage 22 = .ok (.invokestatic 111, 3) := by decide +kernel
theorem dX10_isStage_25 : decode cX10_isStage 25 = .ok (.ifCond .eq 7, 3) := by decide +kernel
theorem dX10_isStage_28 : decode cX10_isStage 28 = .ok (.iconst 1, 1) := by decide +kernel
theorem dX10_isStage_29 : decode cX10_isStage 29 = .ok (.goto 4, 3) := by decide +kernel
theorem dX10_isStage_32 : decode cX10_isStage 32 = .ok (.iconst 0, 1) := by decide +kernel
theorem dX10_isStage_33 : decode cX10_isStage 33 = .ok (.ireturn, 1) := by decide +kernel
theorem dX10_sum_0 : decode cX10_sum 0 = .ok (.aload_n 0, 1) := by decide +kernel
theorem dX10_sum_1 : decode cX10_sum 1 = .ok (.iconst 0, 1) := by decide +kernel
theorem dX10_sum_2 : decode cX10_sum 2 = .ok (.putfield 89, 3) := by decide +kernel
theorem dX10_sum_5 : decode cX10_sum 5 = .ok (.aload_n 0, 1) := by decide +kernel
theorem dX10_sum_6 : decode cX10_sum 6 = .ok (.iload_n 1, 1) := by decide +kernel
theorem dX10_sum_7 : decode cX10_sum 7 = .ok (.invokevirtual 291, 3) := by decide +kernel
theorem dX10_sum_10 : decode cX10_sum 10 = .ok (.ifCond .eq 18, 3) := by decide +kernel
theorem dX10_sum_13 : decode cX10_sum 13 = .ok (.aload_n 0, 1) := by decide +kernel
theorem dX10_sum_14 : decode cX10_sum 14 = .ok (.aload_n 0, 1) := by decide +kernel
theorem dX10_sum_15 : decode cX10_sum 15 = .ok (.getfield 55, 3) := by decide +kernel
theorem dX10_sum_18 : decode cX10_sum 18 = .ok (.iconst 5, 1) := by decide +kernel
theorem dX10_sum_19 : decode cX10_sum 19 = .ok (.iload_n 1, 1) := by decide +kernel
theorem dX10_sum_20 : decode cX10_sum 20 = .ok (.iadd, 1) := by decide +kernel
theorem dX10_sum_21 : decode cX10_sum 21 = .ok (.iaload, 1) := by decide +kernel
theorem dX10_sum_22 : decode cX10_sum 22 = .ok (.invokevirtual 241, 3) := by decide +kernel
theorem dX10_sum_25 : decode cX10_sum 25 = .ok (.goto 8, 3) := by decide +kernel
theorem dX10_sum_28 : decode cX10_sum 28 = .ok (.aload_n 0, 1) := by decide +kernel
theorem dX10_sum_29 : decode cX10_sum 29 = .ok (.iconst 1, 1) := by decide +kernel
theorem dX10_sum_30 : decode cX10_sum 30 = .ok (.invokevirtual 266, 3) := by decide +kernel
theorem dX10_sum_33 : decode cX10_sum 33 = .ok (.ireturn, 1) := by decide +kernel
theorem dX10_size_0 : decode cX10_size 0 = .ok (.aload_n 0, 1) := by decide +kernel
theorem dX10_size_1 : decode cX10_size 1 = .ok (.iconst 0, 1) := by decide +kernel
theorem dX10_size_2 : decode cX10_size 2 = .ok (.putfield 89, 3) := by decide +kernel
theorem dX10_size_5 : decode cX10_size 5 = .ok (.aload_n 0, 1) := by decide +kernel
theorem dX10_size_6 : decode cX10_size 6 = .ok (.iload_n 1, 1) := by decide +kernel
theorem dX10_size_7 : decode cX10_size 7 = .ok (.invokevirtual 291, 3) := by decide +kernel
theorem dX10_size_10 : decode cX10_size 10 = .ok (.ifCond .eq 19, 3) := by decide +kernel
theorem dX10_size_13 : decode cX10_size 13 = .ok (.aload_n 0, 1) := by decide +kernel
theorem dX10_size_14 : decode cX10_size 14 = .ok (.aload_n 0, 1) := by decide +kernel
theorem dX10_size_15 : decode cX10_size 15 = .ok (.getfield 55, 3) := by decide +kernel
theorem dX10_size_18 : decode cX10_size 18 = .ok (.bipush 8, 2) := by decide +kernel
theorem dX10_size_20 : decode cX10_size 20 = .ok (.iload_n 1, 1) := by decide +kernel
theorem dX10_size_21 : decode cX10_size 21 = .ok (.iadd, 1) := by decide +kernel
theorem dX10_size_22 : decode cX10_size 22 = .ok (.iaload, 1) := by decide +kernel
theorem dX10_size_23 : decode cX10_size 23 = .ok (.invokevirtual 241, 3) := by decide +kernel
theorem dX10_size_26 : decode cX10_size 26 = .ok (.goto 8, 3) := by decide +kernel
theorem dX10_size_29 : decode cX10_size 29 = .ok (.aload_n 0, 1) := by decide +kernel
theorem dX10_size_30 : decode cX10_size 30 = .ok (.iconst 1, 1) := by decide +kernel
theorem dX10_size_31 : decode cX10_size 31 = .ok (.invokevirtual 228, 3) := by decide +kernel
theorem dX10_size_34 : decode cX10_size 34 = .ok (.ireturn, 1) := by decide +kernel
theorem dX10_isClock_0 : decode cX10_isClock 0 = .ok (.iload_n 1, 1) := by decide +kernel
theorem dX10_isClock_1 : decode cX10_isClock 1 = .ok (.iconst 0, 1) := by decide +kernel
theorem dX10_isClock_2 : decode cX10_isClock 2 = .ok (.aload_n 0, 1) := by decide +kernel
theorem dX10_isClock_3 : decode cX10_isClock 3 = .ok (.getfield 55, 3) := by decide +kernel
theorem dX10_isClock_6 : decode cX10_isClock 6 = .ok (.iconst 2, 1) := by decide +kernel
theorem dX10_isClock_7 : decode cX10_isClock 7 = .ok (.iaload, 1) := by decide +kernel
theorem dX10_isClock_8 : decode cX10_isClock 8 = .ok (.iconst 1, 1) := by decide +kernel
theorem dX10_isClock_9 : decode cX10_isClock 9 = .ok (.isub, 1) := by decide +kernel
theorem dX10_isClock_10 : decode cX10_isClock 10 = .ok (.invokestatic 111, 3) := by decide +kernel
theorem dX10_isClock_13 : decode cX10_isClock 13 = .ok (.ireturn, 1) := by decide +kernel
theorem dX10_out_0 : decode cX10_out 0 = .ok (.aload_n 0, 1) := by decide +kernel
theorem dX10_out_1 : decode cX10_out 1 = .ok (.iconst 0, 1) := by decide +kernel
theorem dX10_out_2 : decode cX10_out 2 = .ok (.putfield 89, 3) := by decide +kernel
theorem dX10_out_5 : decode cX10_out 5 = .ok (.aload_n 0, 1) := by decide +kernel
theorem dX10_out_6 : decode cX10_out 6 = .ok (.invokevirtual 284, 3) := by decide +kernel
theorem dX10_out_9 : decode cX10_out 9 = .ok (.ifCond .ne 9, 3) := by decide +kernel
theorem dX10_out_12 : decode cX10_out 12 = .ok (.aload_n 0, 1) := by decide +kernel
theorem dX10_out_13 : decode cX10_out 13 = .ok (.iconst 1, 1) := by decide +kernel
theorem dX10_out_14 : decode cX10_out 14 = .ok (.invokevirtual 266, 3) := by decide +kernel
theorem dX10_out_17 : decode cX10_out 17 = .ok (.ireturn, 1) := by decide +kernel
theorem dX10_out_18 : decode cX10_out 18 = .ok (.aload_n 0, 1) := by decide +kernel
theorem dX10_out_19 : decode cX10_out 19 = .ok (.iload_n 1, 1) := by decide +kernel
theorem dX10_out_20 : decode cX10_out 20 = .ok (.invokevirtual 294, 3) := by decide +kernel
theorem dX10_out_23 : decode cX10_out 23 = .ok (.ifCond .eq 16, 3) := by decide +kernel
theorem dX10_out_26 : decode cX10_out 26 = .ok (.aload_n 0, 1) := by decide +kernel
theorem dX10_out_27 : decode cX10_out 27 = .ok (.aload_n 0, 1) := by decide +kernel
theorem dX10_out_28 : decode cX10_out 28 = .ok (.getfield 67, 3) := by decide +kernel
theorem dX10_out_31 : decode cX10_out 31 = .ok (.iload_n 1, 1) := by decide +kernel
theorem dX10_out_32 : decode cX10_out 32 = .ok (.baload, 1) := by decide +kernel
theorem dX10_out_33 : decode cX10_out 33 = .ok (.invokevirtual 241, 3) := by decide +kernel
theorem dX10_out_36 : decode cX10_out 36 = .ok (.goto 8, 3) := by decide +kernel
theorem dX10_out_39 : decode cX10_out 39 = .ok (.aload_n 0, 1) := by decide +kernel
theorem dX10_out_40 : decode cX10_out 40 = .ok (.iconst 2, 1) := by decide +kernel
theorem dX10_out_41 : decode cX10_out 41 = .ok (.invokevirtual 266, 3) := by decide +kernel
theorem dX10_out_44 : decode cX10_out 44 = .ok (.ireturn, 1) := by decide +kernel
theorem dX10_nth_0 : decode cX10_nth 0 = .ok (.aload_n 0, 1) := by decide +kernel
theorem dX10_nth_1 : decode cX10_nth 1 = .ok (.iconst 0, 1) := by decide +kernel
theorem dX10_nth_2 : decode cX10_nth 2 = .ok (.putfield 89, 3) := by decide +kernel
theorem dX10_nth_5 : decode cX10_nth 5 = .ok (.aload_n 0, 1) := by decide +kernel
theorem dX10_nth_6 : decode cX10_nth 6 = .ok (.invokevirtual 284, 3) := by decide +kernel
theorem dX10_nth_9 : decode cX10_nth 9 = .ok (.ifCond .ne 9, 3) := by decide +kernel
theorem dX10_nth_12 : decode cX10_nth 12 = .ok (.aload_n 0, 1) := by decide +kernel
theorem dX10_nth_13 : decode cX10_nth 13 = .ok (.iconst 1, 1) := by decide +kernel
theorem dX10_nth_14 : decode cX10_nth 14 = .ok (.invokevirtual 228, 3) := by decide +kernel
theorem dX10_nth_17 : decode cX10_nth 17 = .ok (.ireturn, 1) := by decide +kernel
theorem dX10_nth_18 : decode cX10_nth 18 = .ok (.iload_n 1, 1) := by decide +kernel
theorem dX10_nth_19 : decode cX10_nth 19 = .ok (.iconst (-1), 1) := by decide +kernel
theorem dX10_nth_20 : decode cX10_nth 20 = .ok (.iconst 1, 1) := by decide +kernel
theorem dX10_nth_21 : decode cX10_nth 21 = .ok (.invokestatic 111, 3) := by decide +kernel
theorem dX10_nth_24 : decode cX10_nth 24 = .ok (.ifCond .eq 7, 3) := by decide +kernel
theorem dX10_nth_27 : decode cX10_nth 27 = .ok (.iload_n 2, 1) := by decide +kernel
theorem dX10_nth_28 : decode cX10_nth 28 = .ok (.ifCond .ge 9, 3) := by decide +kernel
theorem dX10_nth_31 : decode cX10_nth 31 = .ok (.aload_n 0, 1) := by decide +kernel
theorem dX10_nth_32 : decode cX10_nth 32 = .ok (.iconst 2, 1) := by decide +kernel
theorem dX10_nth_33 : decode cX10_nth 33 = .ok (.invokevirtual 228, 3) := by decide +kernel
theorem dX10_nth_36 : decode cX10_nth 36 = .ok (.ireturn, 1) := by decide +kernel
theorem dX10_nth_37 : decode cX10_nth 37 = .ok (.iload_n 2, 1) := by decide +kernel
theorem dX10_nth_38 : decode cX10_nth 38 = .ok (.istore_n 3, 1) := by decide +kernel
theorem dX10_nth_39 : decode cX10_nth 39 = .ok (.iconst 0, 1) := by decide +kernel
theorem dX10_nth_40 : decode cX10_nth 40 = .ok (.istore 4, 2) := by decide +kernel
theorem dX10_nth_42 : decode cX10_nth 42 = .ok (.iload 4, 2) := by decide +kernel
theorem dX10_nth_44 : decode cX10_nth 44 = .ok (.aload_n 0, 1) := by decide +kernel
theorem dX10_nth_45 : decode cX10_nth 45 = .ok (.getfield 55, 3) := by decide +kernel
theorem dX10_nth_48 : decode cX10_nth 48 = .ok (.iconst 2, 1) := by decide +kernel
theorem dX10_nth_49 : decode cX10_nth 49 = .ok (.iaload, 1) := by decide +kernel
theorem dX10_nth_50 : decode cX10_nth 50 = .ok (.if_icmp .ge 37, 3) := by decide +kernel
theorem dX10_nth_53 : decode cX10_nth 53 = .ok (.aload_n 0, 1) := by decide +kernel
theorem dX10_nth_54 : decode cX10_nth 54 = .ok (.getfield 67, 3) := by decide +kernel
theorem dX10_nth_57 : decode cX10_nth 57 = .ok (.iload 4, 2) := by decide +kernel
theorem dX10_nth_59 : decode cX10_nth 59 = .ok (.baload, 1) := by decide +kernel
theorem dX10_nth_60 : decode cX10_nth 60 = .ok (.iload_n 1, 1) := by decide +kernel
theorem dX10_nth_61 : decode cX10_nth 61 = .ok (.if_icmp .eq 6, 3) := by decide +kernel
theorem dX10_nth_64 : decode cX10_nth 64 = .ok (.goto 17, 3) := by decide +kernel
theorem dX10_nth_67 : decode cX10_nth 67 = .ok (.iload_n 3, 1) := by decide +kernel
theorem dX10_nth_68 : decode cX10_nth 68 = .ok (.ifCond .ne 10, 3) := by decide +kernel
theorem dX10_nth_71 : decode cX10_nth 71 = .ok (.aload_n 0, 1) := by decide +kernel
theorem dX10_nth_72 : decode cX10_nth 72 = .ok (.iload 4, 2) := by decide +kernel
theorem dX10_nth_74 : decode cX10_nth 74 = .ok (.invokevirtual 241, 3) := by decide +kernel
theorem dX10_nth_77 : decode cX10_nth 77 = .ok (.ireturn, 1) := by decide +kernel
theorem dX10_nth_78 : decode cX10_nth 78 = .ok (.iinc 3 (-1), 3) := by decide +kernel
theorem dX10_nth_81 : decode cX10_nth 81 = .ok (.iinc 4 1, 3) := by decide +kernel
theorem dX10_nth_84 : decode cX10_nth 84 = .ok (.goto (-42), 3) := by decide +kernel
theorem dX10_nth_87 : decode cX10_nth 87 = .ok (.aload_n 0, 1) := by decide +kernel
theorem dX10_nth_88 : decode cX10_nth 88 = .ok (.bipush (-2), 2) := by decide +kernel
theorem dX10_nth_90 : decode cX10_nth 90 = .ok (.invokevirtual 241, 3) := by decide +kernel
theorem dX10_nth_93 : decode cX10_nth 93 = .ok (.ireturn, 1) := by decide +kernel
theorem dX10_common_0 : decode cX10_common 0 = .ok (.iload_n 0, 1) := by decide +kernel
theorem dX10_common_1 : decode cX10_common 1 = .ok (.invokestatic 273, 3) := by decide +kernel
theorem dX10_common_4 : decode cX10_common 4 = .ok (.istore_n 2, 1) := by decide +kernel
theorem dX10_common_5 : decode cX10_common 5 = .ok (.iload_n 1, 1) := by decide +kernel
theorem dX10_common_6 : decode cX10_common 6 = .ok (.istore_n 3, 1) := by decide +kernel
theorem dX10_common_7 : decode cX10_common 7 = .ok (.iload_n 3, 1) := by decide +kernel
theorem dX10_common_8 : decode cX10_common 8 = .ok (.ifCond .eq 16, 3) := by decide +kernel
theorem dX10_common_11 : decode cX10_common 11 = .ok (.iload_n 2, 1) := by decide +kernel
theorem dX10_common_12 : decode cX10_common 12 = .ok (.iload_n 3, 1) := by decide +kernel
theorem dX10_common_13 : decode cX10_common 13 = .ok (.irem, 1) := by decide +kernel
theorem dX10_common_14 : decode cX10_common 14 = .ok (.istore 4, 2) := by decide +kernel
theorem dX10_common_16 : decode cX10_common 16 = .ok (.iload_n 3, 1) := by decide +kernel
theorem dX10_common_17 : decode cX10_common 17 = .ok (.istore_n 2, 1) := by decide +kernel
theorem dX10_common_18 : decode cX10_common 18 = .ok (.iload 4, 2) := by decide +kernel
theorem dX10_common_20 : decode cX10_common 20 = .ok (.istore_n 3, 1) := by decide +kernel
theorem dX10_common_21 : decode cX10_common 21 = .ok (.goto (-14), 3) := by decide +kernel
theorem dX10_common_24 : decode cX10_common 24 = .ok (.iload_n 2, 1) := by decide +kernel
theorem dX10_common_25 : decode cX10_common 25 = .ok (.ireturn, 1) := by decide +kernel
theorem dX10_mean_0 : decode cX10_mean 0 = .ok (.aload_n 0, 1) := by decide +kernel
theorem dX10_mean_1 : decode cX10_mean 1 = .ok (.iconst 0, 1) := by decide +kernel
theorem dX10_mean_2 : decode cX10_mean 2 = .ok (.putfield 89, 3) := by decide +kernel
theorem dX10_mean_5 : decode cX10_mean 5 = .ok (.aload_n 0, 1) := by decide +kernel
theorem dX10_mean_6 : decode cX10_mean 6 = .ok (.invokevirtual 284, 3) := by decide +kernel
theorem dX10_mean_9 : decode cX10_mean 9 = .ok (.ifCond .eq 12, 3) := by decide +kernel
