theorem dX10_mean_12 : decode cX10_mean 12 = .ok (.iload_n 3, 1) := by decide +kernel
theorem dX10_mean_13 : decode cX10_mean 13 = .ok (.iconst 0, 1) := by decide +kernel
theorem dX10_mean_14 : decode cX10_mean 14 = .ok (.iconst 1, 1) := by decide +kernel
theorem dX10_mean_15 : decode cX10_mean 15 = .ok (.invokestatic 111, 3) := by decide +kernel
theorem dX10_mean_18 : decode cX10_mean 18 = .ok (.ifCond .ne 9, 3) := by decide +kernel
theorem dX10_mean_21 : decode cX10_mean 21 = .ok (.aload_n 0, 1) := by decide +kernel
theorem dX10_mean_22 : decode cX10_mean 22 = .ok (.iconst 1, 1) := by decide +kernel
theorem dX10_mean_23 : decode cX10_mean 23 = .ok (.invokevirtual 266, 3) := by decide +kernel
theorem dX10_mean_26 : decode cX10_mean 26 = .ok (.ireturn, 1) := by decide +kernel
theorem dX10_mean_27 : decode cX10_mean 27 = .ok (.aload_n 0, 1) := by decide +kernel
theorem dX10_mean_28 : decode cX10_mean 28 = .ok (.iload_n 1, 1) := by decide +kernel
theorem dX10_mean_29 : decode cX10_mean 29 = .ok (.iload_n 2, 1) := by decide +kernel
theorem dX10_mean_30 : decode cX10_mean 30 = .ok (.invokevirtual 297, 3) := by decide +kernel
theorem dX10_mean_33 : decode cX10_mean 33 = .ok (.ifCond .ne 9, 3) := by decide +kernel
theorem dX10_mean_36 : decode cX10_mean 36 = .ok (.aload_n 0, 1) := by decide +kernel
theorem dX10_mean_37 : decode cX10_mean 37 = .ok (.iconst 2, 1) := by decide +kernel
theorem dX10_mean_38 : decode cX10_mean 38 = .ok (.invokevirtual 266, 3) := by decide +kernel
theorem dX10_mean_41 : decode cX10_mean 41 = .ok (.ireturn, 1) := by decide +kernel
theorem dX10_mean_42 : decode cX10_mean 42 = .ok (.iconst 0, 1) := by decide +kernel
theorem dX10_mean_43 : decode cX10_mean 43 = .ok (.istore 4, 2) := by decide +kernel
theorem dX10_mean_45 : decode cX10_mean 45 = .ok (.iload_n 1, 1) := by decide +kernel
theorem dX10_mean_46 : decode cX10_mean 46 = .ok (.istore 5, 2) := by decide +kernel
theorem dX10_mean_48 : decode cX10_mean 48 = .ok (.iload 5, 2) := by decide +kernel
theorem dX10_mean_50 : decode cX10_mean 50 = .ok (.iload_n 2, 1) := by decide +kernel
theorem dX10_mean_51 : decode cX10_mean 51 = .ok (.if_icmp .gt 21, 3) := by decide +kernel
theorem dX10_mean_54 : decode cX10_mean 54 = .ok (.iload 4, 2) := by decide +kernel
theorem dX10_mean_56 : decode cX10_mean 56 = .ok (.aload_n 0, 1) := by decide +kernel
theorem dX10_mean_57 : decode cX10_mean 57 = .ok (.getfield 67, 3) := by decide +kernel
theorem dX10_mean_60 : decode cX10_mean 60 = .ok (.iload 5, 2) := by decide +kernel
theorem dX10_mean_62 : decode cX10_mean 62 = .ok (.baload, 1) := by decide +kernel
theorem dX10_mean_63 : decode cX10_mean 63 = .ok (.iadd, 1) := by decide +kernel
theorem dX10_mean_64 : decode cX10_mean 64 = .ok (.istore 4, 2) := by decide +kernel
theorem dX10_mean_66 : decode cX10_mean 66 = .ok (.iinc 5 1, 3) := by decide +kernel
theorem dX10_mean_69 : decode cX10_mean 69 = .ok (.goto (-21), 3) := by decide +kernel
theorem dX10_mean_72 : decode cX10_mean 72 = .ok (.iload 4, 2) := by decide +kernel
theorem dX10_mean_74 : decode cX10_mean 74 = .ok (.iload_n 2, 1) := by decide +kernel
theorem dX10_mean_75 : decode cX10_mean 75 = .ok (.iload_n 1, 1) := by decide +kernel
theorem dX10_mean_76 : decode cX10_mean 76 = .ok (.isub, 1) := by decide +kernel
theorem dX10_mean_77 : decode cX10_mean 77 = .ok (.iconst 1, 1) := by decide +kernel
theorem dX10_mean_78 : decode cX10_mean 78 = .ok (.iadd, 1) := by decide +kernel
theorem dX10_mean_79 : decode cX10_mean 79 = .ok (.invokestatic 301, 3) := by decide +kernel
theorem dX10_mean_82 : decode cX10_mean 82 = .ok (.istore 5, 2) := by decide +kernel
theorem dX10_mean_84 : decode cX10_mean 84 = .ok (.aload_n 0, 1) := by decide +kernel
theorem dX10_mean_85 : decode cX10_mean 85 = .ok (.iload_n 3, 1) := by decide +kernel
theorem dX10_mean_86 : decode cX10_mean 86 = .ok (.ifCond .ne 11, 3) := by decide +kernel
theorem dX10_mean_89 : decode cX10_mean 89 = .ok (.iload 4, 2) := by decide +kernel
theorem dX10_mean_91 : decode cX10_mean 91 = .ok (.iload 5, 2) := by decide +kernel
theorem dX10_mean_93 : decode cX10_mean 93 = .ok (.idiv, 1) := by decide +kernel
theorem dX10_mean_94 : decode cX10_mean 94 = .ok (.goto 11, 3) := by decide +kernel
theorem dX10_mean_97 : decode cX10_mean 97 = .ok (.iload_n 2, 1) := by decide +kernel
theorem dX10_mean_98 : decode cX10_mean 98 = .ok (.iload_n 1, 1) := by decide +kernel
theorem dX10_mean_99 : decode cX10_mean 99 = .ok (.isub, 1) := by decide +kernel
theorem dX10_mean_100 : decode cX10_mean 100 = .ok (.iconst 1, 1) := by decide +kernel
theorem dX10_mean_101 : decode cX10_mean 101 = .ok (.iadd, 1) := by decide +kernel
theorem dX10_mean_102 : decode cX10_mean 102 = .ok (.iload 5, 2) := by decide +kernel
theorem dX10_mean_104 : decode cX10_mean 104 = .ok (.idiv, 1) := by decide +kernel
theorem dX10_mean_105 : decode cX10_mean 105 = .ok (.invokevirtual 241, 3) := by decide +kernel
theorem dX10_mean_108 : decode cX10_mean 108 = .ok (.ireturn, 1) := by decide +kernel
theorem dX10_isStretch_0 : decode cX10_isStretch 0 = .ok (.aload_n 0, 1) := by decide +kernel
theorem dX10_isStretch_1 : decode cX10_isStretch 1 = .ok (.iload_n 1, 1) := by decide +kernel
theorem dX10_isStretch_2 : decode cX10_isStretch 2 = .ok (.invokevirtual 294, 3) := by decide +kernel
theorem dX10_isStretch_5 : decode cX10_isStretch 5 = .ok (.ifCond .eq 20, 3) := by decide +kernel
theorem dX10_isStretch_8 : decode cX10_isStretch 8 = .ok (.aload_n 0, 1) := by decide +kernel
theorem dX10_isStretch_9 : decode cX10_isStretch 9 = .ok (.iload_n 2, 1) := by decide +kernel
theorem dX10_isStretch_10 : decode cX10_isStretch 10 = .ok (.invokevirtual 294, 3) := by decide +kernel
theorem dX10_isStretch_13 : decode cX10_isStretch 13 = .ok (.ifCond .eq 12, 3) := by decide +kernel
theorem dX10_isStretch_16 : decode cX10_isStretch 16 = .ok (.iload_n 1, 1) := by decide +kernel
theorem dX10_isStretch_17 : decode cX10_isStretch 17 = .ok (.iload_n 2, 1) := by decide +kernel
theorem dX10_isStretch_18 : decode cX10_isStretch 18 = .ok (.if_icmp .gt 7, 3) := by decide +kernel
theorem dX10_isStretch_21 : decode cX10_isStretch 21 = .ok (.iconst 1, 1) := by decide +kernel
theorem dX10_isStretch_22 : decode cX10_isStretch 22 = .ok (.goto 4, 3) := by decide +kernel
theorem dX10_isStretch_25 : decode cX10_isStretch 25 = .ok (.iconst 0, 1) := by decide +kernel
theorem dX10_isStretch_26 : decode cX10_isStretch 26 = .ok (.ireturn, 1) := by decide +kernel
theorem dX10_often_0 : decode cX10_often 0 = .ok (.aload_n 0, 1) := by decide +kernel
theorem dX10_often_1 : decode cX10_often 1 = .ok (.iconst 0, 1) := by decide +kernel
theorem dX10_often_2 : decode cX10_often 2 = .ok (.putfield 89, 3) := by decide +kernel
theorem dX10_often_5 : decode cX10_often 5 = .ok (.aload_n 0, 1) := by decide +kernel
theorem dX10_often_6 : decode cX10_often 6 = .ok (.invokevirtual 284, 3) := by decide +kernel
theorem dX10_often_9 : decode cX10_often 9 = .ok (.ifCond .ne 9, 3) := by decide +kernel
theorem dX10_often_12 : decode cX10_often 12 = .ok (.aload_n 0, 1) := by decide +kernel
theorem dX10_often_13 : decode cX10_often 13 = .ok (.iconst 1, 1) := by decide +kernel
theorem dX10_often_14 : decode cX10_often 14 = .ok (.invokevirtual 228, 3) := by decide +kernel
theorem dX10_often_17 : decode cX10_often 17 = .ok (.ireturn, 1) := by decide +kernel
theorem dX10_often_18 : decode cX10_often 18 = .ok (.iload_n 1, 1) := by decide +kernel
theorem dX10_often_19 : decode cX10_often 19 = .ok (.iconst (-1), 1) := by decide +kernel
theorem dX10_often_20 : decode cX10_often 20 = .ok (.iconst 1, 1) := by decide +kernel
theorem dX10_often_21 : decode cX10_often 21 = .ok (.invokestatic 111, 3) := by decide +kernel
theorem dX10_often_24 : decode cX10_often 24 = .ok (.ifCond .eq 12, 3) := by decide +kernel
theorem dX10_often_27 : decode cX10_often 27 = .ok (.aload_n 0, 1) := by decide +kernel
theorem dX10_often_28 : decode cX10_often 28 = .ok (.iload_n 2, 1) := by decide +kernel
theorem dX10_often_29 : decode cX10_often 29 = .ok (.iload_n 3, 1) := by decide +kernel
theorem dX10_often_30 : decode cX10_often 30 = .ok (.invokevirtual 297, 3) := by decide +kernel
theorem dX10_often_33 : decode cX10_often 33 = .ok (.ifCond .ne 9, 3) := by decide +kernel
theorem dX10_often_36 : decode cX10_often 36 = .ok (.aload_n 0, 1) := by decide +kernel
theorem dX10_often_37 : decode cX10_often 37 = .ok (.iconst 2, 1) := by decide +kernel
theorem dX10_often_38 : decode cX10_often 38 = .ok (.invokevirtual 228, 3) := by decide +kernel
theorem dX10_often_41 : decode cX10_often 41 = .ok (.ireturn, 1) := by decide +kernel
theorem dX10_often_42 : decode cX10_often 42 = .ok (.iconst 0, 1) := by decide +kernel
theorem dX10_often_43 : decode cX10_often 43 = .ok (.istore 4, 2) := by decide +kernel
theorem dX10_often_45 : decode cX10_often 45 = .ok (.iload_n 2, 1) := by decide +kernel
theorem dX10_often_46 : decode cX10_often 46 = .ok (.istore 5, 2) := by decide +kernel
theorem dX10_often_48 : decode cX10_often 48 = .ok (.iload 5, 2) := by decide +kernel
theorem dX10_often_50 : decode cX10_often 50 = .ok (.iload_n 3, 1) := by decide +kernel
theorem dX10_often_51 : decode cX10_often 51 = .ok (.if_icmp .gt 30, 3) := by decide +kernel
theorem dX10_often_54 : decode cX10_often 54 = .ok (.iload 4, 2) := by decide +kernel
theorem dX10_often_56 : decode cX10_often 56 = .ok (.aload_n 0, 1) := by decide +kernel
theorem dX10_often_57 : decode cX10_often 57 = .ok (.getfield 67, 3) := by decide +kernel
theorem dX10_often_60 : decode cX10_often 60 = .ok (.iload 5, 2) := by decide +kernel
theorem dX10_often_62 : decode cX10_often 62 = .ok (.baload, 1) := by decide +kernel
theorem dX10_often_63 : decode cX10_often 63 = .ok (.iload_n 1, 1) := by decide +kernel
theorem dX10_often_64 : decode cX10_often 64 = .ok (.if_icmp .ne 7, 3) := by decide +kernel
theorem dX10_often_67 : decode cX10_often 67 = .ok (.iconst 1, 1) := by decide +kernel
theorem dX10_often_68 : decode cX10_often 68 = .ok (.goto 4, 3) := by decide +kernel
theorem dX10_often_71 : decode cX10_often 71 = .ok (.iconst 0, 1) := by decide +kernel
theorem dX10_often_72 : decode cX10_often 72 = .ok (.iadd, 1) := by decide +kernel
theorem dX10_often_73 : decode cX10_often 73 = .ok (.istore 4, 2) := by decide +kernel
theorem dX10_often_75 : decode cX10_often 75 = .ok (.iinc 5 1, 3) := by decide +kernel
theorem dX10_often_78 : decode cX10_often 78 = .ok (.goto (-30), 3) := by decide +kernel
theorem dX10_often_81 : decode cX10_often 81 = .ok (.aload_n 0, 1) := by decide +kernel
theorem dX10_often_82 : decode cX10_often 82 = .ok (.iload 4, 2) := by decide +kernel
theorem dX10_often_84 : decode cX10_often 84 = .ok (.invokevirtual 241, 3) := by decide +kernel
theorem dX10_often_87 : decode cX10_often 87 = .ok (.ireturn, 1) := by decide +kernel
theorem dX10_astray_0 : decode cX10_astray 0 = .ok (.aload_n 0, 1) := by decide +kernel
theorem dX10_astray_1 : decode cX10_astray 1 = .ok (.iconst 0, 1) := by decide +kernel
theorem dX10_astray_2 : decode cX10_astray 2 = .ok (.putfield 89, 3) := by decide +kernel
theorem dX10_astray_5 : decode cX10_astray 5 = .ok (.aload_n 0, 1) := by decide +kernel
theorem dX10_astray_6 : decode cX10_astray 6 = .ok (.invokevirtual 284, 3) := by decide +kernel
theorem dX10_astray_9 : decode cX10_astray 9 = .ok (.ifCond .ne 9, 3) := by decide +kernel
theorem dX10_astray_12 : decode cX10_astray 12 = .ok (.aload_n 0, 1) := by decide +kernel
theorem dX10_astray_13 : decode cX10_astray 13 = .ok (.iconst 1, 1) := by decide +kernel
theorem dX10_astray_14 : decode cX10_astray 14 = .ok (.invokevirtual 266, 3) := by decide +kernel
theorem dX10_astray_17 : decode cX10_astray 17 = .ok (.ireturn, 1) := by decide +kernel
theorem dX10_astray_18 : decode cX10_astray 18 = .ok (.aload_n 0, 1) := by decide +kernel
theorem dX10_astray_19 : decode cX10_astray 19 = .ok (.iload_n 1, 1) := by decide +kernel
theorem dX10_astray_20 : decode cX10_astray 20 = .ok (.iload_n 2, 1) := by decide +kernel
theorem dX10_astray_21 : decode cX10_astray 21 = .ok (.invokevirtual 297, 3) := by decide +kernel
theorem dX10_astray_24 : decode cX10_astray 24 = .ok (.ifCond .ne 9, 3) := by decide +kernel
theorem dX10_astray_27 : decode cX10_astray 27 = .ok (.aload_n 0, 1) := by decide +kernel
theorem dX10_astray_28 : decode cX10_astray 28 = .ok (.iconst 2, 1) := by decide +kernel
theorem dX10_astray_29 : decode cX10_astray 29 = .ok (.invokevirtual 266, 3) := by decide +kernel
theorem dX10_astray_32 : decode cX10_astray 32 = .ok (.ireturn, 1) := by decide +kernel
theorem dX10_astray_33 : decode cX10_astray 33 = .ok (.iconst 0, 1) := by decide +kernel
theorem dX10_astray_34 : decode cX10_astray 34 = .ok (.istore_n 3, 1) := by decide +kernel
theorem dX10_astray_35 : decode cX10_astray 35 = .ok (.iload_n 1, 1) := by decide +kernel
theorem dX10_astray_36 : decode cX10_astray 36 = .ok (.istore 4, 2) := by decide +kernel
theorem dX10_astray_38 : decode cX10_astray 38 = .ok (.iload 4, 2) := by decide +kernel
theorem dX10_astray_40 : decode cX10_astray 40 = .ok (.iload_n 2, 1) := by decide +kernel
theorem dX10_astray_41 : decode cX10_astray 41 = .ok (.if_icmp .gt 36, 3) := by decide +kernel
theorem dX10_astray_44 : decode cX10_astray 44 = .ok (.iload_n 3, 1) := by decide +kernel
theorem dX10_astray_45 : decode cX10_astray 45 = .ok (.sipush 1000, 3) := by decide +kernel
theorem dX10_astray_48 : decode cX10_astray 48 = .ok (.aload_n 0, 1) := by decide +kernel
theorem dX10_astray_49 : decode cX10_astray 49 = .ok (.getfield 67, 3) := by decide +kernel
theorem dX10_astray_52 : decode cX10_astray 52 = .ok (.iload 4, 2) := by decide +kernel
theorem dX10_astray_54 : decode cX10_astray 54 = .ok (.baload, 1) := by decide +kernel
theorem dX10_astray_55 : decode cX10_astray 55 = .ok (.imul, 1) := by decide +kernel
theorem dX10_astray_56 : decode cX10_astray 56 = .ok (.aload_n 0, 1) := by decide +kernel
theorem dX10_astray_57 : decode cX10_astray 57 = .ok (.aload_n 0, 1) := by decide +kernel
theorem dX10_astray_58 : decode cX10_astray 58 = .ok (.getfield 55, 3) := by decide +kernel
theorem dX10_astray_61 : decode cX10_astray 61 = .ok (.iconst 1, 1) := by decide +kernel
theorem dX10_astray_62 : decode cX10_astray 62 = .ok (.iaload, 1) := by decide +kernel
theorem dX10_astray_63 : decode cX10_astray 63 = .ok (.iload 4, 2) := by decide +kernel
theorem dX10_astray_65 : decode cX10_astray 65 = .ok (.invokevirtual 269, 3) := by decide +kernel
theorem dX10_astray_68 : decode cX10_astray 68 = .ok (.isub, 1) := by decide +kernel
theorem dX10_astray_69 : decode cX10_astray 69 = .ok (.iadd, 1) := by decide +kernel
theorem dX10_astray_70 : decode cX10_astray 70 = .ok (.istore_n 3, 1) := by decide +kernel
theorem dX10_astray_71 : decode cX10_astray 71 = .ok (.iinc 4 1, 3) := by decide +kernel
theorem dX10_astray_74 : decode cX10_astray 74 = .ok (.goto (-36), 3) := by decide +kernel
theorem dX10_astray_77 : decode cX10_astray 77 = .ok (.aload_n 0, 1) := by decide +kernel
theorem dX10_astray_78 : decode cX10_astray 78 = .ok (.iload_n 3, 1) := by decide +kernel
theorem dX10_astray_79 : decode cX10_astray 79 = .ok (.invokevirtual 241, 3) := by decide +kernel
theorem dX10_astray_82 : decode cX10_astray 82 = .ok (.ireturn, 1) := by decide +kernel
theorem dX10_rows_0 : decode cX10_rows 0 = .ok (.aload_n 0, 1) := by decide +kernel
theorem dX10_rows_1 : decode cX10_rows 1 = .ok (.iconst 0, 1) := by decide +kernel
theorem dX10_rows_2 : decode cX10_rows 2 = .ok (.putfield 89, 3) := by decide +kernel
theorem dX10_rows_5 : decode cX10_rows 5 = .ok (.aload_n 0, 1) := by decide +kernel
theorem dX10_rows_6 : decode cX10_rows 6 = .ok (.invokevirtual 284, 3) := by decide +kernel
theorem dX10_rows_9 : decode cX10_rows 9 = .ok (.ifCond .eq 12, 3) := by decide +kernel
theorem dX10_rows_12 : decode cX10_rows 12 = .ok (.iload_n 3, 1) := by decide +kernel
theorem dX10_rows_13 : decode cX10_rows 13 = .ok (.iconst 0, 1) := by decide +kernel
theorem dX10_rows_14 : decode cX10_rows 14 = .ok (.iconst 1, 1) := by decide +kernel
theorem dX10_rows_15 : decode cX10_rows 15 = .ok (.invokestatic 111, 3) := by decide +kernel
theorem dX10_rows_18 : decode cX10_rows 18 = .ok (.ifCond .ne 9, 3) := by decide +kernel
theorem dX10_rows_21 : decode cX10_rows 21 = .ok (.aload_n 0, 1) := by decide +kernel
theorem dX10_rows_22 : decode cX10_rows 22 = .ok (.iconst 1, 1) := by decide +kernel
theorem dX10_rows_23 : decode cX10_rows 23 = .ok (.invokevirtual 228, 3) := by decide +kernel
theorem dX10_rows_26 : decode cX10_rows 26 = .ok (.ireturn, 1) := by decide +kernel
theorem dX10_rows_27 : decode cX10_rows 27 = .ok (.aload_n 0, 1) := by decide +kernel
theorem dX10_rows_28 : decode cX10_rows 28 = .ok (.iload_n 1, 1) := by decide +kernel
theorem dX10_rows_29 : decode cX10_rows 29 = .ok (.iload_n 2, 1) := by decide +kernel
theorem dX10_rows_30 : decode cX10_rows 30 = .ok (.invokevirtual 297, 3) := by decide +kernel
theorem dX10_rows_33 : decode cX10_rows 33 = .ok (.ifCond .ne 9, 3) := by decide +kernel
theorem dX10_rows_36 : decode cX10_rows 36 = .ok (.aload_n 0, 1) := by decide +kernel
theorem dX10_rows_37 : decode cX10_rows 37 = .ok (.iconst 2, 1) := by decide +kernel
theorem dX10_rows_38 : decode cX10_rows 38 = .ok (.invokevirtual 228, 3) := by decide +kernel
theorem dX10_rows_41 : decode cX10_rows 41 = .ok (.ireturn, 1) := by decide +kernel
theorem dX10_rows_42 : decode cX10_rows 42 = .ok (.iconst 1, 1) := by decide +kernel
theorem dX10_rows_43 : decode cX10_rows 43 = .ok (.istore 4, 2) := by decide +kernel
theorem dX10_rows_45 : decode cX10_rows 45 = .ok (.iconst 1, 1) := by decide +kernel
theorem dX10_rows_46 : decode cX10_rows 46 = .ok (.istore 5, 2) := by decide +kernel
theorem dX10_rows_48 : decode cX10_rows 48 = .ok (.iconst 0, 1) := by decide +kernel
theorem dX10_rows_49 : decode cX10_rows 49 = .ok (.istore 6, 2) := by decide +kernel
theorem dX10_rows_51 : decode cX10_rows 51 = .ok (.iload_n 1, 1) := by decide +kernel
theorem dX10_rows_52 : decode cX10_rows 52 = .ok (.iconst 1, 1) := by decide +kernel
theorem dX10_rows_53 : decode cX10_rows 53 = .ok (.iadd, 1) := by decide +kernel
theorem dX10_rows_54 : decode cX10_rows 54 = .ok (.istore 7, 2) := by decide +kernel
theorem dX10_rows_56 : decode cX10_rows 56 = .ok (.iload 7, 2) := by decide +kernel
theorem dX10_rows_58 : decode cX10_rows 58 = .ok (.iload_n 2, 1) := by decide +kernel
theorem dX10_rows_59 : decode cX10_rows 59 = .ok (.if_icmp .gt 81, 3) := by decide +kernel
theorem dX10_rows_62 : decode cX10_rows 62 = .ok (.aload_n 0, 1) := by decide +kernel
theorem dX10_rows_63 : decode cX10_rows 63 = .ok (.getfield 67, 3) := by decide +kernel
theorem dX10_rows_66 : decode cX10_rows 66 = .ok (.iload 7, 2) := by decide +kernel
theorem dX10_rows_68 : decode cX10_rows 68 = .ok (.baload, 1) := by decide +kernel
theorem dX10_rows_69 : decode cX10_rows 69 = .ok (.aload_n 0, 1) := by decide +kernel
theorem dX10_rows_70 : decode cX10_rows 70 = .ok (.getfield 67, 3) := by decide +kernel
theorem dX10_rows_73 : decode cX10_rows 73 = .ok (.iload 7, 2) := by decide +kernel
theorem dX10_rows_75 : decode cX10_rows 75 = .ok (.iconst 1, 1) := by decide +kernel
theorem dX10_rows_76 : decode cX10_rows 76 = .ok (.isub, 1) := by decide +kernel
theorem dX10_rows_77 : decode cX10_rows 77 = .ok (.baload, 1) := by decide +kernel
theorem dX10_rows_78 : decode cX10_rows 78 = .ok (.if_icmp .ne 7, 3) := by decide +kernel
theorem dX10_rows_81 : decode cX10_rows 81 = .ok (.iconst 1, 1) := by decide +kernel
theorem dX10_rows_82 : decode cX10_rows 82 = .ok (.goto 4, 3) := by decide +kernel
theorem dX10_rows_85 : decode cX10_rows 85 = .ok (.iconst 0, 1) := by decide +kernel
theorem dX10_rows_86 : decode cX10_rows 86 = .ok (.istore 8, 2) := by decide +kernel
theorem dX10_rows_88 : decode cX10_rows 88 = .ok (.iload 8, 2) := by decide +kernel
theorem dX10_rows_90 : decode cX10_rows 90 = .ok (.ifCond .eq 10, 3) := by decide +kernel
theorem dX10_rows_93 : decode cX10_rows 93 = .ok (.iload 5, 2) := by decide +kernel
theorem dX10_rows_95 : decode cX10_rows 95 = .ok (.iconst 1, 1) := by decide +kernel
theorem dX10_rows_96 : decode cX10_rows 96 = .ok (.iadd, 1) := by decide +kernel
theorem dX10_rows_97 : decode cX10_rows 97 = .ok (.goto 4, 3) := by decide +kernel
theorem dX10_rows_100 : decode cX10_rows 100 = .ok (.iconst 1, 1) := by decide +kernel
theorem dX10_rows_101 : decode cX10_rows 101 = .ok (.istore 5, 2) := by decide +kernel
theorem dX10_rows_103 : decode cX10_rows 103 = .ok (.iload 6, 2) := by decide +kernel
theorem dX10_rows_105 : decode cX10_rows 105 = .ok (.iload 8, 2) := by decide +kernel
theorem dX10_rows_107 : decode cX10_rows 107 = .ok (.ifCond .eq 7, 3) := by decide +kernel
theorem dX10_rows_110 : decode cX10_rows 110 = .ok (.iconst 0, 1) := by decide +kernel
theorem dX10_rows_111 : decode cX10_rows 111 = .ok (.goto 4, 3) := by decide +kernel
theorem dX10_rows_114 : decode cX10_rows 114 = .ok (.iconst 1, 1) := by decide +kernel
theorem dX10_rows_115 : decode cX10_rows 115 = .ok (.iadd, 1) := by decide +kernel
theorem dX10_rows_116 : decode cX10_rows 116 = .ok (.istore 6, 2) := by decide +kernel
theorem dX10_rows_118 : decode cX10_rows 118 = .ok (.iload 5, 2) := by decide +kernel
theorem dX10_rows_120 : decode cX10_rows 120 = .ok (.iload 4, 2) := by decide +kernel
theorem dX10_rows_122 : decode cX10_rows 122 = .ok (.if_icmp .le 8, 3) := by decide +kernel
theorem dX10_rows_125 : decode cX10_rows 125 = .ok (.iload 5, 2) := by decide +kernel
theorem dX10_rows_127 : decode cX10_rows 127 = .ok (.goto 5, 3) := by decide +kernel
theorem dX10_rows_130 : decode cX10_rows 130 = .ok (.iload 4, 2) := by decide +kernel
theorem dX10_rows_132 : decode cX10_rows 132 = .ok (.istore 4, 2) := by decide +kernel
theorem dX10_rows_134 : decode cX10_rows 134 = .ok (.iinc 7 1, 3) := by decide +kernel
theorem dX10_rows_137 : decode cX10_rows 137 = .ok (.goto (-81), 3) := by decide +kernel
theorem dX10_rows_140 : decode cX10_rows 140 = .ok (.aload_n 0, 1) := by decide +kernel
theorem dX10_rows_141 : decode cX10_rows 141 = .ok (.iload_n 3, 1) := by decide +kernel
theorem dX10_rows_142 : decode cX10_rows 142 = .ok (.ifCond .ne 8, 3) := by decide +kernel
theorem dX10_rows_145 : decode cX10_rows 145 = .ok (.iload 4, 2) := by decide +kernel
theorem dX10_rows_147 : decode cX10_rows 147 = .ok (.goto 5, 3) := by decide +kernel
theorem dX10_rows_150 : decode cX10_rows 150 = .ok (.iload 6, 2) := by decide +kernel
theorem dX10_rows_152 : decode cX10_rows 152 = .ok (.invokevirtual 241, 3) := by decide +kernel
theorem dX10_rows_155 : decode cX10_rows 155 = .ok (.ireturn, 1) := by decide +kernel
theorem dX10_likeBy_0 : decode cX10_likeBy 0 = .ok (.iconst 0, 1) := by decide +kernel
theorem dX10_likeBy_1 : decode cX10_likeBy 1 = .ok (.istore 4, 2) := by decide +kernel
theorem dX10_likeBy_3 : decode cX10_likeBy 3 = .ok (.iload_n 1, 1) := by decide +kernel
theorem dX10_likeBy_4 : decode cX10_likeBy 4 = .ok (.istore 5, 2) := by decide +kernel
theorem dX10_likeBy_6 : decode cX10_likeBy 6 = .ok (.iload 5, 2) := by decide +kernel
theorem dX10_likeBy_8 : decode cX10_likeBy 8 = .ok (.iload_n 3, 1) := by decide +kernel
theorem dX10_likeBy_9 : decode cX10_likeBy 9 = .ok (.iadd, 1) := by decide +kernel
theorem dX10_likeBy_10 : decode cX10_likeBy 10 = .ok (.iload_n 2, 1) := by decide +kernel
theorem dX10_likeBy_11 : decode cX10_likeBy 11 = .ok (.if_icmp .gt 38, 3) := by decide +kernel
theorem dX10_likeBy_14 : decode cX10_likeBy 14 = .ok (.iload 4, 2) := by decide +kernel
theorem dX10_likeBy_16 : decode cX10_likeBy 16 = .ok (.aload_n 0, 1) := by decide +kernel
theorem dX10_likeBy_17 : decode cX10_likeBy 17 = .ok (.getfield 67, 3) := by decide +kernel
theorem dX10_likeBy_20 : decode cX10_likeBy 20 = .ok (.iload 5, 2) := by decide +kernel
theorem dX10_likeBy_22 : decode cX10_likeBy 22 = .ok (.baload, 1) := by decide +kernel
theorem dX10_likeBy_23 : decode cX10_likeBy 23 = .ok (.aload_n 0, 1) := by decide +kernel
theorem dX10_likeBy_24 : decode cX10_likeBy 24 = .ok (.getfield 67, 3) := by decide +kernel
theorem dX10_likeBy_27 : decode cX10_likeBy 27 = .ok (.iload 5, 2) := by decide +kernel
theorem dX10_likeBy_29 : decode cX10_likeBy 29 = .ok (.iload_n 3, 1) := by decide +kernel
theorem dX10_likeBy_30 : decode cX10_likeBy 30 = .ok (.iadd, 1) := by decide +kernel
theorem dX10_likeBy_31 : decode cX10_likeBy 31 = .ok (.baload, 1) := by decide +kernel
theorem dX10_likeBy_32 : decode cX10_likeBy 32 = .ok (.if_icmp .ne 7, 3) := by decide +kernel
theorem dX10_likeBy_35 : decode cX10_likeBy 35 = .ok (.iconst 1, 1) := by decide +kernel
theorem dX10_likeBy_36 : decode cX10_likeBy 36 = .ok (.goto 4, 3) := by decide +kernel
theorem dX10_likeBy_39 : decode cX10_likeBy 39 = .ok (.iconst 0, 1) := by decide +kernel
theorem dX10_likeBy_40 : decode cX10_likeBy 40 = .ok (.iadd, 1) := by decide +kernel
theorem dX10_likeBy_41 : decode cX10_likeBy 41 = .ok (.istore 4, 2) := by decide +kernel
theorem dX10_likeBy_43 : decode cX10_likeBy 43 = .ok (.iinc 5 1, 3) := by decide +kernel
theorem dX10_likeBy_46 : decode cX10_likeBy 46 = .ok (.goto (-40), 3) := by decide +kernel
theorem dX10_likeBy_49 : decode cX10_likeBy 49 = .ok (.iload 4, 2) := by decide +kernel
theorem dX10_likeBy_51 : decode cX10_likeBy 51 = .ok (.ireturn, 1) := by decide +kernel
theorem dX10_like_0 : decode cX10_like 0 = .ok (.aload_n 0, 1) := by decide +kernel
theorem dX10_like_1 : decode cX10_like 1 = .ok (.iconst 0, 1) := by decide +kernel
theorem dX10_like_2 : decode cX10_like 2 = .ok (.putfield 89, 3) := by decide +kernel
theorem dX10_like_5 : decode cX10_like 5 = .ok (.aload_n 0, 1) := by decide +kernel
theorem dX10_like_6 : decode cX10_like 6 = .ok (.invokevirtual 284, 3) := by decide +kernel
theorem dX10_like_9 : decode cX10_like 9 = .ok (.ifCond .ne 9, 3) := by decide +kernel
theorem dX10_like_12 : decode cX10_like 12 = .ok (.aload_n 0, 1) := by decide +kernel
theorem dX10_like_13 : decode cX10_like 13 = .ok (.iconst 1, 1) := by decide +kernel
theorem dX10_like_14 : decode cX10_like 14 = .ok (.invokevirtual 228, 3) := by decide +kernel
theorem dX10_like_17 : decode cX10_like 17 = .ok (.ireturn, 1) := by decide +kernel
theorem dX10_like_18 : decode cX10_like 18 = .ok (.aload_n 0, 1) := by decide +kernel
theorem dX10_like_19 : decode cX10_like 19 = .ok (.iload_n 1, 1) := by decide +kernel
theorem dX10_like_20 : decode cX10_like 20 = .ok (.iload_n 2, 1) := by decide +kernel
theorem dX10_like_21 : decode cX10_like 21 = .ok (.invokevirtual 297, 3) := by decide +kernel
theorem dX10_like_24 : decode cX10_like 24 = .ok (.ifCond .eq 28, 3) := by decide +kernel
theorem dX10_like_27 : decode cX10_like 27 = .ok (.iload_n 3, 1) := by decide +kernel
theorem dX10_like_28 : decode cX10_like 28 = .ok (.iconst 1, 1) := by decide +kernel
theorem dX10_like_29 : decode cX10_like 29 = .ok (.sipush 1000, 3) := by decide +kernel
theorem dX10_like_32 : decode cX10_like 32 = .ok (.invokestatic 111, 3) := by decide +kernel
theorem dX10_like_35 : decode cX10_like 35 = .ok (.ifCond .eq 17, 3) := by decide +kernel
theorem dX10_like_38 : decode cX10_like 38 = .ok (.aload_n 0, 1) := by decide +kernel
theorem dX10_like_39 : decode cX10_like 39 = .ok (.aload_n 0, 1) := by decide +kernel
theorem dX10_like_40 : decode cX10_like 40 = .ok (.iload_n 1, 1) := by decide +kernel
theorem dX10_like_41 : decode cX10_like 41 = .ok (.iload_n 2, 1) := by decide +kernel
theorem dX10_like_42 : decode cX10_like 42 = .ok (.iload_n 3, 1) := by decide +kernel
theorem dX10_like_43 : decode cX10_like 43 = .ok (.invokevirtual 304, 3) := by decide +kernel
theorem dX10_like_46 : decode cX10_like 46 = .ok (.invokevirtual 241, 3) := by decide +kernel
theorem dX10_like_49 : decode cX10_like 49 = .ok (.goto 8, 3) := by decide +kernel
theorem dX10_like_52 : decode cX10_like 52 = .ok (.aload_n 0, 1) := by decide +kernel
theorem dX10_like_53 : decode cX10_like 53 = .ok (.iconst 2, 1) := by decide +kernel
theorem dX10_like_54 : decode cX10_like 54 = .ok (.invokevirtual 228, 3) := by decide +kernel
theorem dX10_like_57 : decode cX10_like 57 = .ok (.ireturn, 1) := by decide +kernel
theorem dX10_tone_0 : decode cX10_tone 0 = .ok (.aload_n 0, 1) := by decide +kernel
theorem dX10_tone_1 : decode cX10_tone 1 = .ok (.iconst 0, 1) := by decide +kernel
theorem dX10_tone_2 : decode cX10_tone 2 = .ok (.putfield 89, 3) := by decide +kernel
theorem dX10_tone_5 : decode cX10_tone 5 = .ok (.aload_n 0, 1) := by decide +kernel
theorem dX10_tone_6 : decode cX10_tone 6 = .ok (.invokevirtual 284, 3) := by decide +kernel
theorem dX10_tone_9 : decode cX10_tone 9 = .ok (.ifCond .ne 9, 3) := by decide +kernel
theorem dX10_tone_12 : decode cX10_tone 12 = .ok (.aload_n 0, 1) := by decide +kernel
theorem dX10_tone_13 : decode cX10_tone 13 = .ok (.iconst 1, 1) := by decide +kernel
theorem dX10_tone_14 : decode cX10_tone 14 = .ok (.invokevirtual 228, 3) := by decide +kernel
theorem dX10_tone_17 : decode cX10_tone 17 = .ok (.ireturn, 1) := by decide +kernel
theorem dX10_tone_18 : decode cX10_tone 18 = .ok (.aload_n 0, 1) := by decide +kernel
theorem dX10_tone_19 : decode cX10_tone 19 = .ok (.iload_n 1, 1) := by decide +kernel
theorem dX10_tone_20 : decode cX10_tone 20 = .ok (.iload_n 2, 1) := by decide +kernel
theorem dX10_tone_21 : decode cX10_tone 21 = .ok (.invokevirtual 297, 3) := by decide +kernel
theorem dX10_tone_24 : decode cX10_tone 24 = .ok (.ifCond .eq 14, 3) := by decide +kernel
theorem dX10_tone_27 : decode cX10_tone 27 = .ok (.iload_n 3, 1) := by decide +kernel
theorem dX10_tone_28 : decode cX10_tone 28 = .ok (.iconst 1, 1) := by decide +kernel
theorem dX10_tone_29 : decode cX10_tone 29 = .ok (.sipush 200, 3) := by decide +kernel
theorem dX10_tone_32 : decode cX10_tone 32 = .ok (.invokestatic 111, 3) := by decide +kernel
theorem dX10_tone_35 : decode cX10_tone 35 = .ok (.ifCond .ne 9, 3) := by decide +kernel
theorem dX10_tone_38 : decode cX10_tone 38 = .ok (.aload_n 0, 1) := by decide +kernel
theorem dX10_tone_39 : decode cX10_tone 39 = .ok (.iconst 2, 1) := by decide +kernel
theorem dX10_tone_40 : decode cX10_tone 40 = .ok (.invokevirtual 228, 3) := by decide +kernel
theorem dX10_tone_43 : decode cX10_tone 43 = .ok (.ireturn, 1) := by decide +kernel
theorem dX10_tone_44 : decode cX10_tone 44 = .ok (.bipush (-2), 2) := by decide +kernel
theorem dX10_tone_46 : decode cX10_tone 46 = .ok (.istore 4, 2) := by decide +kernel
theorem dX10_tone_48 : decode cX10_tone 48 = .ok (.iconst 0, 1) := by decide +kernel
theorem dX10_tone_49 : decode cX10_tone 49 = .ok (.istore 5, 2) := by decide +kernel
theorem dX10_tone_51 : decode cX10_tone 51 = .ok (.iconst 1, 1) := by decide +kernel
theorem dX10_tone_52 : decode cX10_tone 52 = .ok (.istore 6, 2) := by decide +kernel
theorem dX10_tone_54 : decode cX10_tone 54 = .ok (.iconst 1, 1) := by decide +kernel
theorem dX10_tone_55 : decode cX10_tone 55 = .ok (.istore 7, 2) := by decide +kernel
theorem dX10_tone_57 : decode cX10_tone 57 = .ok (.iload 7, 2) := by decide +kernel
theorem dX10_tone_59 : decode cX10_tone 59 = .ok (.iload_n 3, 1) := by decide +kernel
theorem dX10_tone_60 : decode cX10_tone 60 = .ok (.if_icmp .gt 77, 3) := by decide +kernel
theorem dX10_tone_63 : decode cX10_tone 63 = .ok (.iload_n 1, 1) := by decide +kernel
theorem dX10_tone_64 : decode cX10_tone 64 = .ok (.iload 7, 2) := by decide +kernel
theorem dX10_tone_66 : decode cX10_tone 66 = .ok (.iadd, 1) := by decide +kernel
theorem dX10_tone_67 : decode cX10_tone 67 = .ok (.iload_n 2, 1) := by decide +kernel
theorem dX10_tone_68 : decode cX10_tone 68 = .ok (.if_icmp .gt 69, 3) := by decide +kernel
theorem dX10_tone_71 : decode cX10_tone 71 = .ok (.aload_n 0, 1) := by decide +kernel
theorem dX10_tone_72 : decode cX10_tone 72 = .ok (.iload_n 1, 1) := by decide +kernel
theorem dX10_tone_73 : decode cX10_tone 73 = .ok (.iload_n 2, 1) := by decide +kernel
theorem dX10_tone_74 : decode cX10_tone 74 = .ok (.iload 7, 2) := by decide +kernel
theorem dX10_tone_76 : decode cX10_tone 76 = .ok (.invokevirtual 304, 3) := by decide +kernel
theorem dX10_tone_79 : decode cX10_tone 79 = .ok (.istore 8, 2) := by decide +kernel
theorem dX10_tone_81 : decode cX10_tone 81 = .ok (.iload_n 2, 1) := by decide +kernel
theorem dX10_tone_82 : decode cX10_tone 82 = .ok (.iload 7, 2) := by decide +kernel
theorem dX10_tone_84 : decode cX10_tone 84 = .ok (.isub, 1) := by decide +kernel
theorem dX10_tone_85 : decode cX10_tone 85 = .ok (.iload_n 1, 1) := by decide +kernel
theorem dX10_tone_86 : decode cX10_tone 86 = .ok (.isub, 1) := by decide +kernel
theorem dX10_tone_87 : decode cX10_tone 87 = .ok (.iconst 1, 1) := by decide +kernel
theorem dX10_tone_88 : decode cX10_tone 88 = .ok (.iadd, 1) := by decide +kernel
theorem dX10_tone_89 : decode cX10_tone 89 = .ok (.istore 9, 2) := by decide +kernel
theorem dX10_tone_91 : decode cX10_tone 91 = .ok (.iload 4, 2) := by decide +kernel
theorem dX10_tone_93 : decode cX10_tone 93 = .ok (.bipush (-2), 2) := by decide +kernel
theorem dX10_tone_95 : decode cX10_tone 95 = .ok (.if_icmp .eq 24, 3) := by decide +kernel
theorem dX10_tone_98 : decode cX10_tone 98 = .ok (.iload 8, 2) := by decide +kernel
theorem dX10_tone_100 : decode cX10_tone 100 = .ok (.i2l, 1) := by decide +kernel
theorem dX10_tone_101 : decode cX10_tone 101 = .ok (.iload 6, 2) := by decide +kernel
theorem dX10_tone_103 : decode cX10_tone 103 = .ok (.i2l, 1) := by decide +kernel
theorem dX10_tone_104 : decode cX10_tone 104 = .ok (.lmul, 1) := by decide +kernel
theorem dX10_tone_105 : decode cX10_tone 105 = .ok (.iload 5, 2) := by decide +kernel
theorem dX10_tone_107 : decode cX10_tone 107 = .ok (.i2l, 1) := by decide +kernel
theorem dX10_tone_108 : decode cX10_tone 108 = .ok (.iload 9, 2) := by decide +kernel
theorem dX10_tone_110 : decode cX10_tone 110 = .ok (.i2l, 1) := by decide +kernel
theorem dX10_tone_111 : decode cX10_tone 111 = .ok (.lmul, 1) := by decide +kernel
theorem dX10_tone_112 : decode cX10_tone 112 = .ok (.lcmp, 1) := by decide +kernel
theorem dX10_tone_113 : decode cX10_tone 113 = .ok (.ifCond .gt 6, 3) := by decide +kernel
theorem dX10_tone_116 : decode cX10_tone 116 = .ok (.goto 15, 3) := by decide +kernel
theorem dX10_tone_119 : decode cX10_tone 119 = .ok (.iload 7, 2) := by decide +kernel
theorem dX10_tone_121 : decode cX10_tone 121 = .ok (.istore 4, 2) := by decide +kernel
theorem dX10_tone_123 : decode cX10_tone 123 = .ok (.iload 8, 2) := by decide +kernel
theorem dX10_tone_125 : decode cX10_tone 125 = .ok (.istore 5, 2) := by decide +kernel
theorem dX10_tone_127 : decode cX10_tone 127 = .ok (.iload 9, 2) := by decide +kernel
theorem dX10_tone_129 : decode cX10_tone 129 = .ok (.istore 6, 2) := by decide +kernel
theorem dX10_tone_131 : decode cX10_tone 131 = .ok (.iinc 7 1, 3) := by decide +kernel
theorem dX10_tone_134 : decode cX10_tone 134 = .ok (.goto (-77), 3) := by decide +kernel
theorem dX10_tone_137 : decode cX10_tone 137 = .ok (.aload_n 0, 1) := by decide +kernel
theorem dX10_tone_138 : decode cX10_tone 138 = .ok (.iload 4, 2) := by decide +kernel
theorem dX10_tone_140 : decode cX10_tone 140 = .ok (.invokevirtual 241, 3) := by decide +kernel
theorem dX10_tone_143 : decode cX10_tone 143 = .ok (.ireturn, 1) := by decide +kernel
theorem dX10_octet_0 : decode cX10_octet 0 = .ok (.aload_n 0, 1) := by decide +kernel
theorem dX10_octet_1 : decode cX10_octet 1 = .ok (.iconst 0, 1) := by decide +kernel
theorem dX10_octet_2 : decode cX10_octet 2 = .ok (.putfield 89, 3) := by decide +kernel
theorem dX10_octet_5 : decode cX10_octet 5 = .ok (.aload_n 0, 1) := by decide +kernel
theorem dX10_octet_6 : decode cX10_octet 6 = .ok (.invokevirtual 284, 3) := by decide +kernel
theorem dX10_octet_9 : decode cX10_octet 9 = .ok (.ifCond .ne 9, 3) := by decide +kernel
theorem dX10_octet_12 : decode cX10_octet 12 = .ok (.aload_n 0, 1) := by decide +kernel
theorem dX10_octet_13 : decode cX10_octet 13 = .ok (.iconst 1, 1) := by decide +kernel
theorem dX10_octet_14 : decode cX10_octet 14 = .ok (.invokevirtual 228, 3) := by decide +kernel
theorem dX10_octet_17 : decode cX10_octet 17 = .ok (.ireturn, 1) := by decide +kernel
theorem dX10_octet_18 : decode cX10_octet 18 = .ok (.iload_n 1, 1) := by decide +kernel
theorem dX10_octet_19 : decode cX10_octet 19 = .ok (.ifCond .lt 26, 3) := by decide +kernel
theorem dX10_octet_22 : decode cX10_octet 22 = .ok (.iload_n 1, 1) := by decide +kernel
theorem dX10_octet_23 : decode cX10_octet 23 = .ok (.sipush 511, 3) := by decide +kernel
theorem dX10_octet_26 : decode cX10_octet 26 = .ok (.if_icmp .gt 19, 3) := by decide +kernel
theorem dX10_octet_29 : decode cX10_octet 29 = .ok (.bipush 8, 2) := by decide +kernel
theorem dX10_octet_31 : decode cX10_octet 31 = .ok (.iload_n 1, 1) := by decide +kernel
theorem dX10_octet_32 : decode cX10_octet 32 = .ok (.imul, 1) := by decide +kernel
theorem dX10_octet_33 : decode cX10_octet 33 = .ok (.bipush 8, 2) := by decide +kernel
theorem dX10_octet_35 : decode cX10_octet 35 = .ok (.iadd, 1) := by decide +kernel
theorem dX10_octet_36 : decode cX10_octet 36 = .ok (.aload_n 0, 1) := by decide +kernel
theorem dX10_octet_37 : decode cX10_octet 37 = .ok (.getfield 55, 3) := by decide +kernel
theorem dX10_octet_40 : decode cX10_octet 40 = .ok (.iconst 2, 1) := by decide +kernel
theorem dX10_octet_41 : decode cX10_octet 41 = .ok (.iaload, 1) := by decide +kernel
theorem dX10_octet_42 : decode cX10_octet 42 = .ok (.if_icmp .le 9, 3) := by decide +kernel
theorem dX10_octet_45 : decode cX10_octet 45 = .ok (.aload_n 0, 1) := by decide +kernel
theorem dX10_octet_46 : decode cX10_octet 46 = .ok (.iconst 2, 1) := by decide +kernel
theorem dX10_octet_47 : decode cX10_octet 47 = .ok (.invokevirtual 228, 3) := by decide +kernel
theorem dX10_octet_50 : decode cX10_octet 50 = .ok (.ireturn, 1) := by decide +kernel
theorem dX10_octet_51 : decode cX10_octet 51 = .ok (.iconst 0, 1) := by decide +kernel
theorem dX10_octet_52 : decode cX10_octet 52 = .ok (.istore_n 2, 1) := by decide +kernel
theorem dX10_octet_53 : decode cX10_octet 53 = .ok (.iconst 0, 1) := by decide +kernel
theorem dX10_octet_54 : decode cX10_octet 54 = .ok (.istore_n 3, 1) := by decide +kernel
theorem dX10_octet_55 : decode cX10_octet 55 = .ok (.iload_n 3, 1) := by decide +kernel
theorem dX10_octet_56 : decode cX10_octet 56 = .ok (.bipush 8, 2) := by decide +kernel
theorem dX10_octet_58 : decode cX10_octet 58 = .ok (.if_icmp .ge 34, 3) := by decide +kernel
theorem dX10_octet_61 : decode cX10_octet 61 = .ok (.iconst 2, 1) := by decide +kernel
theorem dX10_octet_62 : decode cX10_octet 62 = .ok (.iload_n 2, 1) := by decide +kernel
theorem dX10_octet_63 : decode cX10_octet 63 = .ok (.imul, 1) := by decide +kernel
theorem dX10_octet_64 : decode cX10_octet 64 = .ok (.aload_n 0, 1) := by decide +kernel
theorem dX10_octet_65 : decode cX10_octet 65 = .ok (.getfield 67, 3) := by decide +kernel
theorem dX10_octet_68 : decode cX10_octet 68 = .ok (.bipush 8, 2) := by decide +kernel
theorem dX10_octet_70 : decode cX10_octet 70 = .ok (.iload_n 1, 1) := by decide +kernel
theorem dX10_octet_71 : decode cX10_octet 71 = .ok (.imul, 1) := by decide +kernel
theorem dX10_octet_72 : decode cX10_octet 72 = .ok (.iload_n 3, 1) := by decide +kernel
theorem dX10_octet_73 : decode cX10_octet 73 = .ok (.iadd, 1) := by decide +kernel
theorem dX10_octet_74 : decode cX10_octet 74 = .ok (.baload, 1) := by decide +kernel
theorem dX10_octet_75 : decode cX10_octet 75 = .ok (.iconst 1, 1) := by decide +kernel
theorem dX10_octet_76 : decode cX10_octet 76 = .ok (.if_icmp .ne 7, 3) := by decide +kernel
theorem dX10_octet_79 : decode cX10_octet 79 = .ok (.iconst 1, 1) := by decide +kernel
theorem dX10_octet_80 : decode cX10_octet 80 = .ok (.goto 4, 3) := by decide +kernel
theorem dX10_octet_83 : decode cX10_octet 83 = .ok (.iconst 0, 1) := by decide +kernel
theorem dX10_octet_84 : decode cX10_octet 84 = .ok (.iadd, 1) := by decide +kernel
theorem dX10_octet_85 : decode cX10_octet 85 = .ok (.istore_n 2, 1) := by decide +kernel
theorem dX10_octet_86 : decode cX10_octet 86 = .ok (.iinc 3 1, 3) := by decide +kernel
theorem dX10_octet_89 : decode cX10_octet 89 = .ok (.goto (-34), 3) := by decide +kernel
theorem dX10_octet_92 : decode cX10_octet 92 = .ok (.aload_n 0, 1) := by decide +kernel
theorem dX10_octet_93 : decode cX10_octet 93 = .ok (.iload_n 2, 1) := by decide +kernel
theorem dX10_octet_94 : decode cX10_octet 94 = .ok (.invokevirtual 241, 3) := by decide +kernel
theorem dX10_octet_97 : decode cX10_octet 97 = .ok (.ireturn, 1) := by decide +kernel
theorem dX10_summedMany_0 : decode cX10_summedMany 0 = .ok (.iload_n 1, 1) := by decide +kernel
theorem dX10_summedMany_1 : decode cX10_summedMany 1 = .ok (.iload_n 2, 1) := by decide +kernel
theorem dX10_summedMany_2 : decode cX10_summedMany 2 = .ok (.iconst 1, 1) := by decide +kernel
theorem dX10_summedMany_3 : decode cX10_summedMany 3 = .ok (.isub, 1) := by decide +kernel
theorem dX10_summedMany_4 : decode cX10_summedMany 4 = .ok (.imul, 1) := by decide +kernel
theorem dX10_summedMany_5 : decode cX10_summedMany 5 = .ok (.iconst 1, 1) := by decide +kernel
theorem dX10_summedMany_6 : decode cX10_summedMany 6 = .ok (.iadd, 1) := by decide +kernel
theorem dX10_summedMany_7 : decode cX10_summedMany 7 = .ok (.istore_n 3, 1) := by decide +kernel
theorem dX10_summedMany_8 : decode cX10_summedMany 8 = .ok (.aload_n 0, 1) := by decide +kernel
theorem dX10_summedMany_9 : decode cX10_summedMany 9 = .ok (.getfield 55, 3) := by decide +kernel
theorem dX10_summedMany_12 : decode cX10_summedMany 12 = .ok (.iconst 2, 1) := by decide +kernel
theorem dX10_summedMany_13 : decode cX10_summedMany 13 = .ok (.iaload, 1) := by decide +kernel
theorem dX10_summedMany_14 : decode cX10_summedMany 14 = .ok (.iload_n 3, 1) := by decide +kernel
theorem dX10_summedMany_15 : decode cX10_summedMany 15 = .ok (.if_icmp .ge 7, 3) := by decide +kernel
theorem dX10_summedMany_18 : decode cX10_summedMany 18 = .ok (.iconst 0, 1) := by decide +kernel
theorem dX10_summedMany_19 : decode cX10_summedMany 19 = .ok (.goto 15, 3) := by decide +kernel
theorem dX10_summedMany_22 : decode cX10_summedMany 22 = .ok (.aload_n 0, 1) := by decide +kernel
theorem dX10_summedMany_23 : decode cX10_summedMany 23 = .ok (.getfield 55, 3) := by decide +kernel
theorem dX10_summedMany_26 : decode cX10_summedMany 26 = .ok (.iconst 2, 1) := by decide +kernel
theorem dX10_summedMany_27 : decode cX10_summedMany 27 = .ok (.iaload, 1) := by decide +kernel
theorem dX10_summedMany_28 : decode cX10_summedMany 28 = .ok (.iload_n 3, 1) := by decide +kernel
theorem dX10_summedMany_29 : decode cX10_summedMany 29 = .ok (.isub, 1) := by decide +kernel
theorem dX10_summedMany_30 : decode cX10_summedMany 30 = .ok (.iload_n 2, 1) := by decide +kernel
theorem dX10_summedMany_31 : decode cX10_summedMany 31 = .ok (.idiv, 1) := by decide +kernel
theorem dX10_summedMany_32 : decode cX10_summedMany 32 = .ok (.iconst 1, 1) := by decide +kernel
theorem dX10_summedMany_33 : decode cX10_summedMany 33 = .ok (.iadd, 1) := by decide +kernel
theorem dX10_summedMany_34 : decode cX10_summedMany 34 = .ok (.ireturn, 1) := by decide +kernel
theorem dX10_laysSummed_0 : decode cX10_laysSummed 0 = .ok (.aload_n 0, 1) := by decide +kernel
theorem dX10_laysSummed_1 : decode cX10_laysSummed 1 = .ok (.getfield 55, 3) := by decide +kernel
theorem dX10_laysSummed_4 : decode cX10_laysSummed 4 = .ok (.iconst 2, 1) := by decide +kernel
theorem dX10_laysSummed_5 : decode cX10_laysSummed 5 = .ok (.iaload, 1) := by decide +kernel
theorem dX10_laysSummed_6 : decode cX10_laysSummed 6 = .ok (.istore 4, 2) := by decide +kernel
theorem dX10_laysSummed_8 : decode cX10_laysSummed 8 = .ok (.iconst 0, 1) := by decide +kernel
theorem dX10_laysSummed_9 : decode cX10_laysSummed 9 = .ok (.istore 5, 2) := by decide +kernel
theorem dX10_laysSummed_11 : decode cX10_laysSummed 11 = .ok (.iload 5, 2) := by decide +kernel
theorem dX10_laysSummed_13 : decode cX10_laysSummed 13 = .ok (.iload 4, 2) := by decide +kernel
theorem dX10_laysSummed_15 : decode cX10_laysSummed 15 = .ok (.if_icmp .ge 42, 3) := by decide +kernel
theorem dX10_laysSummed_18 : decode cX10_laysSummed 18 = .ok (.aload_n 0, 1) := by decide +kernel
theorem dX10_laysSummed_19 : decode cX10_laysSummed 19 = .ok (.getfield 83, 3) := by decide +kernel
theorem dX10_laysSummed_22 : decode cX10_laysSummed 22 = .ok (.iload 5, 2) := by decide +kernel
theorem dX10_laysSummed_24 : decode cX10_laysSummed 24 = .ok (.iload_n 3, 1) := by decide +kernel
theorem dX10_laysSummed_25 : decode cX10_laysSummed 25 = .ok (.ifCond .eq 18, 3) := by decide +kernel
theorem dX10_laysSummed_28 : decode cX10_laysSummed 28 = .ok (.aload_n 0, 1) := by decide +kernel
theorem dX10_laysSummed_29 : decode cX10_laysSummed 29 = .ok (.aload_n 0, 1) := by decide +kernel
theorem dX10_laysSummed_30 : decode cX10_laysSummed 30 = .ok (.getfield 55, 3) := by decide +kernel
theorem dX10_laysSummed_33 : decode cX10_laysSummed 33 = .ok (.iconst 1, 1) := by decide +kernel
theorem dX10_laysSummed_34 : decode cX10_laysSummed 34 = .ok (.iaload, 1) := by decide +kernel
theorem dX10_laysSummed_35 : decode cX10_laysSummed 35 = .ok (.iload 5, 2) := by decide +kernel
theorem dX10_laysSummed_37 : decode cX10_laysSummed 37 = .ok (.invokevirtual 269, 3) := by decide +kernel
theorem dX10_laysSummed_40 : decode cX10_laysSummed 40 = .ok (.goto 10, 3) := by decide +kernel
theorem dX10_laysSummed_43 : decode cX10_laysSummed 43 = .ok (.aload_n 0, 1) := by decide +kernel
theorem dX10_laysSummed_44 : decode cX10_laysSummed 44 = .ok (.getfield 67, 3) := by decide +kernel
theorem dX10_laysSummed_47 : decode cX10_laysSummed 47 = .ok (.iload 5, 2) := by decide +kernel
theorem dX10_laysSummed_49 : decode cX10_laysSummed 49 = .ok (.baload, 1) := by decide +kernel
theorem dX10_laysSummed_50 : decode cX10_laysSummed 50 = .ok (.iastore, 1) := by decide +kernel
theorem dX10_laysSummed_51 : decode cX10_laysSummed 51 = .ok (.iinc 5 1, 3) := by decide +kernel
theorem dX10_laysSummed_54 : decode cX10_laysSummed 54 = .ok (.goto (-43), 3) := by decide +kernel
theorem dX10_laysSummed_57 : decode cX10_laysSummed 57 = .ok (.iconst 0, 1) := by decide +kernel
theorem dX10_laysSummed_58 : decode cX10_laysSummed 58 = .ok (.istore 5, 2) := by decide +kernel
theorem dX10_laysSummed_60 : decode cX10_laysSummed 60 = .ok (.iload 5, 2) := by decide +kernel
theorem dX10_laysSummed_62 : decode cX10_laysSummed 62 = .ok (.iload_n 1, 1) := by decide +kernel
theorem dX10_laysSummed_63 : decode cX10_laysSummed 63 = .ok (.if_icmp .ge 75, 3) := by decide +kernel
theorem dX10_laysSummed_66 : decode cX10_laysSummed 66 = .ok (.iload 4, 2) := by decide +kernel
theorem dX10_laysSummed_68 : decode cX10_laysSummed 68 = .ok (.iload_n 2, 1) := by decide +kernel
theorem dX10_laysSummed_69 : decode cX10_laysSummed 69 = .ok (.iconst 1, 1) := by decide +kernel
theorem dX10_laysSummed_70 : decode cX10_laysSummed 70 = .ok (.isub, 1) := by decide +kernel
theorem dX10_laysSummed_71 : decode cX10_laysSummed 71 = .ok (.isub, 1) := by decide +kernel
theorem dX10_laysSummed_72 : decode cX10_laysSummed 72 = .ok (.istore 4, 2) := by decide +kernel
theorem dX10_laysSummed_74 : decode cX10_laysSummed 74 = .ok (.iconst 0, 1) := by decide +kernel
theorem dX10_laysSummed_75 : decode cX10_laysSummed 75 = .ok (.istore 6, 2) := by decide +kernel
theorem dX10_laysSummed_77 : decode cX10_laysSummed 77 = .ok (.iload 6, 2) := by decide +kernel
theorem dX10_laysSummed_79 : decode cX10_laysSummed 79 = .ok (.iload 4, 2) := by decide +kernel
theorem dX10_laysSummed_81 : decode cX10_laysSummed 81 = .ok (.if_icmp .ge 51, 3) := by decide +kernel
theorem dX10_laysSummed_84 : decode cX10_laysSummed 84 = .ok (.iconst 0, 1) := by decide +kernel
theorem dX10_laysSummed_85 : decode cX10_laysSummed 85 = .ok (.istore 7, 2) := by decide +kernel
theorem dX10_laysSummed_87 : decode cX10_laysSummed 87 = .ok (.iconst 0, 1) := by decide +kernel
theorem dX10_laysSummed_88 : decode cX10_laysSummed 88 = .ok (.istore 8, 2) := by decide +kernel
theorem dX10_laysSummed_90 : decode cX10_laysSummed 90 = .ok (.iload 8, 2) := by decide +kernel
theorem dX10_laysSummed_92 : decode cX10_laysSummed 92 = .ok (.iload_n 2, 1) := by decide +kernel
theorem dX10_laysSummed_93 : decode cX10_laysSummed 93 = .ok (.if_icmp .ge 24, 3) := by decide +kernel
theorem dX10_laysSummed_96 : decode cX10_laysSummed 96 = .ok (.iload 7, 2) := by decide +kernel
theorem dX10_laysSummed_98 : decode cX10_laysSummed 98 = .ok (.aload_n 0, 1) := by decide +kernel
theorem dX10_laysSummed_99 : decode cX10_laysSummed 99 = .ok (.getfield 83, 3) := by decide +kernel
theorem dX10_laysSummed_102 : decode cX10_laysSummed 102 = .ok (.iload 6, 2) := by decide +kernel
theorem dX10_laysSummed_104 : decode cX10_laysSummed 104 = .ok (.iload 8, 2) := by decide +kernel
theorem dX10_laysSummed_106 : decode cX10_laysSummed 106 = .ok (.iadd, 1) := by decide +kernel
theorem dX10_laysSummed_107 : decode cX10_laysSummed 107 = .ok (.iaload, 1) := by decide +kernel
theorem dX10_laysSummed_108 : decode cX10_laysSummed 108 = .ok (.iadd, 1) := by decide +kernel
theorem dX10_laysSummed_109 : decode cX10_laysSummed 109 = .ok (.istore 7, 2) := by decide +kernel
theorem dX10_laysSummed_111 : decode cX10_laysSummed 111 = .ok (.iinc 8 1, 3) := by decide +kernel
theorem dX10_laysSummed_114 : decode cX10_laysSummed 114 = .ok (.goto (-24), 3) := by decide +kernel
theorem dX10_laysSummed_117 : decode cX10_laysSummed 117 = .ok (.aload_n 0, 1) := by decide +kernel
theorem dX10_laysSummed_118 : decode cX10_laysSummed 118 = .ok (.getfield 83, 3) := by decide +kernel
theorem dX10_laysSummed_121 : decode cX10_laysSummed 121 = .ok (.iload 6, 2) := by decide +kernel
theorem dX10_laysSummed_123 : decode cX10_laysSummed 123 = .ok (.iload 7, 2) := by decide +kernel
theorem dX10_laysSummed_125 : decode cX10_laysSummed 125 = .ok (.iastore, 1) := by decide +kernel
theorem dX10_laysSummed_126 : decode cX10_laysSummed 126 = .ok (.iinc 6 1, 3) := by decide +kernel
theorem dX10_laysSummed_129 : decode cX10_laysSummed 129 = .ok (.goto (-52), 3) := by decide +kernel
theorem dX10_laysSummed_132 : decode cX10_laysSummed 132 = .ok (.iinc 5 1, 3) := by decide +kernel
theorem dX10_laysSummed_135 : decode cX10_laysSummed 135 = .ok (.goto (-75), 3) := by decide +kernel
theorem dX10_laysSummed_138 : decode cX10_laysSummed 138 = .ok (.return_, 1) := by decide +kernel
theorem dX10_refusesSummed_0 : decode cX10_refusesSummed 0 = .ok (.aload_n 0, 1) := by decide +kernel
theorem dX10_refusesSummed_1 : decode cX10_refusesSummed 1 = .ok (.invokevirtual 284, 3) := by decide +kernel
theorem dX10_refusesSummed_4 : decode cX10_refusesSummed 4 = .ok (.ifCond .ne 7, 3) := by decide +kernel
theorem dX10_refusesSummed_7 : decode cX10_refusesSummed 7 = .ok (.iconst 1, 1) := by decide +kernel
theorem dX10_refusesSummed_8 : decode cX10_refusesSummed 8 = .ok (.goto 27, 3) := by decide +kernel
theorem dX10_refusesSummed_11 : decode cX10_refusesSummed 11 = .ok (.iload_n 1, 1) := by decide +kernel
theorem dX10_refusesSummed_12 : decode cX10_refusesSummed 12 = .ok (.iconst 1, 1) := by decide +kernel
theorem dX10_refusesSummed_13 : decode cX10_refusesSummed 13 = .ok (.iconst 3, 1) := by decide +kernel
theorem dX10_refusesSummed_14 : decode cX10_refusesSummed 14 = .ok (.invokestatic 111, 3) := by decide +kernel
theorem dX10_refusesSummed_17 : decode cX10_refusesSummed 17 = .ok (.ifCond .eq 13, 3) := by decide +kernel
theorem dX10_refusesSummed_20 : decode cX10_refusesSummed 20 = .ok (.iload_n 2, 1) := by decide +kernel
theorem dX10_refusesSummed_21 : decode cX10_refusesSummed 21 = .ok (.iconst 2, 1) := by decide +kernel
theorem dX10_refusesSummed_22 : decode cX10_refusesSummed 22 = .ok (.bipush 32, 2) := by decide +kernel
theorem dX10_refusesSummed_24 : decode cX10_refusesSummed 24 = .ok (.invokestatic 111, 3) := by decide +kernel
theorem dX10_refusesSummed_27 : decode cX10_refusesSummed 27 = .ok (.ifCond .ne 7, 3) := by decide +kernel
theorem dX10_refusesSummed_30 : decode cX10_refusesSummed 30 = .ok (.iconst 2, 1) := by decide +kernel
theorem dX10_refusesSummed_31 : decode cX10_refusesSummed 31 = .ok (.goto 4, 3) := by decide +kernel
theorem dX10_refusesSummed_34 : decode cX10_refusesSummed 34 = .ok (.iconst 0, 1) := by decide +kernel
theorem dX10_refusesSummed_35 : decode cX10_refusesSummed 35 = .ok (.ireturn, 1) := by decide +kernel
theorem dX10_summed_0 : decode cX10_summed 0 = .ok (.aload_n 0, 1) := by decide +kernel
theorem dX10_summed_1 : decode cX10_summed 1 = .ok (.iconst 0, 1) := by decide +kernel
theorem dX10_summed_2 : decode cX10_summed 2 = .ok (.putfield 89, 3) := by decide +kernel
theorem dX10_summed_5 : decode cX10_summed 5 = .ok (.aload_n 0, 1) := by decide +kernel
theorem dX10_summed_6 : decode cX10_summed 6 = .ok (.iload_n 1, 1) := by decide +kernel
theorem dX10_summed_7 : decode cX10_summed 7 = .ok (.iload_n 2, 1) := by decide +kernel
theorem dX10_summed_8 : decode cX10_summed 8 = .ok (.invokevirtual 308, 3) := by decide +kernel
theorem dX10_summed_11 : decode cX10_summed 11 = .ok (.istore_n 3, 1) := by decide +kernel
theorem dX10_summed_12 : decode cX10_summed 12 = .ok (.iload_n 3, 1) := by decide +kernel
theorem dX10_summed_13 : decode cX10_summed 13 = .ok (.ifCond .le 11, 3) := by decide +kernel
theorem dX10_summed_16 : decode cX10_summed 16 = .ok (.aload_n 0, 1) := by decide +kernel
theorem dX10_summed_17 : decode cX10_summed 17 = .ok (.iload_n 3, 1) := by decide +kernel
theorem dX10_summed_18 : decode cX10_summed 18 = .ok (.invokevirtual 228, 3) := by decide +kernel
theorem dX10_summed_21 : decode cX10_summed 21 = .ok (.goto 13, 3) := by decide +kernel
theorem dX10_summed_24 : decode cX10_summed 24 = .ok (.aload_n 0, 1) := by decide +kernel
theorem dX10_summed_25 : decode cX10_summed 25 = .ok (.aload_n 0, 1) := by decide +kernel
theorem dX10_summed_26 : decode cX10_summed 26 = .ok (.iload_n 1, 1) := by decide +kernel
theorem dX10_summed_27 : decode cX10_summed 27 = .ok (.iload_n 2, 1) := by decide +kernel
theorem dX10_summed_28 : decode cX10_summed 28 = .ok (.invokevirtual 311, 3) := by decide +kernel
theorem dX10_summed_31 : decode cX10_summed 31 = .ok (.invokevirtual 241, 3) := by decide +kernel
theorem dX10_summed_34 : decode cX10_summed 34 = .ok (.ireturn, 1) := by decide +kernel
theorem dX10_summedAt_0 : decode cX10_summedAt 0 = .ok (.aload_n 0, 1) := by decide +kernel
theorem dX10_summedAt_1 : decode cX10_summedAt 1 = .ok (.iconst 0, 1) := by decide +kernel
theorem dX10_summedAt_2 : decode cX10_summedAt 2 = .ok (.putfield 89, 3) := by decide +kernel
theorem dX10_summedAt_5 : decode cX10_summedAt 5 = .ok (.aload_n 0, 1) := by decide +kernel
theorem dX10_summedAt_6 : decode cX10_summedAt 6 = .ok (.iload_n 1, 1) := by decide +kernel
theorem dX10_summedAt_7 : decode cX10_summedAt 7 = .ok (.iload_n 2, 1) := by decide +kernel
theorem dX10_summedAt_8 : decode cX10_summedAt 8 = .ok (.invokevirtual 308, 3) := by decide +kernel
theorem dX10_summedAt_11 : decode cX10_summedAt 11 = .ok (.istore 4, 2) := by decide +kernel
theorem dX10_summedAt_13 : decode cX10_summedAt 13 = .ok (.iload 4, 2) := by decide +kernel
theorem dX10_summedAt_15 : decode cX10_summedAt 15 = .ok (.ifCond .le 10, 3) := by decide +kernel
theorem dX10_summedAt_18 : decode cX10_summedAt 18 = .ok (.aload_n 0, 1) := by decide +kernel
theorem dX10_summedAt_19 : decode cX10_summedAt 19 = .ok (.iload 4, 2) := by decide +kernel
theorem dX10_summedAt_21 : decode cX10_summedAt 21 = .ok (.invokevirtual 266, 3) := by decide +kernel
theorem dX10_summedAt_24 : decode cX10_summedAt 24 = .ok (.ireturn, 1) := by decide +kernel
theorem dX10_summedAt_25 : decode cX10_summedAt 25 = .ok (.iload_n 3, 1) := by decide +kernel
theorem dX10_summedAt_26 : decode cX10_summedAt 26 = .ok (.iconst 0, 1) := by decide +kernel
theorem dX10_summedAt_27 : decode cX10_summedAt 27 = .ok (.aload_n 0, 1) := by decide +kernel
theorem dX10_summedAt_28 : decode cX10_summedAt 28 = .ok (.iload_n 1, 1) := by decide +kernel
theorem dX10_summedAt_29 : decode cX10_summedAt 29 = .ok (.iload_n 2, 1) := by decide +kernel
theorem dX10_summedAt_30 : decode cX10_summedAt 30 = .ok (.invokevirtual 311, 3) := by decide +kernel
theorem dX10_summedAt_33 : decode cX10_summedAt 33 = .ok (.iconst 1, 1) := by decide +kernel
theorem dX10_summedAt_34 : decode cX10_summedAt 34 = .ok (.isub, 1) := by decide +kernel
theorem dX10_summedAt_35 : decode cX10_summedAt 35 = .ok (.invokestatic 111, 3) := by decide +kernel
theorem dX10_summedAt_38 : decode cX10_summedAt 38 = .ok (.ifCond .ne 9, 3) := by decide +kernel
theorem dX10_summedAt_41 : decode cX10_summedAt 41 = .ok (.aload_n 0, 1) := by decide +kernel
theorem dX10_summedAt_42 : decode cX10_summedAt 42 = .ok (.iconst 2, 1) := by decide +kernel
theorem dX10_summedAt_43 : decode cX10_summedAt 43 = .ok (.invokevirtual 266, 3) := by decide +kernel
theorem dX10_summedAt_46 : decode cX10_summedAt 46 = .ok (.ireturn, 1) := by decide +kernel
theorem dX10_summedAt_47 : decode cX10_summedAt 47 = .ok (.aload_n 0, 1) := by decide +kernel
theorem dX10_summedAt_48 : decode cX10_summedAt 48 = .ok (.iload_n 1, 1) := by decide +kernel
theorem dX10_summedAt_49 : decode cX10_summedAt 49 = .ok (.iload_n 2, 1) := by decide +kernel
theorem dX10_summedAt_50 : decode cX10_summedAt 50 = .ok (.iconst 0, 1) := by decide +kernel
theorem dX10_summedAt_51 : decode cX10_summedAt 51 = .ok (.invokevirtual 314, 3) := by decide +kernel
theorem dX10_summedAt_54 : decode cX10_summedAt 54 = .ok (.aload_n 0, 1) := by decide +kernel
theorem dX10_summedAt_55 : decode cX10_summedAt 55 = .ok (.aload_n 0, 1) := by decide +kernel
theorem dX10_summedAt_56 : decode cX10_summedAt 56 = .ok (.getfield 83, 3) := by decide +kernel
theorem dX10_summedAt_59 : decode cX10_summedAt 59 = .ok (.iload_n 3, 1) := by decide +kernel
theorem dX10_summedAt_60 : decode cX10_summedAt 60 = .ok (.iload_n 2, 1) := by decide +kernel
theorem dX10_summedAt_61 : decode cX10_summedAt 61 = .ok (.imul, 1) := by decide +kernel
theorem dX10_summedAt_62 : decode cX10_summedAt 62 = .ok (.iaload, 1) := by decide +kernel
theorem dX10_summedAt_63 : decode cX10_summedAt 63 = .ok (.invokevirtual 241, 3) := by decide +kernel
theorem dX10_summedAt_66 : decode cX10_summedAt 66 = .ok (.ireturn, 1) := by decide +kernel
theorem dX10_worst_0 : decode cX10_worst 0 = .ok (.aload_n 0, 1) := by decide +kernel
theorem dX10_worst_1 : decode cX10_worst 1 = .ok (.iconst 0, 1) := by decide +kernel
theorem dX10_worst_2 : decode cX10_worst 2 = .ok (.putfield 89, 3) := by decide +kernel
theorem dX10_worst_5 : decode cX10_worst 5 = .ok (.aload_n 0, 1) := by decide +kernel
theorem dX10_worst_6 : decode cX10_worst 6 = .ok (.iload_n 1, 1) := by decide +kernel
theorem dX10_worst_7 : decode cX10_worst 7 = .ok (.iload_n 2, 1) := by decide +kernel
theorem dX10_worst_8 : decode cX10_worst 8 = .ok (.invokevirtual 308, 3) := by decide +kernel
theorem dX10_worst_11 : decode cX10_worst 11 = .ok (.istore_n 3, 1) := by decide +kernel
theorem dX10_worst_12 : decode cX10_worst 12 = .ok (.iload_n 3, 1) := by decide +kernel
theorem dX10_worst_13 : decode cX10_worst 13 = .ok (.ifCond .le 9, 3) := by decide +kernel
theorem dX10_worst_16 : decode cX10_worst 16 = .ok (.aload_n 0, 1) := by decide +kernel
theorem dX10_worst_17 : decode cX10_worst 17 = .ok (.iload_n 3, 1) := by decide +kernel
theorem dX10_worst_18 : decode cX10_worst 18 = .ok (.invokevirtual 228, 3) := by decide +kernel
theorem dX10_worst_21 : decode cX10_worst 21 = .ok (.ireturn, 1) := by decide +kernel
theorem dX10_worst_22 : decode cX10_worst 22 = .ok (.aload_n 0, 1) := by decide +kernel
theorem dX10_worst_23 : decode cX10_worst 23 = .ok (.iload_n 1, 1) := by decide +kernel
theorem dX10_worst_24 : decode cX10_worst 24 = .ok (.iload_n 2, 1) := by decide +kernel
theorem dX10_worst_25 : decode cX10_worst 25 = .ok (.invokevirtual 311, 3) := by decide +kernel
theorem dX10_worst_28 : decode cX10_worst 28 = .ok (.istore 4, 2) := by decide +kernel
theorem dX10_worst_30 : decode cX10_worst 30 = .ok (.iload 4, 2) := by decide +kernel
theorem dX10_worst_32 : decode cX10_worst 32 = .ok (.ifCond .ne 9, 3) := by decide +kernel
theorem dX10_worst_35 : decode cX10_worst 35 = .ok (.aload_n 0, 1) := by decide +kernel
theorem dX10_worst_36 : decode cX10_worst 36 = .ok (.iconst 5, 1) := by decide +kernel
theorem dX10_worst_37 : decode cX10_worst 37 = .ok (.invokevirtual 228, 3) := by decide +kernel
theorem dX10_worst_40 : decode cX10_worst 40 = .ok (.ireturn, 1) := by decide +kernel
theorem dX10_worst_41 : decode cX10_worst 41 = .ok (.aload_n 0, 1) := by decide +kernel
theorem dX10_worst_42 : decode cX10_worst 42 = .ok (.iload_n 1, 1) := by decide +kernel
theorem dX10_worst_43 : decode cX10_worst 43 = .ok (.iload_n 2, 1) := by decide +kernel
theorem dX10_worst_44 : decode cX10_worst 44 = .ok (.iconst 0, 1) := by decide +kernel
theorem dX10_worst_45 : decode cX10_worst 45 = .ok (.invokevirtual 314, 3) := by decide +kernel
theorem dX10_worst_48 : decode cX10_worst 48 = .ok (.iconst 0, 1) := by decide +kernel
theorem dX10_worst_49 : decode cX10_worst 49 = .ok (.istore 5, 2) := by decide +kernel
theorem dX10_worst_51 : decode cX10_worst 51 = .ok (.iload 5, 2) := by decide +kernel
theorem dX10_worst_53 : decode cX10_worst 53 = .ok (.iload 4, 2) := by decide +kernel
theorem dX10_worst_55 : decode cX10_worst 55 = .ok (.if_icmp .ge 25, 3) := by decide +kernel
theorem dX10_worst_58 : decode cX10_worst 58 = .ok (.aload_n 0, 1) := by decide +kernel
theorem dX10_worst_59 : decode cX10_worst 59 = .ok (.getfield 86, 3) := by decide +kernel
theorem dX10_worst_62 : decode cX10_worst 62 = .ok (.iload 5, 2) := by decide +kernel
theorem dX10_worst_64 : decode cX10_worst 64 = .ok (.aload_n 0, 1) := by decide +kernel
theorem dX10_worst_65 : decode cX10_worst 65 = .ok (.getfield 83, 3) := by decide +kernel
theorem dX10_worst_68 : decode cX10_worst 68 = .ok (.iload 5, 2) := by decide +kernel
theorem dX10_worst_70 : decode cX10_worst 70 = .ok (.iload_n 2, 1) := by decide +kernel
theorem dX10_worst_71 : decode cX10_worst 71 = .ok (.imul, 1) := by decide +kernel
theorem dX10_worst_72 : decode cX10_worst 72 = .ok (.iaload, 1) := by decide +kernel
theorem dX10_worst_73 : decode cX10_worst 73 = .ok (.iastore, 1) := by decide +kernel
theorem dX10_worst_74 : decode cX10_worst 74 = .ok (.iinc 5 1, 3) := by decide +kernel
theorem dX10_worst_77 : decode cX10_worst 77 = .ok (.goto (-26), 3) := by decide +kernel
theorem dX10_worst_80 : decode cX10_worst 80 = .ok (.aload_n 0, 1) := by decide +kernel
theorem dX10_worst_81 : decode cX10_worst 81 = .ok (.iload_n 1, 1) := by decide +kernel
theorem dX10_worst_82 : decode cX10_worst 82 = .ok (.iload_n 2, 1) := by decide +kernel
theorem dX10_worst_83 : decode cX10_worst 83 = .ok (.iconst 1, 1) := by decide +kernel
theorem dX10_worst_84 : decode cX10_worst 84 = .ok (.invokevirtual 314, 3) := by decide +kernel
theorem dX10_worst_87 : decode cX10_worst 87 = .ok (.iconst 0, 1) := by decide +kernel
theorem dX10_worst_88 : decode cX10_worst 88 = .ok (.istore 5, 2) := by decide +kernel
theorem dX10_worst_90 : decode cX10_worst 90 = .ok (.iconst 0, 1) := by decide +kernel
theorem dX10_worst_91 : decode cX10_worst 91 = .ok (.istore 6, 2) := by decide +kernel
theorem dX10_worst_93 : decode cX10_worst 93 = .ok (.iload 6, 2) := by decide +kernel
theorem dX10_worst_95 : decode cX10_worst 95 = .ok (.iload 4, 2) := by decide +kernel
theorem dX10_worst_97 : decode cX10_worst 97 = .ok (.if_icmp .ge 51, 3) := by decide +kernel
theorem dX10_worst_100 : decode cX10_worst 100 = .ok (.sipush 1000, 3) := by decide +kernel
theorem dX10_worst_103 : decode cX10_worst 103 = .ok (.aload_n 0, 1) := by decide +kernel
theorem dX10_worst_104 : decode cX10_worst 104 = .ok (.getfield 86, 3) := by decide +kernel
theorem dX10_worst_107 : decode cX10_worst 107 = .ok (.iload 6, 2) := by decide +kernel
theorem dX10_worst_109 : decode cX10_worst 109 = .ok (.iaload, 1) := by decide +kernel
theorem dX10_worst_110 : decode cX10_worst 110 = .ok (.imul, 1) := by decide +kernel
theorem dX10_worst_111 : decode cX10_worst 111 = .ok (.aload_n 0, 1) := by decide +kernel
theorem dX10_worst_112 : decode cX10_worst 112 = .ok (.getfield 83, 3) := by decide +kernel
theorem dX10_worst_115 : decode cX10_worst 115 = .ok (.iload 6, 2) := by decide +kernel
theorem dX10_worst_117 : decode cX10_worst 117 = .ok (.iload_n 2, 1) := by decide +kernel
theorem dX10_worst_118 : decode cX10_worst 118 = .ok (.imul, 1) := by decide +kernel
theorem dX10_worst_119 : decode cX10_worst 119 = .ok (.iaload, 1) := by decide +kernel
theorem dX10_worst_120 : decode cX10_worst 120 = .ok (.isub, 1) := by decide +kernel
theorem dX10_worst_121 : decode cX10_worst 121 = .ok (.invokestatic 273, 3) := by decide +kernel
theorem dX10_worst_124 : decode cX10_worst 124 = .ok (.istore 7, 2) := by decide +kernel
theorem dX10_worst_126 : decode cX10_worst 126 = .ok (.iload 7, 2) := by decide +kernel
theorem dX10_worst_128 : decode cX10_worst 128 = .ok (.iload 5, 2) := by decide +kernel
theorem dX10_worst_130 : decode cX10_worst 130 = .ok (.if_icmp .le 8, 3) := by decide +kernel
theorem dX10_worst_133 : decode cX10_worst 133 = .ok (.iload 7, 2) := by decide +kernel
theorem dX10_worst_135 : decode cX10_worst 135 = .ok (.goto 5, 3) := by decide +kernel
theorem dX10_worst_138 : decode cX10_worst 138 = .ok (.iload 5, 2) := by decide +kernel
theorem dX10_worst_140 : decode cX10_worst 140 = .ok (.istore 5, 2) := by decide +kernel
theorem dX10_worst_142 : decode cX10_worst 142 = .ok (.iinc 6 1, 3) := by decide +kernel
theorem dX10_worst_145 : decode cX10_worst 145 = .ok (.goto (-52), 3) := by decide +kernel
theorem dX10_worst_148 : decode cX10_worst 148 = .ok (.aload_n 0, 1) := by decide +kernel
theorem dX10_worst_149 : decode cX10_worst 149 = .ok (.iload 5, 2) := by decide +kernel
theorem dX10_worst_151 : decode cX10_worst 151 = .ok (.invokevirtual 241, 3) := by decide +kernel
theorem dX10_worst_154 : decode cX10_worst 154 = .ok (.ireturn, 1) := by decide +kernel
theorem dX10_areLike_0 : decode cX10_areLike 0 = .ok (.aload_n 1, 1) := by decide +kernel
theorem dX10_areLike_1 : decode cX10_areLike 1 = .ok (.iconst 5, 1) := by decide +kernel
theorem dX10_areLike_2 : decode cX10_areLike 2 = .ok (.iaload, 1) := by decide +kernel
theorem dX10_areLike_3 : decode cX10_areLike 3 = .ok (.aload_n 2, 1) := by decide +kernel
theorem dX10_areLike_4 : decode cX10_areLike 4 = .ok (.iconst 5, 1) := by decide +kernel
theorem dX10_areLike_5 : decode cX10_areLike 5 = .ok (.iaload, 1) := by decide +kernel
theorem dX10_areLike_6 : decode cX10_areLike 6 = .ok (.if_icmp .ne 29, 3) := by decide +kernel
theorem dX10_areLike_9 : decode cX10_areLike 9 = .ok (.aload_n 1, 1) := by decide +kernel
theorem dX10_areLike_10 : decode cX10_areLike 10 = .ok (.bipush 6, 2) := by decide +kernel
theorem dX10_areLike_12 : decode cX10_areLike 12 = .ok (.iaload, 1) := by decide +kernel
theorem dX10_areLike_13 : decode cX10_areLike 13 = .ok (.aload_n 2, 1) := by decide +kernel
theorem dX10_areLike_14 : decode cX10_areLike 14 = .ok (.bipush 6, 2) := by decide +kernel
theorem dX10_areLike_16 : decode cX10_areLike 16 = .ok (.iaload, 1) := by decide +kernel
theorem dX10_areLike_17 : decode cX10_areLike 17 = .ok (.if_icmp .ne 18, 3) := by decide +kernel
theorem dX10_areLike_20 : decode cX10_areLike 20 = .ok (.aload_n 1, 1) := by decide +kernel
theorem dX10_areLike_21 : decode cX10_areLike 21 = .ok (.bipush 7, 2) := by decide +kernel
theorem dX10_areLike_23 : decode cX10_areLike 23 = .ok (.iaload, 1) := by decide +kernel
theorem dX10_areLike_24 : decode cX10_areLike 24 = .ok (.aload_n 2, 1) := by decide +kernel
theorem dX10_areLike_25 : decode cX10_areLike 25 = .ok (.bipush 7, 2) := by decide +kernel
theorem dX10_areLike_27 : decode cX10_areLike 27 = .ok (.iaload, 1) := by decide +kernel
theorem dX10_areLike_28 : decode cX10_areLike 28 = .ok (.if_icmp .ne 7, 3) := by decide +kernel
theorem dX10_areLike_31 : decode cX10_areLike 31 = .ok (.iconst 1, 1) := by decide +kernel
theorem dX10_areLike_32 : decode cX10_areLike 32 = .ok (.goto 4, 3) := by decide +kernel
theorem dX10_areLike_35 : decode cX10_areLike 35 = .ok (.iconst 0, 1) := by decide +kernel
theorem dX10_areLike_36 : decode cX10_areLike 36 = .ok (.ireturn, 1) := by decide +kernel
theorem dX10_cycles_0 : decode cX10_cycles 0 = .ok (.aload_n 0, 1) := by decide +kernel
theorem dX10_cycles_1 : decode cX10_cycles 1 = .ok (.aload_n 0, 1) := by decide +kernel
theorem dX10_cycles_2 : decode cX10_cycles 2 = .ok (.getfield 58, 3) := by decide +kernel
theorem dX10_cycles_5 : decode cX10_cycles 5 = .ok (.iload_n 1, 1) := by decide +kernel
theorem dX10_cycles_6 : decode cX10_cycles 6 = .ok (.iconst 0, 1) := by decide +kernel
theorem dX10_cycles_7 : decode cX10_cycles 7 = .ok (.invokevirtual 280, 3) := by decide +kernel
theorem dX10_cycles_10 : decode cX10_cycles 10 = .ok (.iconst 0, 1) := by decide +kernel
theorem dX10_cycles_11 : decode cX10_cycles 11 = .ok (.istore_n 3, 1) := by decide +kernel
theorem dX10_cycles_12 : decode cX10_cycles 12 = .ok (.iconst 0, 1) := by decide +kernel
theorem dX10_cycles_13 : decode cX10_cycles 13 = .ok (.istore 4, 2) := by decide +kernel
theorem dX10_cycles_15 : decode cX10_cycles 15 = .ok (.iload 4, 2) := by decide +kernel
theorem dX10_cycles_17 : decode cX10_cycles 17 = .ok (.sipush 3000, 3) := by decide +kernel
theorem dX10_cycles_20 : decode cX10_cycles 20 = .ok (.if_icmp .ge 22, 3) := by decide +kernel
theorem dX10_cycles_23 : decode cX10_cycles 23 = .ok (.iload_n 3, 1) := by decide +kernel
theorem dX10_cycles_24 : decode cX10_cycles 24 = .ok (.aload_n 0, 1) := by decide +kernel
theorem dX10_cycles_25 : decode cX10_cycles 25 = .ok (.aload_n 0, 1) := by decide +kernel
theorem dX10_cycles_26 : decode cX10_cycles 26 = .ok (.getfield 58, 3) := by decide +kernel
theorem dX10_cycles_29 : decode cX10_cycles 29 = .ok (.iload_n 2, 1) := by decide +kernel
theorem dX10_cycles_30 : decode cX10_cycles 30 = .ok (.iconst 0, 1) := by decide +kernel
theorem dX10_cycles_31 : decode cX10_cycles 31 = .ok (.invokevirtual 287, 3) := by decide +kernel
theorem dX10_cycles_34 : decode cX10_cycles 34 = .ok (.iadd, 1) := by decide +kernel
theorem dX10_cycles_35 : decode cX10_cycles 35 = .ok (.istore_n 3, 1) := by decide +kernel
theorem dX10_cycles_36 : decode cX10_cycles 36 = .ok (.iinc 4 1, 3) := by decide +kernel
theorem dX10_cycles_39 : decode cX10_cycles 39 = .ok (.goto (-24), 3) := by decide +kernel
theorem dX10_cycles_42 : decode cX10_cycles 42 = .ok (.iconst 0, 1) := by decide +kernel
theorem dX10_cycles_43 : decode cX10_cycles 43 = .ok (.istore 4, 2) := by decide +kernel
theorem dX10_cycles_45 : decode cX10_cycles 45 = .ok (.iload 4, 2) := by decide +kernel
theorem dX10_cycles_47 : decode cX10_cycles 47 = .ok (.bipush 11, 2) := by decide +kernel
theorem dX10_cycles_49 : decode cX10_cycles 49 = .ok (.if_icmp .ge 23, 3) := by decide +kernel
theorem dX10_cycles_52 : decode cX10_cycles 52 = .ok (.aload_n 0, 1) := by decide +kernel
theorem dX10_cycles_53 : decode cX10_cycles 53 = .ok (.getfield 61, 3) := by decide +kernel
theorem dX10_cycles_56 : decode cX10_cycles 56 = .ok (.iload 4, 2) := by decide +kernel
theorem dX10_cycles_58 : decode cX10_cycles 58 = .ok (.aload_n 0, 1) := by decide +kernel
theorem dX10_cycles_59 : decode cX10_cycles 59 = .ok (.getfield 58, 3) := by decide +kernel
theorem dX10_cycles_62 : decode cX10_cycles 62 = .ok (.iload 4, 2) := by decide +kernel
theorem dX10_cycles_64 : decode cX10_cycles 64 = .ok (.iaload, 1) := by decide +kernel
theorem dX10_cycles_65 : decode cX10_cycles 65 = .ok (.iastore, 1) := by decide +kernel
theorem dX10_cycles_66 : decode cX10_cycles 66 = .ok (.iinc 4 1, 3) := by decide +kernel
theorem dX10_cycles_69 : decode cX10_cycles 69 = .ok (.goto (-24), 3) := by decide +kernel
theorem dX10_cycles_72 : decode cX10_cycles 72 = .ok (.aload_n 0, 1) := by decide +kernel
theorem dX10_cycles_73 : decode cX10_cycles 73 = .ok (.iconst 0, 1) := by decide +kernel
theorem dX10_cycles_74 : decode cX10_cycles 74 = .ok (.putfield 318, 3) := by decide +kernel
theorem dX10_cycles_77 : decode cX10_cycles 77 = .ok (.iconst 0, 1) := by decide +kernel
theorem dX10_cycles_78 : decode cX10_cycles 78 = .ok (.istore 4, 2) := by decide +kernel
theorem dX10_cycles_80 : decode cX10_cycles 80 = .ok (.iload 4, 2) := by decide +kernel
theorem dX10_cycles_82 : decode cX10_cycles 82 = .ok (.ifCond .ne 53, 3) := by decide +kernel
theorem dX10_cycles_85 : decode cX10_cycles 85 = .ok (.aload_n 0, 1) := by decide +kernel
theorem dX10_cycles_86 : decode cX10_cycles 86 = .ok (.getfield 318, 3) := by decide +kernel
theorem dX10_cycles_89 : decode cX10_cycles 89 = .ok (.sipush 3000, 3) := by decide +kernel
theorem dX10_cycles_92 : decode cX10_cycles 92 = .ok (.if_icmp .ge 43, 3) := by decide +kernel
theorem dX10_cycles_95 : decode cX10_cycles 95 = .ok (.iload_n 3, 1) := by decide +kernel
theorem dX10_cycles_96 : decode cX10_cycles 96 = .ok (.aload_n 0, 1) := by decide +kernel
theorem dX10_cycles_97 : decode cX10_cycles 97 = .ok (.aload_n 0, 1) := by decide +kernel
theorem dX10_cycles_98 : decode cX10_cycles 98 = .ok (.getfield 61, 3) := by decide +kernel
theorem dX10_cycles_101 : decode cX10_cycles 101 = .ok (.iload_n 2, 1) := by decide +kernel
theorem dX10_cycles_102 : decode cX10_cycles 102 = .ok (.iconst 0, 1) := by decide +kernel
theorem dX10_cycles_103 : decode cX10_cycles 103 = .ok (.invokevirtual 287, 3) := by decide +kernel
theorem dX10_cycles_106 : decode cX10_cycles 106 = .ok (.iadd, 1) := by decide +kernel
theorem dX10_cycles_107 : decode cX10_cycles 107 = .ok (.istore_n 3, 1) := by decide +kernel
theorem dX10_cycles_108 : decode cX10_cycles 108 = .ok (.aload_n 0, 1) := by decide +kernel
theorem dX10_cycles_109 : decode cX10_cycles 109 = .ok (.dup, 1) := by decide +kernel
theorem dX10_cycles_110 : decode cX10_cycles 110 = .ok (.getfield 318, 3) := by decide +kernel
theorem dX10_cycles_113 : decode cX10_cycles 113 = .ok (.iconst 1, 1) := by decide +kernel
theorem dX10_cycles_114 : decode cX10_cycles 114 = .ok (.iadd, 1) := by decide +kernel
theorem dX10_cycles_115 : decode cX10_cycles 115 = .ok (.putfield 318, 3) := by decide +kernel
theorem dX10_cycles_118 : decode cX10_cycles 118 = .ok (.aload_n 0, 1) := by decide +kernel
theorem dX10_cycles_119 : decode cX10_cycles 119 = .ok (.aload_n 0, 1) := by decide +kernel
theorem dX10_cycles_120 : decode cX10_cycles 120 = .ok (.getfield 58, 3) := by decide +kernel
theorem dX10_cycles_123 : decode cX10_cycles 123 = .ok (.aload_n 0, 1) := by decide +kernel
theorem dX10_cycles_124 : decode cX10_cycles 124 = .ok (.getfield 61, 3) := by decide +kernel
theorem dX10_cycles_127 : decode cX10_cycles 127 = .ok (.invokevirtual 321, 3) := by decide +kernel
theorem dX10_cycles_130 : decode cX10_cycles 130 = .ok (.istore 4, 2) := by decide +kernel
theorem dX10_cycles_132 : decode cX10_cycles 132 = .ok (.goto (-52), 3) := by decide +kernel
theorem dX10_cycles_135 : decode cX10_cycles 135 = .ok (.iload 4, 2) := by decide +kernel
theorem dX10_cycles_137 : decode cX10_cycles 137 = .ok (.ifCond .ne 5, 3) := by decide +kernel
theorem dX10_cycles_140 : decode cX10_cycles 140 = .ok (.iconst 0, 1) := by decide +kernel
theorem dX10_cycles_141 : decode cX10_cycles 141 = .ok (.ireturn, 1) := by decide +kernel
theorem dX10_cycles_142 : decode cX10_cycles 142 = .ok (.aload_n 0, 1) := by decide +kernel
theorem dX10_cycles_143 : decode cX10_cycles 143 = .ok (.aload_n 0, 1) := by decide +kernel
theorem dX10_cycles_144 : decode cX10_cycles 144 = .ok (.getfield 58, 3) := by decide +kernel
theorem dX10_cycles_147 : decode cX10_cycles 147 = .ok (.iload_n 1, 1) := by decide +kernel
theorem dX10_cycles_148 : decode cX10_cycles 148 = .ok (.iconst 0, 1) := by decide +kernel
theorem dX10_cycles_149 : decode cX10_cycles 149 = .ok (.invokevirtual 280, 3) := by decide +kernel
theorem dX10_cycles_152 : decode cX10_cycles 152 = .ok (.aload_n 0, 1) := by decide +kernel
theorem dX10_cycles_153 : decode cX10_cycles 153 = .ok (.aload_n 0, 1) := by decide +kernel
theorem dX10_cycles_154 : decode cX10_cycles 154 = .ok (.getfield 61, 3) := by decide +kernel
theorem dX10_cycles_157 : decode cX10_cycles 157 = .ok (.iload_n 1, 1) := by decide +kernel
theorem dX10_cycles_158 : decode cX10_cycles 158 = .ok (.iconst 0, 1) := by decide +kernel
theorem dX10_cycles_159 : decode cX10_cycles 159 = .ok (.invokevirtual 280, 3) := by decide +kernel
theorem dX10_cycles_162 : decode cX10_cycles 162 = .ok (.iconst 0, 1) := by decide +kernel
theorem dX10_cycles_163 : decode cX10_cycles 163 = .ok (.istore 5, 2) := by decide +kernel
theorem dX10_cycles_165 : decode cX10_cycles 165 = .ok (.iload 5, 2) := by decide +kernel
theorem dX10_cycles_167 : decode cX10_cycles 167 = .ok (.aload_n 0, 1) := by decide +kernel
theorem dX10_cycles_168 : decode cX10_cycles 168 = .ok (.getfield 318, 3) := by decide +kernel
theorem dX10_cycles_171 : decode cX10_cycles 171 = .ok (.if_icmp .ge 22, 3) := by decide +kernel
theorem dX10_cycles_174 : decode cX10_cycles 174 = .ok (.iload_n 3, 1) := by decide +kernel
theorem dX10_cycles_175 : decode cX10_cycles 175 = .ok (.aload_n 0, 1) := by decide +kernel
theorem dX10_cycles_176 : decode cX10_cycles 176 = .ok (.aload_n 0, 1) := by decide +kernel
theorem dX10_cycles_177 : decode cX10_cycles 177 = .ok (.getfield 61, 3) := by decide +kernel
theorem dX10_cycles_180 : decode cX10_cycles 180 = .ok (.iload_n 2, 1) := by decide +kernel
theorem dX10_cycles_181 : decode cX10_cycles 181 = .ok (.iconst 0, 1) := by decide +kernel
theorem dX10_cycles_182 : decode cX10_cycles 182 = .ok (.invokevirtual 287, 3) := by decide +kernel
theorem dX10_cycles_185 : decode cX10_cycles 185 = .ok (.iadd, 1) := by decide +kernel
theorem dX10_cycles_186 : decode cX10_cycles 186 = .ok (.istore_n 3, 1) := by decide +kernel
theorem dX10_cycles_187 : decode cX10_cycles 187 = .ok (.iinc 5 1, 3) := by decide +kernel
theorem dX10_cycles_190 : decode cX10_cycles 190 = .ok (.goto (-25), 3) := by decide +kernel
theorem dX10_cycles_193 : decode cX10_cycles 193 = .ok (.aload_n 0, 1) := by decide +kernel
theorem dX10_cycles_194 : decode cX10_cycles 194 = .ok (.iconst 0, 1) := by decide +kernel
theorem dX10_cycles_195 : decode cX10_cycles 195 = .ok (.putfield 325, 3) := by decide +kernel
theorem dX10_cycles_198 : decode cX10_cycles 198 = .ok (.aload_n 0, 1) := by decide +kernel
theorem dX10_cycles_199 : decode cX10_cycles 199 = .ok (.aload_n 0, 1) := by decide +kernel
theorem dX10_cycles_200 : decode cX10_cycles 200 = .ok (.getfield 58, 3) := by decide +kernel
theorem dX10_cycles_203 : decode cX10_cycles 203 = .ok (.aload_n 0, 1) := by decide +kernel
theorem dX10_cycles_204 : decode cX10_cycles 204 = .ok (.getfield 61, 3) := by decide +kernel
theorem dX10_cycles_207 : decode cX10_cycles 207 = .ok (.invokevirtual 321, 3) := by decide +kernel
theorem dX10_cycles_210 : decode cX10_cycles 210 = .ok (.ifCond .ne 40, 3) := by decide +kernel
theorem dX10_cycles_213 : decode cX10_cycles 213 = .ok (.iload_n 3, 1) := by decide +kernel
theorem dX10_cycles_214 : decode cX10_cycles 214 = .ok (.aload_n 0, 1) := by decide +kernel
theorem dX10_cycles_215 : decode cX10_cycles 215 = .ok (.aload_n 0, 1) := by decide +kernel
theorem dX10_cycles_216 : decode cX10_cycles 216 = .ok (.getfield 58, 3) := by decide +kernel
theorem dX10_cycles_219 : decode cX10_cycles 219 = .ok (.iload_n 2, 1) := by decide +kernel
theorem dX10_cycles_220 : decode cX10_cycles 220 = .ok (.iconst 0, 1) := by decide +kernel
theorem dX10_cycles_221 : decode cX10_cycles 221 = .ok (.invokevirtual 287, 3) := by decide +kernel
theorem dX10_cycles_224 : decode cX10_cycles 224 = .ok (.aload_n 0, 1) := by decide +kernel
theorem dX10_cycles_225 : decode cX10_cycles 225 = .ok (.aload_n 0, 1) := by decide +kernel
theorem dX10_cycles_226 : decode cX10_cycles 226 = .ok (.getfield 61, 3) := by decide +kernel
theorem dX10_cycles_229 : decode cX10_cycles 229 = .ok (.iload_n 2, 1) := by decide +kernel
theorem dX10_cycles_230 : decode cX10_cycles 230 = .ok (.iconst 0, 1) := by decide +kernel
theorem dX10_cycles_231 : decode cX10_cycles 231 = .ok (.invokevirtual 287, 3) := by decide +kernel
theorem dX10_cycles_234 : decode cX10_cycles 234 = .ok (.iadd, 1) := by decide +kernel
theorem dX10_cycles_235 : decode cX10_cycles 235 = .ok (.iadd, 1) := by decide +kernel
theorem dX10_cycles_236 : decode cX10_cycles 236 = .ok (.istore_n 3, 1) := by decide +kernel
theorem dX10_cycles_237 : decode cX10_cycles 237 = .ok (.aload_n 0, 1) := by decide +kernel
theorem dX10_cycles_238 : decode cX10_cycles 238 = .ok (.dup, 1) := by decide +kernel
theorem dX10_cycles_239 : decode cX10_cycles 239 = .ok (.getfield 325, 3) := by decide +kernel
theorem dX10_cycles_242 : decode cX10_cycles 242 = .ok (.iconst 1, 1) := by decide +kernel
theorem dX10_cycles_243 : decode cX10_cycles 243 = .ok (.iadd, 1) := by decide +kernel
theorem dX10_cycles_244 : decode cX10_cycles 244 = .ok (.putfield 325, 3) := by decide +kernel
theorem dX10_cycles_247 : decode cX10_cycles 247 = .ok (.goto (-49), 3) := by decide +kernel
theorem dX10_cycles_250 : decode cX10_cycles 250 = .ok (.iconst 1, 1) := by decide +kernel
theorem dX10_cycles_251 : decode cX10_cycles 251 = .ok (.ireturn, 1) := by decide +kernel
theorem dX10_cycleOf_0 : decode cX10_cycleOf 0 = .ok (.aload_n 0, 1) := by decide +kernel
theorem dX10_cycleOf_1 : decode cX10_cycleOf 1 = .ok (.aload_n 0, 1) := by decide +kernel
theorem dX10_cycleOf_2 : decode cX10_cycleOf 2 = .ok (.getfield 58, 3) := by decide +kernel
theorem dX10_cycleOf_5 : decode cX10_cycleOf 5 = .ok (.iload_n 1, 1) := by decide +kernel
theorem dX10_cycleOf_6 : decode cX10_cycleOf 6 = .ok (.iconst 0, 1) := by decide +kernel
theorem dX10_cycleOf_7 : decode cX10_cycleOf 7 = .ok (.invokevirtual 280, 3) := by decide +kernel
theorem dX10_cycleOf_10 : decode cX10_cycleOf 10 = .ok (.iconst 0, 1) := by decide +kernel
theorem dX10_cycleOf_11 : decode cX10_cycleOf 11 = .ok (.istore 4, 2) := by decide +kernel
theorem dX10_cycleOf_13 : decode cX10_cycleOf 13 = .ok (.iconst 0, 1) := by decide +kernel
theorem dX10_cycleOf_14 : decode cX10_cycleOf 14 = .ok (.istore 5, 2) := by decide +kernel
theorem dX10_cycleOf_16 : decode cX10_cycleOf 16 = .ok (.iload 5, 2) := by decide +kernel
theorem dX10_cycleOf_18 : decode cX10_cycleOf 18 = .ok (.aload_n 0, 1) := by decide +kernel
theorem dX10_cycleOf_19 : decode cX10_cycleOf 19 = .ok (.getfield 325, 3) := by decide +kernel
theorem dX10_cycleOf_22 : decode cX10_cycleOf 22 = .ok (.if_icmp .ge 21, 3) := by decide +kernel
theorem dX10_cycleOf_25 : decode cX10_cycleOf 25 = .ok (.aload_n 0, 1) := by decide +kernel
theorem dX10_cycleOf_26 : decode cX10_cycleOf 26 = .ok (.aload_n 0, 1) := by decide +kernel
theorem dX10_cycleOf_27 : decode cX10_cycleOf 27 = .ok (.getfield 58, 3) := by decide +kernel
theorem dX10_cycleOf_30 : decode cX10_cycleOf 30 = .ok (.iload_n 2, 1) := by decide +kernel
theorem dX10_cycleOf_31 : decode cX10_cycleOf 31 = .ok (.iconst 0, 1) := by decide +kernel
theorem dX10_cycleOf_32 : decode cX10_cycleOf 32 = .ok (.invokevirtual 287, 3) := by decide +kernel
theorem dX10_cycleOf_35 : decode cX10_cycleOf 35 = .ok (.istore 4, 2) := by decide +kernel
theorem dX10_cycleOf_37 : decode cX10_cycleOf 37 = .ok (.iinc 5 1, 3) := by decide +kernel
theorem dX10_cycleOf_40 : decode cX10_cycleOf 40 = .ok (.goto (-24), 3) := by decide +kernel
theorem dX10_cycleOf_43 : decode cX10_cycleOf 43 = .ok (.aload_n 0, 1) := by decide +kernel
theorem dX10_cycleOf_44 : decode cX10_cycleOf 44 = .ok (.getfield 58, 3) := by decide +kernel
theorem dX10_cycleOf_47 : decode cX10_cycleOf 47 = .ok (.iconst 4, 1) := by decide +kernel
theorem dX10_cycleOf_48 : decode cX10_cycleOf 48 = .ok (.iconst 0, 1) := by decide +kernel
theorem dX10_cycleOf_49 : decode cX10_cycleOf 49 = .ok (.iastore, 1) := by decide +kernel
theorem dX10_cycleOf_50 : decode cX10_cycleOf 50 = .ok (.iconst 0, 1) := by decide +kernel
theorem dX10_cycleOf_51 : decode cX10_cycleOf 51 = .ok (.istore 5, 2) := by decide +kernel
theorem dX10_cycleOf_53 : decode cX10_cycleOf 53 = .ok (.iconst 0, 1) := by decide +kernel
theorem dX10_cycleOf_54 : decode cX10_cycleOf 54 = .ok (.istore 6, 2) := by decide +kernel
theorem dX10_cycleOf_56 : decode cX10_cycleOf 56 = .ok (.iconst 0, 1) := by decide +kernel
theorem dX10_cycleOf_57 : decode cX10_cycleOf 57 = .ok (.istore 7, 2) := by decide +kernel
theorem dX10_cycleOf_59 : decode cX10_cycleOf 59 = .ok (.iconst 0, 1) := by decide +kernel
theorem dX10_cycleOf_60 : decode cX10_cycleOf 60 = .ok (.istore 8, 2) := by decide +kernel
theorem dX10_cycleOf_62 : decode cX10_cycleOf 62 = .ok (.iconst 0, 1) := by decide +kernel
theorem dX10_cycleOf_63 : decode cX10_cycleOf 63 = .ok (.istore 9, 2) := by decide +kernel
theorem dX10_cycleOf_65 : decode cX10_cycleOf 65 = .ok (.iconst 0, 1) := by decide +kernel
theorem dX10_cycleOf_66 : decode cX10_cycleOf 66 = .ok (.istore 10, 2) := by decide +kernel
theorem dX10_cycleOf_68 : decode cX10_cycleOf 68 = .ok (.iload 10, 2) := by decide +kernel
theorem dX10_cycleOf_70 : decode cX10_cycleOf 70 = .ok (.aload_n 0, 1) := by decide +kernel
theorem dX10_cycleOf_71 : decode cX10_cycleOf 71 = .ok (.getfield 318, 3) := by decide +kernel
theorem dX10_cycleOf_74 : decode cX10_cycleOf 74 = .ok (.if_icmp .ge 97, 3) := by decide +kernel
theorem dX10_cycleOf_77 : decode cX10_cycleOf 77 = .ok (.aload_n 0, 1) := by decide +kernel
theorem dX10_cycleOf_78 : decode cX10_cycleOf 78 = .ok (.getfield 58, 3) := by decide +kernel
theorem dX10_cycleOf_81 : decode cX10_cycleOf 81 = .ok (.iconst 5, 1) := by decide +kernel
theorem dX10_cycleOf_82 : decode cX10_cycleOf 82 = .ok (.aload_n 0, 1) := by decide +kernel
theorem dX10_cycleOf_83 : decode cX10_cycleOf 83 = .ok (.getfield 24, 3) := by decide +kernel
theorem dX10_cycleOf_86 : decode cX10_cycleOf 86 = .ok (.iload_n 1, 1) := by decide +kernel
theorem dX10_cycleOf_87 : decode cX10_cycleOf 87 = .ok (.iaload, 1) := by decide +kernel
theorem dX10_cycleOf_88 : decode cX10_cycleOf 88 = .ok (.iadd, 1) := by decide +kernel
theorem dX10_cycleOf_89 : decode cX10_cycleOf 89 = .ok (.iconst 1, 1) := by decide +kernel
theorem dX10_cycleOf_90 : decode cX10_cycleOf 90 = .ok (.isub, 1) := by decide +kernel
theorem dX10_cycleOf_91 : decode cX10_cycleOf 91 = .ok (.iaload, 1) := by decide +kernel
theorem dX10_cycleOf_92 : decode cX10_cycleOf 92 = .ok (.invokestatic 273, 3) := by decide +kernel
theorem dX10_cycleOf_95 : decode cX10_cycleOf 95 = .ok (.istore 11, 2) := by decide +kernel
theorem dX10_cycleOf_97 : decode cX10_cycleOf 97 = .ok (.iload 11, 2) := by decide +kernel
theorem dX10_cycleOf_99 : decode cX10_cycleOf 99 = .ok (.iload 6, 2) := by decide +kernel
theorem dX10_cycleOf_101 : decode cX10_cycleOf 101 = .ok (.if_icmp .le 8, 3) := by decide +kernel
theorem dX10_cycleOf_104 : decode cX10_cycleOf 104 = .ok (.iload 11, 2) := by decide +kernel
theorem dX10_cycleOf_106 : decode cX10_cycleOf 106 = .ok (.goto 5, 3) := by decide +kernel
theorem dX10_cycleOf_109 : decode cX10_cycleOf 109 = .ok (.iload 6, 2) := by decide +kernel
theorem dX10_cycleOf_111 : decode cX10_cycleOf 111 = .ok (.istore 6, 2) := by decide +kernel
theorem dX10_cycleOf_113 : decode cX10_cycleOf 113 = .ok (.aload_n 0, 1) := by decide +kernel
theorem dX10_cycleOf_114 : decode cX10_cycleOf 114 = .ok (.aload_n 0, 1) := by decide +kernel
theorem dX10_cycleOf_115 : decode cX10_cycleOf 115 = .ok (.getfield 58, 3) := by decide +kernel
theorem dX10_cycleOf_118 : decode cX10_cycleOf 118 = .ok (.iload_n 2, 1) := by decide +kernel
theorem dX10_cycleOf_119 : decode cX10_cycleOf 119 = .ok (.iconst 0, 1) := by decide +kernel
theorem dX10_cycleOf_120 : decode cX10_cycleOf 120 = .ok (.invokevirtual 287, 3) := by decide +kernel
theorem dX10_cycleOf_123 : decode cX10_cycleOf 123 = .ok (.istore 4, 2) := by decide +kernel
theorem dX10_cycleOf_125 : decode cX10_cycleOf 125 = .ok (.iload 5, 2) := by decide +kernel
theorem dX10_cycleOf_127 : decode cX10_cycleOf 127 = .ok (.iload 4, 2) := by decide +kernel
theorem dX10_cycleOf_129 : decode cX10_cycleOf 129 = .ok (.iadd, 1) := by decide +kernel
theorem dX10_cycleOf_130 : decode cX10_cycleOf 130 = .ok (.istore 5, 2) := by decide +kernel
theorem dX10_cycleOf_132 : decode cX10_cycleOf 132 = .ok (.iload 10, 2) := by decide +kernel
theorem dX10_cycleOf_134 : decode cX10_cycleOf 134 = .ok (.ifCond .ne 10, 3) := by decide +kernel
theorem dX10_cycleOf_137 : decode cX10_cycleOf 137 = .ok (.iload 4, 2) := by decide +kernel
theorem dX10_cycleOf_139 : decode cX10_cycleOf 139 = .ok (.istore 8, 2) := by decide +kernel
theorem dX10_cycleOf_141 : decode cX10_cycleOf 141 = .ok (.goto 20, 3) := by decide +kernel
theorem dX10_cycleOf_144 : decode cX10_cycleOf 144 = .ok (.iload 7, 2) := by decide +kernel
theorem dX10_cycleOf_146 : decode cX10_cycleOf 146 = .ok (.iload 4, 2) := by decide +kernel
theorem dX10_cycleOf_148 : decode cX10_cycleOf 148 = .ok (.iload 9, 2) := by decide +kernel
theorem dX10_cycleOf_150 : decode cX10_cycleOf 150 = .ok (.if_icmp .ne 7, 3) := by decide +kernel
theorem dX10_cycleOf_153 : decode cX10_cycleOf 153 = .ok (.iconst 0, 1) := by decide +kernel
theorem dX10_cycleOf_154 : decode cX10_cycleOf 154 = .ok (.goto 4, 3) := by decide +kernel
theorem dX10_cycleOf_157 : decode cX10_cycleOf 157 = .ok (.iconst 1, 1) := by decide +kernel
theorem dX10_cycleOf_158 : decode cX10_cycleOf 158 = .ok (.iadd, 1) := by decide +kernel
theorem dX10_cycleOf_159 : decode cX10_cycleOf 159 = .ok (.istore 7, 2) := by decide +kernel
theorem dX10_cycleOf_161 : decode cX10_cycleOf 161 = .ok (.iload 4, 2) := by decide +kernel
theorem dX10_cycleOf_163 : decode cX10_cycleOf 163 = .ok (.istore 9, 2) := by decide +kernel
theorem dX10_cycleOf_165 : decode cX10_cycleOf 165 = .ok (.iinc 10 1, 3) := by decide +kernel
theorem dX10_cycleOf_168 : decode cX10_cycleOf 168 = .ok (.goto (-100), 3) := by decide +kernel
theorem dX10_cycleOf_171 : decode cX10_cycleOf 171 = .ok (.iload 7, 2) := by decide +kernel
theorem dX10_cycleOf_173 : decode cX10_cycleOf 173 = .ok (.iload 8, 2) := by decide +kernel
theorem dX10_cycleOf_175 : decode cX10_cycleOf 175 = .ok (.iload 9, 2) := by decide +kernel
theorem dX10_cycleOf_177 : decode cX10_cycleOf 177 = .ok (.if_icmp .ne 7, 3) := by decide +kernel
theorem dX10_cycleOf_180 : decode cX10_cycleOf 180 = .ok (.iconst 0, 1) := by decide +kernel
theorem dX10_cycleOf_181 : decode cX10_cycleOf 181 = .ok (.goto 4, 3) := by decide +kernel
theorem dX10_cycleOf_184 : decode cX10_cycleOf 184 = .ok (.iconst 1, 1) := by decide +kernel
theorem dX10_cycleOf_185 : decode cX10_cycleOf 185 = .ok (.iadd, 1) := by decide +kernel
theorem dX10_cycleOf_186 : decode cX10_cycleOf 186 = .ok (.istore 7, 2) := by decide +kernel
theorem dX10_cycleOf_188 : decode cX10_cycleOf 188 = .ok (.iload_n 3, 1) := by decide +kernel
theorem dX10_cycleOf_189 : decode cX10_cycleOf 189 = .ok (.tableswitch 40 2 4 #[27, 30, 37], 27) := by decide +kernel
theorem dX10_cycleOf_216 : decode cX10_cycleOf 216 = .ok (.iload 5, 2) := by decide +kernel
theorem dX10_cycleOf_218 : decode cX10_cycleOf 218 = .ok (.ireturn, 1) := by decide +kernel
theorem dX10_cycleOf_219 : decode cX10_cycleOf 219 = .ok (.aload_n 0, 1) := by decide +kernel
theorem dX10_cycleOf_220 : decode cX10_cycleOf 220 = .ok (.getfield 58, 3) := by decide +kernel
theorem dX10_cycleOf_223 : decode cX10_cycleOf 223 = .ok (.iconst 4, 1) := by decide +kernel
theorem dX10_cycleOf_224 : decode cX10_cycleOf 224 = .ok (.iaload, 1) := by decide +kernel
theorem dX10_cycleOf_225 : decode cX10_cycleOf 225 = .ok (.ireturn, 1) := by decide +kernel
theorem dX10_cycleOf_226 : decode cX10_cycleOf 226 = .ok (.iload 6, 2) := by decide +kernel
theorem dX10_cycleOf_228 : decode cX10_cycleOf 228 = .ok (.ireturn, 1) := by decide +kernel
theorem dX10_cycleOf_229 : decode cX10_cycleOf 229 = .ok (.iload 7, 2) := by decide +kernel
theorem dX10_cycleOf_231 : decode cX10_cycleOf 231 = .ok (.ireturn, 1) := by decide +kernel
theorem dX10_cycle_0 : decode cX10_cycle 0 = .ok (.aload_n 0, 1) := by decide +kernel
theorem dX10_cycle_1 : decode cX10_cycle 1 = .ok (.iconst 0, 1) := by decide +kernel
theorem dX10_cycle_2 : decode cX10_cycle 2 = .ok (.putfield 89, 3) := by decide +kernel
theorem dX10_cycle_5 : decode cX10_cycle 5 = .ok (.aload_n 0, 1) := by decide +kernel
theorem dX10_cycle_6 : decode cX10_cycle 6 = .ok (.iload_n 1, 1) := by decide +kernel
theorem dX10_cycle_7 : decode cX10_cycle 7 = .ok (.invokevirtual 251, 3) := by decide +kernel
theorem dX10_cycle_10 : decode cX10_cycle 10 = .ok (.ifCond .eq 12, 3) := by decide +kernel
theorem dX10_cycle_13 : decode cX10_cycle 13 = .ok (.iload_n 3, 1) := by decide +kernel
theorem dX10_cycle_14 : decode cX10_cycle 14 = .ok (.iconst 0, 1) := by decide +kernel
theorem dX10_cycle_15 : decode cX10_cycle 15 = .ok (.iconst 5, 1) := by decide +kernel
theorem dX10_cycle_16 : decode cX10_cycle 16 = .ok (.invokestatic 111, 3) := by decide +kernel
theorem dX10_cycle_19 : decode cX10_cycle 19 = .ok (.ifCond .ne 9, 3) := by decide +kernel
theorem dX10_cycle_22 : decode cX10_cycle 22 = .ok (.aload_n 0, 1) := by decide +kernel
theorem dX10_cycle_23 : decode cX10_cycle 23 = .ok (.iconst 1, 1) := by decide +kernel
theorem dX10_cycle_24 : decode cX10_cycle 24 = .ok (.invokevirtual 266, 3) := by decide +kernel
theorem dX10_cycle_27 : decode cX10_cycle 27 = .ok (.ireturn, 1) := by decide +kernel
theorem dX10_cycle_28 : decode cX10_cycle 28 = .ok (.iload_n 2, 1) := by decide +kernel
theorem dX10_cycle_29 : decode cX10_cycle 29 = .ok (.sipush (-1000), 3) := by decide +kernel
theorem dX10_cycle_32 : decode cX10_cycle 32 = .ok (.sipush 1000, 3) := by decide +kernel
theorem dX10_cycle_35 : decode cX10_cycle 35 = .ok (.invokestatic 111, 3) := by decide +kernel
theorem dX10_cycle_38 : decode cX10_cycle 38 = .ok (.ifCond .ne 9, 3) := by decide +kernel
theorem dX10_cycle_41 : decode cX10_cycle 41 = .ok (.aload_n 0, 1) := by decide +kernel
theorem dX10_cycle_42 : decode cX10_cycle 42 = .ok (.iconst 2, 1) := by decide +kernel
theorem dX10_cycle_43 : decode cX10_cycle 43 = .ok (.invokevirtual 266, 3) := by decide +kernel
theorem dX10_cycle_46 : decode cX10_cycle 46 = .ok (.ireturn, 1) := by decide +kernel
theorem dX10_cycle_47 : decode cX10_cycle 47 = .ok (.aload_n 0, 1) := by decide +kernel
theorem dX10_cycle_48 : decode cX10_cycle 48 = .ok (.iload_n 1, 1) := by decide +kernel
theorem dX10_cycle_49 : decode cX10_cycle 49 = .ok (.iload_n 2, 1) := by decide +kernel
theorem dX10_cycle_50 : decode cX10_cycle 50 = .ok (.invokevirtual 328, 3) := by decide +kernel
theorem dX10_cycle_53 : decode cX10_cycle 53 = .ok (.ifCond .ne 9, 3) := by decide +kernel
theorem dX10_cycle_56 : decode cX10_cycle 56 = .ok (.aload_n 0, 1) := by decide +kernel
theorem dX10_cycle_57 : decode cX10_cycle 57 = .ok (.iconst 5, 1) := by decide +kernel
theorem dX10_cycle_58 : decode cX10_cycle 58 = .ok (.invokevirtual 266, 3) := by decide +kernel
theorem dX10_cycle_61 : decode cX10_cycle 61 = .ok (.ireturn, 1) := by decide +kernel
theorem dX10_cycle_62 : decode cX10_cycle 62 = .ok (.aload_n 0, 1) := by decide +kernel
theorem dX10_cycle_63 : decode cX10_cycle 63 = .ok (.iload_n 3, 1) := by decide +kernel
theorem dX10_cycle_64 : decode cX10_cycle 64 = .ok (.ifCond .ne 10, 3) := by decide +kernel
theorem dX10_cycle_67 : decode cX10_cycle 67 = .ok (.aload_n 0, 1) := by decide +kernel
theorem dX10_cycle_68 : decode cX10_cycle 68 = .ok (.getfield 325, 3) := by decide +kernel
theorem dX10_cycle_71 : decode cX10_cycle 71 = .ok (.goto 22, 3) := by decide +kernel
theorem dX10_cycle_74 : decode cX10_cycle 74 = .ok (.iload_n 3, 1) := by decide +kernel
theorem dX10_cycle_75 : decode cX10_cycle 75 = .ok (.iconst 1, 1) := by decide +kernel
theorem dX10_cycle_76 : decode cX10_cycle 76 = .ok (.if_icmp .ne 10, 3) := by decide +kernel
theorem dX10_cycle_79 : decode cX10_cycle 79 = .ok (.aload_n 0, 1) := by decide +kernel
theorem dX10_cycle_80 : decode cX10_cycle 80 = .ok (.getfield 318, 3) := by decide +kernel
theorem dX10_cycle_83 : decode cX10_cycle 83 = .ok (.goto 10, 3) := by decide +kernel
theorem dX10_cycle_86 : decode cX10_cycle 86 = .ok (.aload_n 0, 1) := by decide +kernel
theorem dX10_cycle_87 : decode cX10_cycle 87 = .ok (.iload_n 1, 1) := by decide +kernel
theorem dX10_cycle_88 : decode cX10_cycle 88 = .ok (.iload_n 2, 1) := by decide +kernel
theorem dX10_cycle_89 : decode cX10_cycle 89 = .ok (.iload_n 3, 1) := by decide +kernel
theorem dX10_cycle_90 : decode cX10_cycle 90 = .ok (.invokevirtual 331, 3) := by decide +kernel
theorem dX10_cycle_93 : decode cX10_cycle 93 = .ok (.invokevirtual 241, 3) := by decide +kernel
theorem dX10_cycle_96 : decode cX10_cycle 96 = .ok (.ireturn, 1) := by decide +kernel
theorem dX10_fed_0 : decode cX10_fed 0 = .ok (.aload_n 0, 1) := by decide +kernel
theorem dX10_fed_1 : decode cX10_fed 1 = .ok (.iconst 0, 1) := by decide +kernel
theorem dX10_fed_2 : decode cX10_fed 2 = .ok (.putfield 89, 3) := by decide +kernel
theorem dX10_fed_5 : decode cX10_fed 5 = .ok (.aload_n 0, 1) := by decide +kernel
theorem dX10_fed_6 : decode cX10_fed 6 = .ok (.iload_n 1, 1) := by decide +kernel
theorem dX10_fed_7 : decode cX10_fed 7 = .ok (.invokevirtual 251, 3) := by decide +kernel
theorem dX10_fed_10 : decode cX10_fed 10 = .ok (.ifCond .eq 19, 3) := by decide +kernel
theorem dX10_fed_13 : decode cX10_fed 13 = .ok (.iload_n 2, 1) := by decide +kernel
theorem dX10_fed_14 : decode cX10_fed 14 = .ok (.iconst 0, 1) := by decide +kernel
theorem dX10_fed_15 : decode cX10_fed 15 = .ok (.aload_n 0, 1) := by decide +kernel
theorem dX10_fed_16 : decode cX10_fed 16 = .ok (.getfield 24, 3) := by decide +kernel
theorem dX10_fed_19 : decode cX10_fed 19 = .ok (.iload_n 1, 1) := by decide +kernel
theorem dX10_fed_20 : decode cX10_fed 20 = .ok (.iaload, 1) := by decide +kernel
theorem dX10_fed_21 : decode cX10_fed 21 = .ok (.iconst 1, 1) := by decide +kernel
theorem dX10_fed_22 : decode cX10_fed 22 = .ok (.isub, 1) := by decide +kernel
theorem dX10_fed_23 : decode cX10_fed 23 = .ok (.invokestatic 111, 3) := by decide +kernel
theorem dX10_fed_26 : decode cX10_fed 26 = .ok (.ifCond .ne 9, 3) := by decide +kernel
theorem dX10_fed_29 : decode cX10_fed 29 = .ok (.aload_n 0, 1) := by decide +kernel
theorem dX10_fed_30 : decode cX10_fed 30 = .ok (.iconst 1, 1) := by decide +kernel
theorem dX10_fed_31 : decode cX10_fed 31 = .ok (.invokevirtual 266, 3) := by decide +kernel
theorem dX10_fed_34 : decode cX10_fed 34 = .ok (.ireturn, 1) := by decide +kernel
theorem dX10_fed_35 : decode cX10_fed 35 = .ok (.iload_n 3, 1) := by decide +kernel
theorem dX10_fed_36 : decode cX10_fed 36 = .ok (.sipush (-1000), 3) := by decide +kernel
theorem dX10_fed_39 : decode cX10_fed 39 = .ok (.sipush 1000, 3) := by decide +kernel
theorem dX10_fed_42 : decode cX10_fed 42 = .ok (.invokestatic 111, 3) := by decide +kernel
theorem dX10_fed_45 : decode cX10_fed 45 = .ok (.ifCond .eq 15, 3) := by decide +kernel
theorem dX10_fed_48 : decode cX10_fed 48 = .ok (.iload 4, 2) := by decide +kernel
theorem dX10_fed_50 : decode cX10_fed 50 = .ok (.iconst 0, 1) := by decide +kernel
theorem dX10_fed_51 : decode cX10_fed 51 = .ok (.sipush 3000, 3) := by decide +kernel
theorem dX10_fed_54 : decode cX10_fed 54 = .ok (.invokestatic 111, 3) := by decide +kernel
theorem dX10_fed_57 : decode cX10_fed 57 = .ok (.ifCond .ne 9, 3) := by decide +kernel
theorem dX10_fed_60 : decode cX10_fed 60 = .ok (.aload_n 0, 1) := by decide +kernel
theorem dX10_fed_61 : decode cX10_fed 61 = .ok (.iconst 2, 1) := by decide +kernel
theorem dX10_fed_62 : decode cX10_fed 62 = .ok (.invokevirtual 266, 3) := by decide +kernel
theorem dX10_fed_65 : decode cX10_fed 65 = .ok (.ireturn, 1) := by decide +kernel
theorem dX10_fed_66 : decode cX10_fed 66 = .ok (.aload_n 0, 1) := by decide +kernel
theorem dX10_fed_67 : decode cX10_fed 67 = .ok (.aload_n 0, 1) := by decide +kernel
theorem dX10_fed_68 : decode cX10_fed 68 = .ok (.getfield 58, 3) := by decide +kernel
theorem dX10_fed_71 : decode cX10_fed 71 = .ok (.iload_n 1, 1) := by decide +kernel
theorem dX10_fed_72 : decode cX10_fed 72 = .ok (.iconst 0, 1) := by decide +kernel
theorem dX10_fed_73 : decode cX10_fed 73 = .ok (.invokevirtual 280, 3) := by decide +kernel
theorem dX10_fed_76 : decode cX10_fed 76 = .ok (.iconst 0, 1) := by decide +kernel
theorem dX10_fed_77 : decode cX10_fed 77 = .ok (.istore 5, 2) := by decide +kernel
theorem dX10_fed_79 : decode cX10_fed 79 = .ok (.iconst 0, 1) := by decide +kernel
theorem dX10_fed_80 : decode cX10_fed 80 = .ok (.istore 6, 2) := by decide +kernel
theorem dX10_fed_82 : decode cX10_fed 82 = .ok (.iload 6, 2) := by decide +kernel
theorem dX10_fed_84 : decode cX10_fed 84 = .ok (.iload 4, 2) := by decide +kernel
theorem dX10_fed_86 : decode cX10_fed 86 = .ok (.if_icmp .ge 24, 3) := by decide +kernel
theorem dX10_fed_89 : decode cX10_fed 89 = .ok (.iload 5, 2) := by decide +kernel
theorem dX10_fed_91 : decode cX10_fed 91 = .ok (.aload_n 0, 1) := by decide +kernel
theorem dX10_fed_92 : decode cX10_fed 92 = .ok (.aload_n 0, 1) := by decide +kernel
theorem dX10_fed_93 : decode cX10_fed 93 = .ok (.getfield 58, 3) := by decide +kernel
theorem dX10_fed_96 : decode cX10_fed 96 = .ok (.iload_n 3, 1) := by decide +kernel
theorem dX10_fed_97 : decode cX10_fed 97 = .ok (.iconst 0, 1) := by decide +kernel
theorem dX10_fed_98 : decode cX10_fed 98 = .ok (.invokevirtual 287, 3) := by decide +kernel
theorem dX10_fed_101 : decode cX10_fed 101 = .ok (.iadd, 1) := by decide +kernel
theorem dX10_fed_102 : decode cX10_fed 102 = .ok (.istore 5, 2) := by decide +kernel
theorem dX10_fed_104 : decode cX10_fed 104 = .ok (.iinc 6 1, 3) := by decide +kernel
theorem dX10_fed_107 : decode cX10_fed 107 = .ok (.goto (-25), 3) := by decide +kernel
theorem dX10_fed_110 : decode cX10_fed 110 = .ok (.aload_n 0, 1) := by decide +kernel
theorem dX10_fed_111 : decode cX10_fed 111 = .ok (.aload_n 0, 1) := by decide +kernel
theorem dX10_fed_112 : decode cX10_fed 112 = .ok (.getfield 58, 3) := by decide +kernel
theorem dX10_fed_115 : decode cX10_fed 115 = .ok (.iconst 5, 1) := by decide +kernel
theorem dX10_fed_116 : decode cX10_fed 116 = .ok (.iload_n 2, 1) := by decide +kernel
theorem dX10_fed_117 : decode cX10_fed 117 = .ok (.iadd, 1) := by decide +kernel
theorem dX10_fed_118 : decode cX10_fed 118 = .ok (.iaload, 1) := by decide +kernel
theorem dX10_fed_119 : decode cX10_fed 119 = .ok (.invokevirtual 241, 3) := by decide +kernel
theorem dX10_fed_122 : decode cX10_fed 122 = .ok (.ireturn, 1) := by decide +kernel
theorem dX10_sweep_0 : decode cX10_sweep 0 = .ok (.aload_n 0, 1) := by decide +kernel
theorem dX10_sweep_1 : decode cX10_sweep 1 = .ok (.iconst 0, 1) := by decide +kernel
theorem dX10_sweep_2 : decode cX10_sweep 2 = .ok (.putfield 89, 3) := by decide +kernel
theorem dX10_sweep_5 : decode cX10_sweep 5 = .ok (.aload_n 0, 1) := by decide +kernel
theorem dX10_sweep_6 : decode cX10_sweep 6 = .ok (.iload_n 1, 1) := by decide +kernel
theorem dX10_sweep_7 : decode cX10_sweep 7 = .ok (.invokevirtual 251, 3) := by decide +kernel
theorem dX10_sweep_10 : decode cX10_sweep 10 = .ok (.ifCond .eq 13, 3) := by decide +kernel
theorem dX10_sweep_13 : decode cX10_sweep 13 = .ok (.iload 5, 2) := by decide +kernel
theorem dX10_sweep_15 : decode cX10_sweep 15 = .ok (.iconst 0, 1) := by decide +kernel
theorem dX10_sweep_16 : decode cX10_sweep 16 = .ok (.iconst 2, 1) := by decide +kernel
theorem dX10_sweep_17 : decode cX10_sweep 17 = .ok (.invokestatic 111, 3) := by decide +kernel
theorem dX10_sweep_20 : decode cX10_sweep 20 = .ok (.ifCond .ne 9, 3) := by decide +kernel
theorem dX10_sweep_23 : decode cX10_sweep 23 = .ok (.aload_n 0, 1) := by decide +kernel
theorem dX10_sweep_24 : decode cX10_sweep 24 = .ok (.iconst 1, 1) := by decide +kernel
theorem dX10_sweep_25 : decode cX10_sweep 25 = .ok (.invokevirtual 266, 3) := by decide +kernel
theorem dX10_sweep_28 : decode cX10_sweep 28 = .ok (.ireturn, 1) := by decide +kernel
theorem dX10_sweep_29 : decode cX10_sweep 29 = .ok (.iload 4, 2) := by decide +kernel
theorem dX10_sweep_31 : decode cX10_sweep 31 = .ok (.iconst 1, 1) := by decide +kernel
theorem dX10_sweep_32 : decode cX10_sweep 32 = .ok (.bipush 50, 2) := by decide +kernel
theorem dX10_sweep_34 : decode cX10_sweep 34 = .ok (.invokestatic 111, 3) := by decide +kernel
theorem dX10_sweep_37 : decode cX10_sweep 37 = .ok (.ifCond .eq 16, 3) := by decide +kernel
theorem dX10_sweep_40 : decode cX10_sweep 40 = .ok (.iload_n 2, 1) := by decide +kernel
theorem dX10_sweep_41 : decode cX10_sweep 41 = .ok (.sipush (-1000), 3) := by decide +kernel
theorem dX10_sweep_44 : decode cX10_sweep 44 = .ok (.sipush 1000, 3) := by decide +kernel
theorem dX10_sweep_47 : decode cX10_sweep 47 = .ok (.invokestatic 111, 3) := by decide +kernel
theorem dX10_sweep_50 : decode cX10_sweep 50 = .ok (.ifCond .ne 9, 3) := by decide +kernel
theorem dX10_sweep_53 : decode cX10_sweep 53 = .ok (.aload_n 0, 1) := by decide +kernel
theorem dX10_sweep_54 : decode cX10_sweep 54 = .ok (.iconst 2, 1) := by decide +kernel
theorem dX10_sweep_55 : decode cX10_sweep 55 = .ok (.invokevirtual 266, 3) := by decide +kernel
theorem dX10_sweep_58 : decode cX10_sweep 58 = .ok (.ireturn, 1) := by decide +kernel
theorem dX10_sweep_59 : decode cX10_sweep 59 = .ok (.iload_n 2, 1) := by decide +kernel
theorem dX10_sweep_60 : decode cX10_sweep 60 = .ok (.i2l, 1) := by decide +kernel
theorem dX10_sweep_61 : decode cX10_sweep 61 = .ok (.iload 4, 2) := by decide +kernel
theorem dX10_sweep_63 : decode cX10_sweep 63 = .ok (.i2l, 1) := by decide +kernel
theorem dX10_sweep_64 : decode cX10_sweep 64 = .ok (.lconst 1, 1) := by decide +kernel
theorem dX10_sweep_65 : decode cX10_sweep 65 = .ok (.lsub, 1) := by decide +kernel
theorem dX10_sweep_66 : decode cX10_sweep 66 = .ok (.iload_n 3, 1) := by decide +kernel
theorem dX10_sweep_67 : decode cX10_sweep 67 = .ok (.i2l, 1) := by decide +kernel
theorem dX10_sweep_68 : decode cX10_sweep 68 = .ok (.lmul, 1) := by decide +kernel
theorem dX10_sweep_69 : decode cX10_sweep 69 = .ok (.ladd, 1) := by decide +kernel
theorem dX10_sweep_70 : decode cX10_sweep 70 = .ok (.lstore 6, 2) := by decide +kernel
theorem dX10_sweep_72 : decode cX10_sweep 72 = .ok (.lload 6, 2) := by decide +kernel
theorem dX10_sweep_74 : decode cX10_sweep 74 = .ok (.ldc2_w 334, 3) := by decide +kernel
theorem dX10_sweep_77 : decode cX10_sweep 77 = .ok (.lcmp, 1) := by decide +kernel
theorem dX10_sweep_78 : decode cX10_sweep 78 = .ok (.ifCond .lt 12, 3) := by decide +kernel
theorem dX10_sweep_81 : decode cX10_sweep 81 = .ok (.lload 6, 2) := by decide +kernel
theorem dX10_sweep_83 : decode cX10_sweep 83 = .ok (.ldc2_w 336, 3) := by decide +kernel
theorem dX10_sweep_86 : decode cX10_sweep 86 = .ok (.lcmp, 1) := by decide +kernel
theorem dX10_sweep_87 : decode cX10_sweep 87 = .ok (.ifCond .le 9, 3) := by decide +kernel
theorem dX10_sweep_90 : decode cX10_sweep 90 = .ok (.aload_n 0, 1) := by decide +kernel
theorem dX10_sweep_91 : decode cX10_sweep 91 = .ok (.iconst 2, 1) := by decide +kernel
theorem dX10_sweep_92 : decode cX10_sweep 92 = .ok (.invokevirtual 266, 3) := by decide +kernel
theorem dX10_sweep_95 : decode cX10_sweep 95 = .ok (.ireturn, 1) := by decide +kernel
theorem dX10_sweep_96 : decode cX10_sweep 96 = .ok (.iconst 0, 1) := by decide +kernel
theorem dX10_sweep_97 : decode cX10_sweep 97 = .ok (.istore 8, 2) := by decide +kernel
theorem dX10_sweep_99 : decode cX10_sweep 99 = .ok (.ldc 95, 2) := by decide +kernel
theorem dX10_sweep_101 : decode cX10_sweep 101 = .ok (.istore 9, 2) := by decide +kernel
theorem dX10_sweep_103 : decode cX10_sweep 103 = .ok (.iconst 0, 1) := by decide +kernel
theorem dX10_sweep_104 : decode cX10_sweep 104 = .ok (.istore 10, 2) := by decide +kernel
theorem dX10_sweep_106 : decode cX10_sweep 106 = .ok (.iconst 0, 1) := by decide +kernel
theorem dX10_sweep_107 : decode cX10_sweep 107 = .ok (.istore 11, 2) := by decide +kernel
theorem dX10_sweep_109 : decode cX10_sweep 109 = .ok (.iload 11, 2) := by decide +kernel
theorem dX10_sweep_111 : decode cX10_sweep 111 = .ok (.iload 4, 2) := by decide +kernel
theorem dX10_sweep_113 : decode cX10_sweep 113 = .ok (.if_icmp .ge 75, 3) := by decide +kernel
theorem dX10_sweep_116 : decode cX10_sweep 116 = .ok (.iload_n 2, 1) := by decide +kernel
theorem dX10_sweep_117 : decode cX10_sweep 117 = .ok (.iload 11, 2) := by decide +kernel
theorem dX10_sweep_119 : decode cX10_sweep 119 = .ok (.iload_n 3, 1) := by decide +kernel
theorem dX10_sweep_120 : decode cX10_sweep 120 = .ok (.imul, 1) := by decide +kernel
theorem dX10_sweep_121 : decode cX10_sweep 121 = .ok (.iadd, 1) := by decide +kernel
theorem dX10_sweep_122 : decode cX10_sweep 122 = .ok (.istore 12, 2) := by decide +kernel
theorem dX10_sweep_124 : decode cX10_sweep 124 = .ok (.aload_n 0, 1) := by decide +kernel
theorem dX10_sweep_125 : decode cX10_sweep 125 = .ok (.iload_n 1, 1) := by decide +kernel
theorem dX10_sweep_126 : decode cX10_sweep 126 = .ok (.iload 12, 2) := by decide +kernel
theorem dX10_sweep_128 : decode cX10_sweep 128 = .ok (.invokevirtual 328, 3) := by decide +kernel
theorem dX10_sweep_131 : decode cX10_sweep 131 = .ok (.ifCond .ne 6, 3) := by decide +kernel
theorem dX10_sweep_134 : decode cX10_sweep 134 = .ok (.goto 48, 3) := by decide +kernel
theorem dX10_sweep_137 : decode cX10_sweep 137 = .ok (.aload_n 0, 1) := by decide +kernel
theorem dX10_sweep_138 : decode cX10_sweep 138 = .ok (.getfield 318, 3) := by decide +kernel
theorem dX10_sweep_141 : decode cX10_sweep 141 = .ok (.iload 10, 2) := by decide +kernel
theorem dX10_sweep_143 : decode cX10_sweep 143 = .ok (.if_icmp .le 13, 3) := by decide +kernel
theorem dX10_sweep_146 : decode cX10_sweep 146 = .ok (.aload_n 0, 1) := by decide +kernel
theorem dX10_sweep_147 : decode cX10_sweep 147 = .ok (.getfield 318, 3) := by decide +kernel
theorem dX10_sweep_150 : decode cX10_sweep 150 = .ok (.istore 10, 2) := by decide +kernel
theorem dX10_sweep_152 : decode cX10_sweep 152 = .ok (.iload 12, 2) := by decide +kernel
theorem dX10_sweep_154 : decode cX10_sweep 154 = .ok (.istore 9, 2) := by decide +kernel
theorem dX10_sweep_156 : decode cX10_sweep 156 = .ok (.iload 8, 2) := by decide +kernel
theorem dX10_sweep_158 : decode cX10_sweep 158 = .ok (.iload 5, 2) := by decide +kernel
theorem dX10_sweep_160 : decode cX10_sweep 160 = .ok (.ifCond .eq 14, 3) := by decide +kernel
theorem dX10_sweep_163 : decode cX10_sweep 163 = .ok (.aload_n 0, 1) := by decide +kernel
theorem dX10_sweep_164 : decode cX10_sweep 164 = .ok (.iload_n 1, 1) := by decide +kernel
theorem dX10_sweep_165 : decode cX10_sweep 165 = .ok (.iload 12, 2) := by decide +kernel
theorem dX10_sweep_167 : decode cX10_sweep 167 = .ok (.iconst 3, 1) := by decide +kernel
theorem dX10_sweep_168 : decode cX10_sweep 168 = .ok (.invokevirtual 331, 3) := by decide +kernel
theorem dX10_sweep_171 : decode cX10_sweep 171 = .ok (.ifCond .ne 7, 3) := by decide +kernel
theorem dX10_sweep_174 : decode cX10_sweep 174 = .ok (.iconst 1, 1) := by decide +kernel
theorem dX10_sweep_175 : decode cX10_sweep 175 = .ok (.goto 4, 3) := by decide +kernel
theorem dX10_sweep_178 : decode cX10_sweep 178 = .ok (.iconst 0, 1) := by decide +kernel
theorem dX10_sweep_179 : decode cX10_sweep 179 = .ok (.iadd, 1) := by decide +kernel
theorem dX10_sweep_180 : decode cX10_sweep 180 = .ok (.istore 8, 2) := by decide +kernel
theorem dX10_sweep_182 : decode cX10_sweep 182 = .ok (.iinc 11 1, 3) := by decide +kernel
theorem dX10_sweep_185 : decode cX10_sweep 185 = .ok (.goto (-76), 3) := by decide +kernel
theorem dX10_sweep_188 : decode cX10_sweep 188 = .ok (.aload_n 0, 1) := by decide +kernel
theorem dX10_sweep_189 : decode cX10_sweep 189 = .ok (.iload 5, 2) := by decide +kernel
theorem dX10_sweep_191 : decode cX10_sweep 191 = .ok (.iconst 2, 1) := by decide +kernel
theorem dX10_sweep_192 : decode cX10_sweep 192 = .ok (.if_icmp .ne 8, 3) := by decide +kernel
theorem dX10_sweep_195 : decode cX10_sweep 195 = .ok (.iload 9, 2) := by decide +kernel
theorem dX10_sweep_197 : decode cX10_sweep 197 = .ok (.goto 5, 3) := by decide +kernel
theorem dX10_sweep_200 : decode cX10_sweep 200 = .ok (.iload 8, 2) := by decide +kernel
theorem dX10_sweep_202 : decode cX10_sweep 202 = .ok (.invokevirtual 241, 3) := by decide +kernel
theorem dX10_sweep_205 : decode cX10_sweep 205 = .ok (.ireturn, 1) := by decide +kernel
theorem dX10_isSteadyAt_0 : decode cX10_isSteadyAt 0 = .ok (.aload_n 0, 1) := by decide +kernel
theorem dX10_isSteadyAt_1 : decode cX10_isSteadyAt 1 = .ok (.aload_n 0, 1) := by decide +kernel
theorem dX10_isSteadyAt_2 : decode cX10_isSteadyAt 2 = .ok (.getfield 58, 3) := by decide +kernel
theorem dX10_isSteadyAt_5 : decode cX10_isSteadyAt 5 = .ok (.iload_n 1, 1) := by decide +kernel
theorem dX10_isSteadyAt_6 : decode cX10_isSteadyAt 6 = .ok (.iconst 0, 1) := by decide +kernel
theorem dX10_isSteadyAt_7 : decode cX10_isSteadyAt 7 = .ok (.invokevirtual 280, 3) := by decide +kernel
theorem dX10_isSteadyAt_10 : decode cX10_isSteadyAt 10 = .ok (.iconst 0, 1) := by decide +kernel
theorem dX10_isSteadyAt_11 : decode cX10_isSteadyAt 11 = .ok (.istore_n 3, 1) := by decide +kernel
theorem dX10_isSteadyAt_12 : decode cX10_isSteadyAt 12 = .ok (.iconst 0, 1) := by decide +kernel
theorem dX10_isSteadyAt_13 : decode cX10_isSteadyAt 13 = .ok (.istore 4, 2) := by decide +kernel
theorem dX10_isSteadyAt_15 : decode cX10_isSteadyAt 15 = .ok (.iload 4, 2) := by decide +kernel
theorem dX10_isSteadyAt_17 : decode cX10_isSteadyAt 17 = .ok (.sipush 1000, 3) := by decide +kernel
theorem dX10_isSteadyAt_20 : decode cX10_isSteadyAt 20 = .ok (.if_icmp .ge 22, 3) := by decide +kernel
theorem dX10_isSteadyAt_23 : decode cX10_isSteadyAt 23 = .ok (.iload_n 3, 1) := by decide +kernel
theorem dX10_isSteadyAt_24 : decode cX10_isSteadyAt 24 = .ok (.aload_n 0, 1) := by decide +kernel
theorem dX10_isSteadyAt_25 : decode cX10_isSteadyAt 25 = .ok (.aload_n 0, 1) := by decide +kernel
theorem dX10_isSteadyAt_26 : decode cX10_isSteadyAt 26 = .ok (.getfield 58, 3) := by decide +kernel
theorem dX10_isSteadyAt_29 : decode cX10_isSteadyAt 29 = .ok (.iload_n 2, 1) := by decide +kernel
theorem dX10_isSteadyAt_30 : decode cX10_isSteadyAt 30 = .ok (.iconst 0, 1) := by decide +kernel
theorem dX10_isSteadyAt_31 : decode cX10_isSteadyAt 31 = .ok (.invokevirtual 287, 3) := by decide +kernel
theorem dX10_isSteadyAt_34 : decode cX10_isSteadyAt 34 = .ok (.iadd, 1) := by decide +kernel
theorem dX10_isSteadyAt_35 : decode cX10_isSteadyAt 35 = .ok (.istore_n 3, 1) := by decide +kernel
theorem dX10_isSteadyAt_36 : decode cX10_isSteadyAt 36 = .ok (.iinc 4 1, 3) := by decide +kernel
theorem dX10_isSteadyAt_39 : decode cX10_isSteadyAt 39 = .ok (.goto (-24), 3) := by decide +kernel
theorem dX10_isSteadyAt_42 : decode cX10_isSteadyAt 42 = .ok (.aload_n 0, 1) := by decide +kernel
theorem dX10_isSteadyAt_43 : decode cX10_isSteadyAt 43 = .ok (.getfield 58, 3) := by decide +kernel
theorem dX10_isSteadyAt_46 : decode cX10_isSteadyAt 46 = .ok (.iconst 4, 1) := by decide +kernel
theorem dX10_isSteadyAt_47 : decode cX10_isSteadyAt 47 = .ok (.iaload, 1) := by decide +kernel
theorem dX10_isSteadyAt_48 : decode cX10_isSteadyAt 48 = .ok (.ifCond .ne 7, 3) := by decide +kernel
theorem dX10_isSteadyAt_51 : decode cX10_isSteadyAt 51 = .ok (.iconst 1, 1) := by decide +kernel
theorem dX10_isSteadyAt_52 : decode cX10_isSteadyAt 52 = .ok (.goto 4, 3) := by decide +kernel
theorem dX10_isSteadyAt_55 : decode cX10_isSteadyAt 55 = .ok (.iconst 0, 1) := by decide +kernel
theorem dX10_isSteadyAt_56 : decode cX10_isSteadyAt 56 = .ok (.ireturn, 1) := by decide +kernel
theorem dX10_steady_0 : decode cX10_steady 0 = .ok (.aload_n 0, 1) := by decide +kernel
theorem dX10_steady_1 : decode cX10_steady 1 = .ok (.iconst 0, 1) := by decide +kernel
theorem dX10_steady_2 : decode cX10_steady 2 = .ok (.putfield 89, 3) := by decide +kernel
theorem dX10_steady_5 : decode cX10_steady 5 = .ok (.aload_n 0, 1) := by decide +kernel
theorem dX10_steady_6 : decode cX10_steady 6 = .ok (.iload_n 1, 1) := by decide +kernel
theorem dX10_steady_7 : decode cX10_steady 7 = .ok (.invokevirtual 251, 3) := by decide +kernel
theorem dX10_steady_10 : decode cX10_steady 10 = .ok (.ifCond .ne 9, 3) := by decide +kernel
theorem dX10_steady_13 : decode cX10_steady 13 = .ok (.aload_n 0, 1) := by decide +kernel
theorem dX10_steady_14 : decode cX10_steady 14 = .ok (.iconst 1, 1) := by decide +kernel
theorem dX10_steady_15 : decode cX10_steady 15 = .ok (.invokevirtual 228, 3) := by decide +kernel
theorem dX10_steady_18 : decode cX10_steady 18 = .ok (.ireturn, 1) := by decide +kernel
theorem dX10_steady_19 : decode cX10_steady 19 = .ok (.iconst 0, 1) := by decide +kernel
theorem dX10_steady_20 : decode cX10_steady 20 = .ok (.istore_n 2, 1) := by decide +kernel
theorem dX10_steady_21 : decode cX10_steady 21 = .ok (.iload_n 2, 1) := by decide +kernel
theorem dX10_steady_22 : decode cX10_steady 22 = .ok (.sipush 1000, 3) := by decide +kernel
theorem dX10_steady_25 : decode cX10_steady 25 = .ok (.if_icmp .gt 18, 3) := by decide +kernel
theorem dX10_steady_28 : decode cX10_steady 28 = .ok (.aload_n 0, 1) := by decide +kernel
theorem dX10_steady_29 : decode cX10_steady 29 = .ok (.iload_n 1, 1) := by decide +kernel
theorem dX10_steady_30 : decode cX10_steady 30 = .ok (.iload_n 2, 1) := by decide +kernel
theorem dX10_steady_31 : decode cX10_steady 31 = .ok (.invokevirtual 338, 3) := by decide +kernel
theorem dX10_steady_34 : decode cX10_steady 34 = .ok (.ifCond .eq 9, 3) := by decide +kernel
theorem dX10_steady_37 : decode cX10_steady 37 = .ok (.iinc 2 50, 3) := by decide +kernel
theorem dX10_steady_40 : decode cX10_steady 40 = .ok (.goto (-19), 3) := by decide +kernel
theorem dX10_steady_43 : decode cX10_steady 43 = .ok (.aload_n 0, 1) := by decide +kernel
theorem dX10_steady_44 : decode cX10_steady 44 = .ok (.iload_n 2, 1) := by decide +kernel
theorem dX10_steady_45 : decode cX10_steady 45 = .ok (.ifCond .ne 8, 3) := by decide +kernel
theorem dX10_steady_48 : decode cX10_steady 48 = .ok (.bipush (-2), 2) := by decide +kernel
theorem dX10_steady_50 : decode cX10_steady 50 = .ok (.goto 7, 3) := by decide +kernel
theorem dX10_steady_53 : decode cX10_steady 53 = .ok (.iload_n 2, 1) := by decide +kernel
theorem dX10_steady_54 : decode cX10_steady 54 = .ok (.bipush 50, 2) := by decide +kernel
theorem dX10_steady_56 : decode cX10_steady 56 = .ok (.isub, 1) := by decide +kernel
theorem dX10_steady_57 : decode cX10_steady 57 = .ok (.invokevirtual 241, 3) := by decide +kernel
theorem dX10_steady_60 : decode cX10_steady 60 = .ok (.ireturn, 1) := by decide +kernel
theorem dX10_apart_0 : decode cX10_apart 0 = .ok (.aload_n 0, 1) := by decide +kernel
theorem dX10_apart_1 : decode cX10_apart 1 = .ok (.iconst 0, 1) := by decide +kernel
theorem dX10_apart_2 : decode cX10_apart 2 = .ok (.putfield 89, 3) := by decide +kernel
theorem dX10_apart_5 : decode cX10_apart 5 = .ok (.aload_n 0, 1) := by decide +kernel
theorem dX10_apart_6 : decode cX10_apart 6 = .ok (.iload_n 1, 1) := by decide +kernel
theorem dX10_apart_7 : decode cX10_apart 7 = .ok (.invokevirtual 251, 3) := by decide +kernel
theorem dX10_apart_10 : decode cX10_apart 10 = .ok (.ifCond .eq 19, 3) := by decide +kernel
theorem dX10_apart_13 : decode cX10_apart 13 = .ok (.aload_n 0, 1) := by decide +kernel
theorem dX10_apart_14 : decode cX10_apart 14 = .ok (.iload_n 2, 1) := by decide +kernel
theorem dX10_apart_15 : decode cX10_apart 15 = .ok (.invokevirtual 251, 3) := by decide +kernel
theorem dX10_apart_18 : decode cX10_apart 18 = .ok (.ifCond .eq 11, 3) := by decide +kernel
theorem dX10_apart_21 : decode cX10_apart 21 = .ok (.aload_n 0, 1) := by decide +kernel
theorem dX10_apart_22 : decode cX10_apart 22 = .ok (.iload_n 3, 1) := by decide +kernel
theorem dX10_apart_23 : decode cX10_apart 23 = .ok (.invokevirtual 263, 3) := by decide +kernel
theorem dX10_apart_26 : decode cX10_apart 26 = .ok (.ifCond .ne 9, 3) := by decide +kernel
theorem dX10_apart_29 : decode cX10_apart 29 = .ok (.aload_n 0, 1) := by decide +kernel
theorem dX10_apart_30 : decode cX10_apart 30 = .ok (.iconst 1, 1) := by decide +kernel
theorem dX10_apart_31 : decode cX10_apart 31 = .ok (.invokevirtual 228, 3) := by decide +kernel
theorem dX10_apart_34 : decode cX10_apart 34 = .ok (.ireturn, 1) := by decide +kernel
theorem dX10_apart_35 : decode cX10_apart 35 = .ok (.iload 4, 2) := by decide +kernel
theorem dX10_apart_37 : decode cX10_apart 37 = .ok (.iconst 1, 1) := by decide +kernel
theorem dX10_apart_38 : decode cX10_apart 38 = .ok (.sipush 500, 3) := by decide +kernel
theorem dX10_apart_41 : decode cX10_apart 41 = .ok (.invokestatic 111, 3) := by decide +kernel
theorem dX10_apart_44 : decode cX10_apart 44 = .ok (.ifCond .ne 9, 3) := by decide +kernel
theorem dX10_apart_47 : decode cX10_apart 47 = .ok (.aload_n 0, 1) := by decide +kernel
theorem dX10_apart_48 : decode cX10_apart 48 = .ok (.iconst 2, 1) := by decide +kernel
theorem dX10_apart_49 : decode cX10_apart 49 = .ok (.invokevirtual 228, 3) := by decide +kernel
theorem dX10_apart_52 : decode cX10_apart 52 = .ok (.ireturn, 1) := by decide +kernel
theorem dX10_apart_53 : decode cX10_apart 53 = .ok (.aload_n 0, 1) := by decide +kernel
theorem dX10_apart_54 : decode cX10_apart 54 = .ok (.aload_n 0, 1) := by decide +kernel
theorem dX10_apart_55 : decode cX10_apart 55 = .ok (.getfield 58, 3) := by decide +kernel
theorem dX10_apart_58 : decode cX10_apart 58 = .ok (.iload_n 1, 1) := by decide +kernel
theorem dX10_apart_59 : decode cX10_apart 59 = .ok (.iload_n 3, 1) := by decide +kernel
theorem dX10_apart_60 : decode cX10_apart 60 = .ok (.invokevirtual 280, 3) := by decide +kernel
theorem dX10_apart_63 : decode cX10_apart 63 = .ok (.aload_n 0, 1) := by decide +kernel
theorem dX10_apart_64 : decode cX10_apart 64 = .ok (.aload_n 0, 1) := by decide +kernel
theorem dX10_apart_65 : decode cX10_apart 65 = .ok (.getfield 61, 3) := by decide +kernel
theorem dX10_apart_68 : decode cX10_apart 68 = .ok (.iload_n 2, 1) := by decide +kernel
theorem dX10_apart_69 : decode cX10_apart 69 = .ok (.iload_n 3, 1) := by decide +kernel
theorem dX10_apart_70 : decode cX10_apart 70 = .ok (.invokevirtual 280, 3) := by decide +kernel
theorem dX10_apart_73 : decode cX10_apart 73 = .ok (.iconst 0, 1) := by decide +kernel
theorem dX10_apart_74 : decode cX10_apart 74 = .ok (.istore 5, 2) := by decide +kernel
theorem dX10_apart_76 : decode cX10_apart 76 = .ok (.iconst 0, 1) := by decide +kernel
theorem dX10_apart_77 : decode cX10_apart 77 = .ok (.istore 6, 2) := by decide +kernel
theorem dX10_apart_79 : decode cX10_apart 79 = .ok (.iload 6, 2) := by decide +kernel
theorem dX10_apart_81 : decode cX10_apart 81 = .ok (.iload 4, 2) := by decide +kernel
theorem dX10_apart_83 : decode cX10_apart 83 = .ok (.if_icmp .ge 67, 3) := by decide +kernel
theorem dX10_apart_86 : decode cX10_apart 86 = .ok (.aload_n 0, 1) := by decide +kernel
theorem dX10_apart_87 : decode cX10_apart 87 = .ok (.iload_n 3, 1) := by decide +kernel
theorem dX10_apart_88 : decode cX10_apart 88 = .ok (.iload 6, 2) := by decide +kernel
theorem dX10_apart_90 : decode cX10_apart 90 = .ok (.invokevirtual 269, 3) := by decide +kernel
theorem dX10_apart_93 : decode cX10_apart 93 = .ok (.istore 7, 2) := by decide +kernel
theorem dX10_apart_95 : decode cX10_apart 95 = .ok (.aload_n 0, 1) := by decide +kernel
theorem dX10_apart_96 : decode cX10_apart 96 = .ok (.aload_n 0, 1) := by decide +kernel
theorem dX10_apart_97 : decode cX10_apart 97 = .ok (.getfield 58, 3) := by decide +kernel
theorem dX10_apart_100 : decode cX10_apart 100 = .ok (.iload 7, 2) := by decide +kernel
theorem dX10_apart_102 : decode cX10_apart 102 = .ok (.aload_n 0, 1) := by decide +kernel
theorem dX10_apart_103 : decode cX10_apart 103 = .ok (.getfield 33, 3) := by decide +kernel
theorem dX10_apart_106 : decode cX10_apart 106 = .ok (.iload_n 1, 1) := by decide +kernel
theorem dX10_apart_107 : decode cX10_apart 107 = .ok (.iaload, 1) := by decide +kernel
theorem dX10_apart_108 : decode cX10_apart 108 = .ok (.invokevirtual 287, 3) := by decide +kernel
theorem dX10_apart_111 : decode cX10_apart 111 = .ok (.istore 8, 2) := by decide +kernel
theorem dX10_apart_113 : decode cX10_apart 113 = .ok (.iload 5, 2) := by decide +kernel
theorem dX10_apart_115 : decode cX10_apart 115 = .ok (.iload 8, 2) := by decide +kernel
theorem dX10_apart_117 : decode cX10_apart 117 = .ok (.aload_n 0, 1) := by decide +kernel
theorem dX10_apart_118 : decode cX10_apart 118 = .ok (.aload_n 0, 1) := by decide +kernel
theorem dX10_apart_119 : decode cX10_apart 119 = .ok (.getfield 61, 3) := by decide +kernel
theorem dX10_apart_122 : decode cX10_apart 122 = .ok (.iload 7, 2) := by decide +kernel
theorem dX10_apart_124 : decode cX10_apart 124 = .ok (.aload_n 0, 1) := by decide +kernel
theorem dX10_apart_125 : decode cX10_apart 125 = .ok (.getfield 33, 3) := by decide +kernel
theorem dX10_apart_128 : decode cX10_apart 128 = .ok (.iload_n 2, 1) := by decide +kernel
theorem dX10_apart_129 : decode cX10_apart 129 = .ok (.iaload, 1) := by decide +kernel
theorem dX10_apart_130 : decode cX10_apart 130 = .ok (.invokevirtual 287, 3) := by decide +kernel
theorem dX10_apart_133 : decode cX10_apart 133 = .ok (.if_icmp .ne 7, 3) := by decide +kernel
theorem dX10_apart_136 : decode cX10_apart 136 = .ok (.iconst 0, 1) := by decide +kernel
theorem dX10_apart_137 : decode cX10_apart 137 = .ok (.goto 4, 3) := by decide +kernel
theorem dX10_apart_140 : decode cX10_apart 140 = .ok (.iconst 1, 1) := by decide +kernel
theorem dX10_apart_141 : decode cX10_apart 141 = .ok (.iadd, 1) := by decide +kernel
theorem dX10_apart_142 : decode cX10_apart 142 = .ok (.istore 5, 2) := by decide +kernel
theorem dX10_apart_144 : decode cX10_apart 144 = .ok (.iinc 6 1, 3) := by decide +kernel
theorem dX10_apart_147 : decode cX10_apart 147 = .ok (.goto (-68), 3) := by decide +kernel
theorem dX10_apart_150 : decode cX10_apart 150 = .ok (.aload_n 0, 1) := by decide +kernel
theorem dX10_apart_151 : decode cX10_apart 151 = .ok (.iload 5, 2) := by decide +kernel
theorem dX10_apart_153 : decode cX10_apart 153 = .ok (.invokevirtual 241, 3) := by decide +kernel
theorem dX10_apart_156 : decode cX10_apart 156 = .ok (.ireturn, 1) := by decide +kernel
theorem dX10_keep_0 : decode cX10_keep 0 = .ok (.aload_n 0, 1) := by decide +kernel
theorem dX10_keep_1 : decode cX10_keep 1 = .ok (.iconst 0, 1) := by decide +kernel
theorem dX10_keep_2 : decode cX10_keep 2 = .ok (.putfield 89, 3) := by decide +kernel
theorem dX10_keep_5 : decode cX10_keep 5 = .ok (.aload_n 0, 1) := by decide +kernel
theorem dX10_keep_6 : decode cX10_keep 6 = .ok (.getfield 247, 3) := by decide +kernel
theorem dX10_keep_9 : decode cX10_keep 9 = .ok (.ifCond .eq 12, 3) := by decide +kernel
theorem dX10_keep_12 : decode cX10_keep 12 = .ok (.iload_n 1, 1) := by decide +kernel
theorem dX10_keep_13 : decode cX10_keep 13 = .ok (.iconst 0, 1) := by decide +kernel
theorem dX10_keep_14 : decode cX10_keep 14 = .ok (.iconst 1, 1) := by decide +kernel
theorem dX10_keep_15 : decode cX10_keep 15 = .ok (.invokestatic 111, 3) := by decide +kernel
theorem dX10_keep_18 : decode cX10_keep 18 = .ok (.ifCond .ne 9, 3) := by decide +kernel
theorem dX10_keep_21 : decode cX10_keep 21 = .ok (.aload_n 0, 1) := by decide +kernel
theorem dX10_keep_22 : decode cX10_keep 22 = .ok (.iconst 1, 1) := by decide +kernel
theorem dX10_keep_23 : decode cX10_keep 23 = .ok (.invokevirtual 277, 3) := by decide +kernel
theorem dX10_keep_26 : decode cX10_keep 26 = .ok (.ireturn, 1) := by decide +kernel
theorem dX10_keep_27 : decode cX10_keep 27 = .ok (.iconst 0, 1) := by decide +kernel
theorem dX10_keep_28 : decode cX10_keep 28 = .ok (.istore_n 2, 1) := by decide +kernel
theorem dX10_keep_29 : decode cX10_keep 29 = .ok (.iload_n 2, 1) := by decide +kernel
theorem dX10_keep_30 : decode cX10_keep 30 = .ok (.bipush 11, 2) := by decide +kernel
theorem dX10_keep_32 : decode cX10_keep 32 = .ok (.if_icmp .ge 26, 3) := by decide +kernel
theorem dX10_keep_35 : decode cX10_keep 35 = .ok (.aload_n 0, 1) := by decide +kernel
theorem dX10_keep_36 : decode cX10_keep 36 = .ok (.getfield 64, 3) := by decide +kernel
theorem dX10_keep_39 : decode cX10_keep 39 = .ok (.bipush 11, 2) := by decide +kernel
theorem dX10_keep_41 : decode cX10_keep 41 = .ok (.iload_n 1, 1) := by decide +kernel
theorem dX10_keep_42 : decode cX10_keep 42 = .ok (.imul, 1) := by decide +kernel
theorem dX10_keep_43 : decode cX10_keep 43 = .ok (.iload_n 2, 1) := by decide +kernel
theorem dX10_keep_44 : decode cX10_keep 44 = .ok (.iadd, 1) := by decide +kernel
theorem dX10_keep_45 : decode cX10_keep 45 = .ok (.aload_n 0, 1) := by decide +kernel
theorem dX10_keep_46 : decode cX10_keep 46 = .ok (.getfield 55, 3) := by decide +kernel
theorem dX10_keep_49 : decode cX10_keep 49 = .ok (.iload_n 2, 1) := by decide +kernel
theorem dX10_keep_50 : decode cX10_keep 50 = .ok (.iaload, 1) := by decide +kernel
theorem dX10_keep_51 : decode cX10_keep 51 = .ok (.iastore, 1) := by decide +kernel
theorem dX10_keep_52 : decode cX10_keep 52 = .ok (.iinc 2 1, 3) := by decide +kernel
theorem dX10_keep_55 : decode cX10_keep 55 = .ok (.goto (-26), 3) := by decide +kernel
theorem dX10_keep_58 : decode cX10_keep 58 = .ok (.iconst 0, 1) := by decide +kernel
theorem dX10_keep_59 : decode cX10_keep 59 = .ok (.istore_n 2, 1) := by decide +kernel
theorem dX10_keep_60 : decode cX10_keep 60 = .ok (.iload_n 2, 1) := by decide +kernel
theorem dX10_keep_61 : decode cX10_keep 61 = .ok (.sipush 4096, 3) := by decide +kernel
theorem dX10_keep_64 : decode cX10_keep 64 = .ok (.if_icmp .ge 27, 3) := by decide +kernel
theorem dX10_keep_67 : decode cX10_keep 67 = .ok (.aload_n 0, 1) := by decide +kernel
theorem dX10_keep_68 : decode cX10_keep 68 = .ok (.getfield 71, 3) := by decide +kernel
theorem dX10_keep_71 : decode cX10_keep 71 = .ok (.sipush 4096, 3) := by decide +kernel
theorem dX10_keep_74 : decode cX10_keep 74 = .ok (.iload_n 1, 1) := by decide +kernel
theorem dX10_keep_75 : decode cX10_keep 75 = .ok (.imul, 1) := by decide +kernel
theorem dX10_keep_76 : decode cX10_keep 76 = .ok (.iload_n 2, 1) := by decide +kernel
theorem dX10_keep_77 : decode cX10_keep 77 = .ok (.iadd, 1) := by decide +kernel
theorem dX10_keep_78 : decode cX10_keep 78 = .ok (.aload_n 0, 1) := by decide +kernel
theorem dX10_keep_79 : decode cX10_keep 79 = .ok (.getfield 67, 3) := by decide +kernel
theorem dX10_keep_82 : decode cX10_keep 82 = .ok (.iload_n 2, 1) := by decide +kernel
theorem dX10_keep_83 : decode cX10_keep 83 = .ok (.baload, 1) := by decide +kernel
theorem dX10_keep_84 : decode cX10_keep 84 = .ok (.bastore, 1) := by decide +kernel
theorem dX10_keep_85 : decode cX10_keep 85 = .ok (.iinc 2 1, 3) := by decide +kernel
theorem dX10_keep_88 : decode cX10_keep 88 = .ok (.goto (-28), 3) := by decide +kernel
theorem dX10_keep_91 : decode cX10_keep 91 = .ok (.aload_n 0, 1) := by decide +kernel
theorem dX10_keep_92 : decode cX10_keep 92 = .ok (.getfield 77, 3) := by decide +kernel
theorem dX10_keep_95 : decode cX10_keep 95 = .ok (.iload_n 1, 1) := by decide +kernel
theorem dX10_keep_96 : decode cX10_keep 96 = .ok (.aload_n 0, 1) := by decide +kernel
theorem dX10_keep_97 : decode cX10_keep 97 = .ok (.getfield 80, 3) := by decide +kernel
theorem dX10_keep_100 : decode cX10_keep 100 = .ok (.iastore, 1) := by decide +kernel
theorem dX10_keep_101 : decode cX10_keep 101 = .ok (.aload_n 0, 1) := by decide +kernel
theorem dX10_keep_102 : decode cX10_keep 102 = .ok (.getfield 74, 3) := by decide +kernel
theorem dX10_keep_105 : decode cX10_keep 105 = .ok (.iload_n 1, 1) := by decide +kernel
theorem dX10_keep_106 : decode cX10_keep 106 = .ok (.iconst 1, 1) := by decide +kernel
theorem dX10_keep_107 : decode cX10_keep 107 = .ok (.bastore, 1) := by decide +kernel
theorem dX10_keep_108 : decode cX10_keep 108 = .ok (.aload_n 0, 1) := by decide +kernel
theorem dX10_keep_109 : decode cX10_keep 109 = .ok (.iconst 0, 1) := by decide +kernel
theorem dX10_keep_110 : decode cX10_keep 110 = .ok (.invokevirtual 277, 3) := by decide +kernel
theorem dX10_keep_113 : decode cX10_keep 113 = .ok (.ireturn, 1) := by decide +kernel
theorem dX10_back_0 : decode cX10_back 0 = .ok (.aload_n 0, 1) := by decide +kernel
theorem dX10_back_1 : decode cX10_back 1 = .ok (.iconst 0, 1) := by decide +kernel
theorem dX10_back_2 : decode cX10_back 2 = .ok (.putfield 89, 3) := by decide +kernel
theorem dX10_back_5 : decode cX10_back 5 = .ok (.aload_n 0, 1) := by decide +kernel
theorem dX10_back_6 : decode cX10_back 6 = .ok (.getfield 247, 3) := by decide +kernel
theorem dX10_back_9 : decode cX10_back 9 = .ok (.ifCond .eq 21, 3) := by decide +kernel
theorem dX10_back_12 : decode cX10_back 12 = .ok (.iload_n 1, 1) := by decide +kernel
theorem dX10_back_13 : decode cX10_back 13 = .ok (.iconst 0, 1) := by decide +kernel
theorem dX10_back_14 : decode cX10_back 14 = .ok (.iconst 1, 1) := by decide +kernel
theorem dX10_back_15 : decode cX10_back 15 = .ok (.invokestatic 111, 3) := by decide +kernel
theorem dX10_back_18 : decode cX10_back 18 = .ok (.ifCond .eq 12, 3) := by decide +kernel
theorem dX10_back_21 : decode cX10_back 21 = .ok (.aload_n 0, 1) := by decide +kernel
theorem dX10_back_22 : decode cX10_back 22 = .ok (.getfield 74, 3) := by decide +kernel
theorem dX10_back_25 : decode cX10_back 25 = .ok (.iload_n 1, 1) := by decide +kernel
theorem dX10_back_26 : decode cX10_back 26 = .ok (.baload, 1) := by decide +kernel
theorem dX10_back_27 : decode cX10_back 27 = .ok (.ifCond .ne 9, 3) := by decide +kernel
theorem dX10_back_30 : decode cX10_back 30 = .ok (.aload_n 0, 1) := by decide +kernel
theorem dX10_back_31 : decode cX10_back 31 = .ok (.iconst 1, 1) := by decide +kernel
theorem dX10_back_32 : decode cX10_back 32 = .ok (.invokevirtual 277, 3) := by decide +kernel
theorem dX10_back_35 : decode cX10_back 35 = .ok (.ireturn, 1) := by decide +kernel
theorem dX10_back_36 : decode cX10_back 36 = .ok (.iconst 0, 1) := by decide +kernel
theorem dX10_back_37 : decode cX10_back 37 = .ok (.istore_n 2, 1) := by decide +kernel
theorem dX10_back_38 : decode cX10_back 38 = .ok (.iload_n 2, 1) := by decide +kernel
theorem dX10_back_39 : decode cX10_back 39 = .ok (.bipush 11, 2) := by decide +kernel
theorem dX10_back_41 : decode cX10_back 41 = .ok (.if_icmp .ge 26, 3) := by decide +kernel
theorem dX10_back_44 : decode cX10_back 44 = .ok (.aload_n 0, 1) := by decide +kernel
theorem dX10_back_45 : decode cX10_back 45 = .ok (.getfield 55, 3) := by decide +kernel
theorem dX10_back_48 : decode cX10_back 48 = .ok (.iload_n 2, 1) := by decide +kernel
theorem dX10_back_49 : decode cX10_back 49 = .ok (.aload_n 0, 1) := by decide +kernel
theorem dX10_back_50 : decode cX10_back 50 = .ok (.getfield 64, 3) := by decide +kernel
theorem dX10_back_53 : decode cX10_back 53 = .ok (.bipush 11, 2) := by decide +kernel
theorem dX10_back_55 : decode cX10_back 55 = .ok (.iload_n 1, 1) := by decide +kernel
theorem dX10_back_56 : decode cX10_back 56 = .ok (.imul, 1) := by decide +kernel
theorem dX10_back_57 : decode cX10_back 57 = .ok (.iload_n 2, 1) := by decide +kernel
theorem dX10_back_58 : decode cX10_back 58 = .ok (.iadd, 1) := by decide +kernel
theorem dX10_back_59 : decode cX10_back 59 = .ok (.iaload, 1) := by decide +kernel
theorem dX10_back_60 : decode cX10_back 60 = .ok (.iastore, 1) := by decide +kernel
theorem dX10_back_61 : decode cX10_back 61 = .ok (.iinc 2 1, 3) := by decide +kernel
theorem dX10_back_64 : decode cX10_back 64 = .ok (.goto (-26), 3) := by decide +kernel
theorem dX10_back_67 : decode cX10_back 67 = .ok (.iconst 0, 1) := by decide +kernel
theorem dX10_back_68 : decode cX10_back 68 = .ok (.istore_n 2, 1) := by decide +kernel
theorem dX10_back_69 : decode cX10_back 69 = .ok (.iload_n 2, 1) := by decide +kernel
theorem dX10_back_70 : decode cX10_back 70 = .ok (.sipush 4096, 3) := by decide +kernel
theorem dX10_back_73 : decode cX10_back 73 = .ok (.if_icmp .ge 27, 3) := by decide +kernel
theorem dX10_back_76 : decode cX10_back 76 = .ok (.aload_n 0, 1) := by decide +kernel
theorem dX10_back_77 : decode cX10_back 77 = .ok (.getfield 67, 3) := by decide +kernel
theorem dX10_back_80 : decode cX10_back 80 = .ok (.iload_n 2, 1) := by decide +kernel
theorem dX10_back_81 : decode cX10_back 81 = .ok (.aload_n 0, 1) := by decide +kernel
theorem dX10_back_82 : decode cX10_back 82 = .ok (.getfield 71, 3) := by decide +kernel
theorem dX10_back_85 : decode cX10_back 85 = .ok (.sipush 4096, 3) := by decide +kernel
theorem dX10_back_88 : decode cX10_back 88 = .ok (.iload_n 1, 1) := by decide +kernel
theorem dX10_back_89 : decode cX10_back 89 = .ok (.imul, 1) := by decide +kernel
theorem dX10_back_90 : decode cX10_back 90 = .ok (.iload_n 2, 1) := by decide +kernel
theorem dX10_back_91 : decode cX10_back 91 = .ok (.iadd, 1) := by decide +kernel
theorem dX10_back_92 : decode cX10_back 92 = .ok (.baload, 1) := by decide +kernel
theorem dX10_back_93 : decode cX10_back 93 = .ok (.bastore, 1) := by decide +kernel
theorem dX10_back_94 : decode cX10_back 94 = .ok (.iinc 2 1, 3) := by decide +kernel
theorem dX10_back_97 : decode cX10_back 97 = .ok (.goto (-28), 3) := by decide +kernel
theorem dX10_back_100 : decode cX10_back 100 = .ok (.aload_n 0, 1) := by decide +kernel
theorem dX10_back_101 : decode cX10_back 101 = .ok (.aload_n 0, 1) := by decide +kernel
theorem dX10_back_102 : decode cX10_back 102 = .ok (.getfield 77, 3) := by decide +kernel
theorem dX10_back_105 : decode cX10_back 105 = .ok (.iload_n 1, 1) := by decide +kernel
theorem dX10_back_106 : decode cX10_back 106 = .ok (.iaload, 1) := by decide +kernel
theorem dX10_back_107 : decode cX10_back 107 = .ok (.putfield 80, 3) := by decide +kernel
theorem dX10_back_110 : decode cX10_back 110 = .ok (.aload_n 0, 1) := by decide +kernel
theorem dX10_back_111 : decode cX10_back 111 = .ok (.iconst 0, 1) := by decide +kernel
theorem dX10_back_112 : decode cX10_back 112 = .ok (.invokevirtual 277, 3) := by decide +kernel
theorem dX10_back_115 : decode cX10_back 115 = .ok (.ireturn, 1) := by decide +kernel
theorem dX10_lettersIn_0 : decode cX10_lettersIn 0 = .ok (.iconst 0, 1) := by decide +kernel
theorem dX10_lettersIn_1 : decode cX10_lettersIn 1 = .ok (.istore_n 2, 1) := by decide +kernel
theorem dX10_lettersIn_2 : decode cX10_lettersIn 2 = .ok (.lload_n 0, 1) := by decide +kernel
theorem dX10_lettersIn_3 : decode cX10_lettersIn 3 = .ok (.lstore_n 3, 1) := by decide +kernel
theorem dX10_lettersIn_4 : decode cX10_lettersIn 4 = .ok (.lload_n 3, 1) := by decide +kernel
theorem dX10_lettersIn_5 : decode cX10_lettersIn 5 = .ok (.lconst 0, 1) := by decide +kernel
theorem dX10_lettersIn_6 : decode cX10_lettersIn 6 = .ok (.lcmp, 1) := by decide +kernel
theorem dX10_lettersIn_7 : decode cX10_lettersIn 7 = .ok (.ifCond .le 15, 3) := by decide +kernel
theorem dX10_lettersIn_10 : decode cX10_lettersIn 10 = .ok (.iinc 2 1, 3) := by decide +kernel
theorem dX10_lettersIn_13 : decode cX10_lettersIn 13 = .ok (.lload_n 3, 1) := by decide +kernel
theorem dX10_lettersIn_14 : decode cX10_lettersIn 14 = .ok (.ldc2_w 129, 3) := by decide +kernel
theorem dX10_lettersIn_17 : decode cX10_lettersIn 17 = .ok (.ldiv, 1) := by decide +kernel
theorem dX10_lettersIn_18 : decode cX10_lettersIn 18 = .ok (.lstore_n 3, 1) := by decide +kernel
theorem dX10_lettersIn_19 : decode cX10_lettersIn 19 = .ok (.goto (-15), 3) := by decide +kernel
theorem dX10_lettersIn_22 : decode cX10_lettersIn 22 = .ok (.iload_n 2, 1) := by decide +kernel
theorem dX10_lettersIn_23 : decode cX10_lettersIn 23 = .ok (.ireturn, 1) := by decide +kernel
theorem dX10_letter_0 : decode cX10_letter 0 = .ok (.aload_n 0, 1) := by decide +kernel
theorem dX10_letter_1 : decode cX10_letter 1 = .ok (.iconst 0, 1) := by decide +kernel
theorem dX10_letter_2 : decode cX10_letter 2 = .ok (.putfield 89, 3) := by decide +kernel
theorem dX10_letter_5 : decode cX10_letter 5 = .ok (.iload_n 1, 1) := by decide +kernel
theorem dX10_letter_6 : decode cX10_letter 6 = .ok (.ifCond .ne 11, 3) := by decide +kernel
theorem dX10_letter_9 : decode cX10_letter 9 = .ok (.aload_n 0, 1) := by decide +kernel
theorem dX10_letter_10 : decode cX10_letter 10 = .ok (.iload_n 2, 1) := by decide +kernel
theorem dX10_letter_11 : decode cX10_letter 11 = .ok (.invokevirtual 251, 3) := by decide +kernel
theorem dX10_letter_14 : decode cX10_letter 14 = .ok (.goto 21, 3) := by decide +kernel
theorem dX10_letter_17 : decode cX10_letter 17 = .ok (.iload_n 1, 1) := by decide +kernel
theorem dX10_letter_18 : decode cX10_letter 18 = .ok (.iconst 1, 1) := by decide +kernel
theorem dX10_letter_19 : decode cX10_letter 19 = .ok (.if_icmp .ne 15, 3) := by decide +kernel
theorem dX10_letter_22 : decode cX10_letter 22 = .ok (.aload_n 0, 1) := by decide +kernel
theorem dX10_letter_23 : decode cX10_letter 23 = .ok (.iload_n 2, 1) := by decide +kernel
theorem dX10_letter_24 : decode cX10_letter 24 = .ok (.invokevirtual 263, 3) := by decide +kernel
theorem dX10_letter_27 : decode cX10_letter 27 = .ok (.ifCond .eq 7, 3) := by decide +kernel
theorem dX10_letter_30 : decode cX10_letter 30 = .ok (.iconst 1, 1) := by decide +kernel
theorem dX10_letter_31 : decode cX10_letter 31 = .ok (.goto 4, 3) := by decide +kernel
theorem dX10_letter_34 : decode cX10_letter 34 = .ok (.iconst 0, 1) := by decide +kernel
theorem dX10_letter_35 : decode cX10_letter 35 = .ok (.istore 4, 2) := by decide +kernel
theorem dX10_letter_37 : decode cX10_letter 37 = .ok (.iload 4, 2) := by decide +kernel
theorem dX10_letter_39 : decode cX10_letter 39 = .ok (.ifCond .ne 7, 3) := by decide +kernel
theorem dX10_letter_42 : decode cX10_letter 42 = .ok (.lconst 0, 1) := by decide +kernel
theorem dX10_letter_43 : decode cX10_letter 43 = .ok (.goto 22, 3) := by decide +kernel
theorem dX10_letter_46 : decode cX10_letter 46 = .ok (.iload_n 1, 1) := by decide +kernel
theorem dX10_letter_47 : decode cX10_letter 47 = .ok (.ifCond .ne 12, 3) := by decide +kernel
theorem dX10_letter_50 : decode cX10_letter 50 = .ok (.aload_n 0, 1) := by decide +kernel
theorem dX10_letter_51 : decode cX10_letter 51 = .ok (.getfield 17, 3) := by decide +kernel
theorem dX10_letter_54 : decode cX10_letter 54 = .ok (.iload_n 2, 1) := by decide +kernel
theorem dX10_letter_55 : decode cX10_letter 55 = .ok (.laload, 1) := by decide +kernel
theorem dX10_letter_56 : decode cX10_letter 56 = .ok (.goto 9, 3) := by decide +kernel
theorem dX10_letter_59 : decode cX10_letter 59 = .ok (.aload_n 0, 1) := by decide +kernel
theorem dX10_letter_60 : decode cX10_letter 60 = .ok (.getfield 21, 3) := by decide +kernel
theorem dX10_letter_63 : decode cX10_letter 63 = .ok (.iload_n 2, 1) := by decide +kernel
theorem dX10_letter_64 : decode cX10_letter 64 = .ok (.laload, 1) := by decide +kernel
theorem dX10_letter_65 : decode cX10_letter 65 = .ok (.lstore 5, 2) := by decide +kernel
theorem dX10_letter_67 : decode cX10_letter 67 = .ok (.iload_n 3, 1) := by decide +kernel
theorem dX10_letter_68 : decode cX10_letter 68 = .ok (.iconst 0, 1) := by decide +kernel
theorem dX10_letter_69 : decode cX10_letter 69 = .ok (.lload 5, 2) := by decide +kernel
theorem dX10_letter_71 : decode cX10_letter 71 = .ok (.invokestatic 341, 3) := by decide +kernel
theorem dX10_letter_74 : decode cX10_letter 74 = .ok (.iconst 1, 1) := by decide +kernel
theorem dX10_letter_75 : decode cX10_letter 75 = .ok (.isub, 1) := by decide +kernel
theorem dX10_letter_76 : decode cX10_letter 76 = .ok (.invokestatic 111, 3) := by decide +kernel
theorem dX10_letter_79 : decode cX10_letter 79 = .ok (.ifCond .ne 10, 3) := by decide +kernel
theorem dX10_letter_82 : decode cX10_letter 82 = .ok (.aload_n 0, 1) := by decide +kernel
theorem dX10_letter_83 : decode cX10_letter 83 = .ok (.iconst 1, 1) := by decide +kernel
theorem dX10_letter_84 : decode cX10_letter 84 = .ok (.putfield 89, 3) := by decide +kernel
theorem dX10_letter_87 : decode cX10_letter 87 = .ok (.iconst 0, 1) := by decide +kernel
theorem dX10_letter_88 : decode cX10_letter 88 = .ok (.ireturn, 1) := by decide +kernel
theorem dX10_letter_89 : decode cX10_letter 89 = .ok (.lload 5, 2) := by decide +kernel
theorem dX10_letter_91 : decode cX10_letter 91 = .ok (.lstore 7, 2) := by decide +kernel
theorem dX10_letter_93 : decode cX10_letter 93 = .ok (.lload 5, 2) := by decide +kernel
theorem dX10_letter_95 : decode cX10_letter 95 = .ok (.invokestatic 341, 3) := by decide +kernel
theorem dX10_letter_98 : decode cX10_letter 98 = .ok (.iconst 1, 1) := by decide +kernel
theorem dX10_letter_99 : decode cX10_letter 99 = .ok (.isub, 1) := by decide +kernel
theorem dX10_letter_100 : decode cX10_letter 100 = .ok (.istore 9, 2) := by decide +kernel
theorem dX10_letter_102 : decode cX10_letter 102 = .ok (.iload 9, 2) := by decide +kernel
theorem dX10_letter_104 : decode cX10_letter 104 = .ok (.iload_n 3, 1) := by decide +kernel
theorem dX10_letter_105 : decode cX10_letter 105 = .ok (.if_icmp .le 17, 3) := by decide +kernel
theorem dX10_letter_108 : decode cX10_letter 108 = .ok (.lload 7, 2) := by decide +kernel
theorem dX10_letter_110 : decode cX10_letter 110 = .ok (.ldc2_w 129, 3) := by decide +kernel
theorem dX10_letter_113 : decode cX10_letter 113 = .ok (.ldiv, 1) := by decide +kernel
theorem dX10_letter_114 : decode cX10_letter 114 = .ok (.lstore 7, 2) := by decide +kernel
theorem dX10_letter_116 : decode cX10_letter 116 = .ok (.iinc 9 (-1), 3) := by decide +kernel
theorem dX10_letter_119 : decode cX10_letter 119 = .ok (.goto (-17), 3) := by decide +kernel
theorem dX10_letter_122 : decode cX10_letter 122 = .ok (.lload 7, 2) := by decide +kernel
theorem dX10_letter_124 : decode cX10_letter 124 = .ok (.ldc2_w 129, 3) := by decide +kernel
theorem dX10_letter_127 : decode cX10_letter 127 = .ok (.lrem, 1) := by decide +kernel
theorem dX10_letter_128 : decode cX10_letter 128 = .ok (.l2i, 1) := by decide +kernel
theorem dX10_letter_129 : decode cX10_letter 129 = .ok (.iconst 1, 1) := by decide +kernel
theorem dX10_letter_130 : decode cX10_letter 130 = .ok (.isub, 1) := by decide +kernel
theorem dX10_letter_131 : decode cX10_letter 131 = .ok (.ireturn, 1) := by decide +kernel
theorem dX10_bytes_0 : decode cX10_bytes 0 = .ok (.aload_n 0, 1) := by decide +kernel
theorem dX10_bytes_1 : decode cX10_bytes 1 = .ok (.iconst 0, 1) := by decide +kernel
theorem dX10_bytes_2 : decode cX10_bytes 2 = .ok (.putfield 89, 3) := by decide +kernel
theorem dX10_bytes_5 : decode cX10_bytes 5 = .ok (.aload_n 0, 1) := by decide +kernel
theorem dX10_bytes_6 : decode cX10_bytes 6 = .ok (.getfield 96, 3) := by decide +kernel
theorem dX10_bytes_9 : decode cX10_bytes 9 = .ok (.ireturn, 1) := by decide +kernel
theorem dX10_trouble_0 : decode cX10_trouble 0 = .ok (.aload_n 0, 1) := by decide +kernel
theorem dX10_trouble_1 : decode cX10_trouble 1 = .ok (.iconst 0, 1) := by decide +kernel
theorem dX10_trouble_2 : decode cX10_trouble 2 = .ok (.putfield 89, 3) := by decide +kernel
theorem dX10_trouble_5 : decode cX10_trouble 5 = .ok (.aload_n 0, 1) := by decide +kernel
theorem dX10_trouble_6 : decode cX10_trouble 6 = .ok (.getfield 92, 3) := by decide +kernel
theorem dX10_trouble_9 : decode cX10_trouble 9 = .ok (.ireturn, 1) := by decide +kernel
theorem dJ9_floorDiv_7cf53_0 : decode cJ9_floorDiv_7cf53 0 = .ok (.iload_n 0, 1) := by decide +kernel
theorem dJ9_floorDiv_7cf53_1 : decode cJ9_floorDiv_7cf53 1 = .ok (.iload_n 1, 1) := by decide +kernel
theorem dJ9_floorDiv_7cf53_2 : decode cJ9_floorDiv_7cf53 2 = .ok (.idiv, 1) := by decide +kernel
theorem dJ9_floorDiv_7cf53_3 : decode cJ9_floorDiv_7cf53 3 = .ok (.istore_n 2, 1) := by decide +kernel
theorem dJ9_floorDiv_7cf53_4 : decode cJ9_floorDiv_7cf53 4 = .ok (.iload_n 0, 1) := by decide +kernel
theorem dJ9_floorDiv_7cf53_5 : decode cJ9_floorDiv_7cf53 5 = .ok (.iload_n 1, 1) := by decide +kernel
theorem dJ9_floorDiv_7cf53_6 : decode cJ9_floorDiv_7cf53 6 = .ok (.ixor, 1) := by decide +kernel
theorem dJ9_floorDiv_7cf53_7 : decode cJ9_floorDiv_7cf53 7 = .ok (.ifCond .ge 14, 3) := by decide +kernel
theorem dJ9_floorDiv_7cf53_10 : decode cJ9_floorDiv_7cf53 10 = .ok (.iload_n 2, 1) := by decide +kernel
theorem dJ9_floorDiv_7cf53_11 : decode cJ9_floorDiv_7cf53 11 = .ok (.iload_n 1, 1) := by decide +kernel
theorem dJ9_floorDiv_7cf53_12 : decode cJ9_floorDiv_7cf53 12 = .ok (.imul, 1) := by decide +kernel
theorem dJ9_floorDiv_7cf53_13 : decode cJ9_floorDiv_7cf53 13 = .ok (.iload_n 0, 1) := by decide +kernel
theorem dJ9_floorDiv_7cf53_14 : decode cJ9_floorDiv_7cf53 14 = .ok (.if_icmp .eq 7, 3) := by decide +kernel
theorem dJ9_floorDiv_7cf53_17 : decode cJ9_floorDiv_7cf53 17 = .ok (.iload_n 2, 1) := by decide +kernel
theorem dJ9_floorDiv_7cf53_18 : decode cJ9_floorDiv_7cf53 18 = .ok (.iconst 1, 1) := by decide +kernel
theorem dJ9_floorDiv_7cf53_19 : decode cJ9_floorDiv_7cf53 19 = .ok (.isub, 1) := by decide +kernel
theorem dJ9_floorDiv_7cf53_20 : decode cJ9_floorDiv_7cf53 20 = .ok (.ireturn, 1) := by decide +kernel
theorem dJ9_floorDiv_7cf53_21 : decode cJ9_floorDiv_7cf53 21 = .ok (.iload_n 2, 1) := by decide +kernel
theorem dJ9_floorDiv_7cf53_22 : decode cJ9_floorDiv_7cf53 22 = .ok (.ireturn, 1) := by decide +kernel
theorem dJ9_floorMod_7cf53_0 : decode cJ9_floorMod_7cf53 0 = .ok (.iload_n 0, 1) := by decide +kernel
theorem dJ9_floorMod_7cf53_1 : decode cJ9_floorMod_7cf53 1 = .ok (.iload_n 1, 1) := by decide +kernel
theorem dJ9_floorMod_7cf53_2 : decode cJ9_floorMod_7cf53 2 = .ok (.irem, 1) := by decide +kernel
theorem dJ9_floorMod_7cf53_3 : decode cJ9_floorMod_7cf53 3 = .ok (.istore_n 2, 1) := by decide +kernel
theorem dJ9_floorMod_7cf53_4 : decode cJ9_floorMod_7cf53 4 = .ok (.iload_n 0, 1) := by decide +kernel
theorem dJ9_floorMod_7cf53_5 : decode cJ9_floorMod_7cf53 5 = .ok (.iload_n 1, 1) := by decide +kernel
theorem dJ9_floorMod_7cf53_6 : decode cJ9_floorMod_7cf53 6 = .ok (.ixor, 1) := by decide +kernel
theorem dJ9_floorMod_7cf53_7 : decode cJ9_floorMod_7cf53 7 = .ok (.ifCond .ge 11, 3) := by decide +kernel
theorem dJ9_floorMod_7cf53_10 : decode cJ9_floorMod_7cf53 10 = .ok (.iload_n 2, 1) := by decide +kernel
theorem dJ9_floorMod_7cf53_11 : decode cJ9_floorMod_7cf53 11 = .ok (.ifCond .eq 7, 3) := by decide +kernel
theorem dJ9_floorMod_7cf53_14 : decode cJ9_floorMod_7cf53 14 = .ok (.iload_n 2, 1) := by decide +kernel
theorem dJ9_floorMod_7cf53_15 : decode cJ9_floorMod_7cf53 15 = .ok (.iload_n 1, 1) := by decide +kernel
theorem dJ9_floorMod_7cf53_16 : decode cJ9_floorMod_7cf53 16 = .ok (.iadd, 1) := by decide +kernel
theorem dJ9_floorMod_7cf53_17 : decode cJ9_floorMod_7cf53 17 = .ok (.ireturn, 1) := by decide +kernel
theorem dJ9_floorMod_7cf53_18 : decode cJ9_floorMod_7cf53 18 = .ok (.iload_n 2, 1) := by decide +kernel
theorem dJ9_floorMod_7cf53_19 : decode cJ9_floorMod_7cf53 19 = .ok (.ireturn, 1) := by decide +kernel
theorem dJ9_abs_0f7a4_0 : decode cJ9_abs_0f7a4 0 = .ok (.iload_n 0, 1) := by decide +kernel
theorem dJ9_abs_0f7a4_1 : decode cJ9_abs_0f7a4 1 = .ok (.ifCond .ge 8, 3) := by decide +kernel
theorem dJ9_abs_0f7a4_4 : decode cJ9_abs_0f7a4 4 = .ok (.iload_n 0, 1) := by decide +kernel
theorem dJ9_abs_0f7a4_5 : decode cJ9_abs_0f7a4 5 = .ok (.ineg, 1) := by decide +kernel
theorem dJ9_abs_0f7a4_6 : decode cJ9_abs_0f7a4 6 = .ok (.goto 4, 3) := by decide +kernel
theorem dJ9_abs_0f7a4_9 : decode cJ9_abs_0f7a4 9 = .ok (.iload_n 0, 1) := by decide +kernel
theorem dJ9_abs_0f7a4_10 : decode cJ9_abs_0f7a4 10 = .ok (.ireturn, 1) := by decide +kernel
theorem dJ9_max_7cf53_0 : decode cJ9_max_7cf53 0 = .ok (.iload_n 0, 1) := by decide +kernel
theorem dJ9_max_7cf53_1 : decode cJ9_max_7cf53 1 = .ok (.iload_n 1, 1) := by decide +kernel
theorem dJ9_max_7cf53_2 : decode cJ9_max_7cf53 2 = .ok (.if_icmp .lt 7, 3) := by decide +kernel
theorem dJ9_max_7cf53_5 : decode cJ9_max_7cf53 5 = .ok (.iload_n 0, 1) := by decide +kernel
theorem dJ9_max_7cf53_6 : decode cJ9_max_7cf53 6 = .ok (.goto 4, 3) := by decide +kernel
theorem dJ9_max_7cf53_9 : decode cJ9_max_7cf53 9 = .ok (.iload_n 1, 1) := by decide +kernel
theorem dJ9_max_7cf53_10 : decode cJ9_max_7cf53 10 = .ok (.ireturn, 1) := by decide +kernel
theorem dJ9_min_7cf53_0 : decode cJ9_min_7cf53 0 = .ok (.iload_n 0, 1) := by decide +kernel
theorem dJ9_min_7cf53_1 : decode cJ9_min_7cf53 1 = .ok (.iload_n 1, 1) := by decide +kernel
theorem dJ9_min_7cf53_2 : decode cJ9_min_7cf53 2 = .ok (.if_icmp .gt 7, 3) := by decide +kernel
theorem dJ9_min_7cf53_5 : decode cJ9_min_7cf53 5 = .ok (.iload_n 0, 1) := by decide +kernel
theorem dJ9_min_7cf53_6 : decode cJ9_min_7cf53 6 = .ok (.goto 4, 3) := by decide +kernel
theorem dJ9_min_7cf53_9 : decode cJ9_min_7cf53 9 = .ok (.iload_n 1, 1) := by decide +kernel
theorem dJ9_min_7cf53_10 : decode cJ9_min_7cf53 10 = .ok (.ireturn, 1) := by decide +kernel
theorem dJ0_length_8abf5_0 : decode cJ0_length_8abf5 0 = .ok (.aload_n 0, 1) := by decide +kernel
theorem dJ0_length_8abf5_1 : decode cJ0_length_8abf5 1 = .ok (.getfield 9, 3) := by decide +kernel
theorem dJ0_length_8abf5_4 : decode cJ0_length_8abf5 4 = .ok (.arraylength, 1) := by decide +kernel
theorem dJ0_length_8abf5_5 : decode cJ0_length_8abf5 5 = .ok (.aload_n 0, 1) := by decide +kernel
theorem dJ0_length_8abf5_6 : decode cJ0_length_8abf5 6 = .ok (.invokevirtual 335, 3) := by decide +kernel
theorem dJ0_length_8abf5_9 : decode cJ0_length_8abf5 9 = .ok (.ishr, 1) := by decide +kernel
theorem dJ0_length_8abf5_10 : decode cJ0_length_8abf5 10 = .ok (.ireturn, 1) := by decide +kernel
theorem dJ0_charAt_5068e_0 : decode cJ0_charAt_5068e 0 = .ok (.aload_n 0, 1) := by decide +kernel
theorem dJ0_charAt_5068e_1 : decode cJ0_charAt_5068e 1 = .ok (.invokevirtual 492, 3) := by decide +kernel
theorem dJ0_charAt_5068e_4 : decode cJ0_charAt_5068e 4 = .ok (.ifCond .eq 12, 3) := by decide +kernel
theorem dJ0_charAt_5068e_7 : decode cJ0_charAt_5068e 7 = .ok (.aload_n 0, 1) := by decide +kernel
theorem dJ0_charAt_5068e_8 : decode cJ0_charAt_5068e 8 = .ok (.getfield 9, 3) := by decide +kernel
theorem dJ0_charAt_5068e_11 : decode cJ0_charAt_5068e 11 = .ok (.iload_n 1, 1) := by decide +kernel
theorem dJ0_charAt_5068e_12 : decode cJ0_charAt_5068e 12 = .ok (.invokestatic 495, 3) := by decide +kernel
theorem dJ0_charAt_5068e_15 : decode cJ0_charAt_5068e 15 = .ok (.ireturn, 1) := by decide +kernel
theorem dJ0_charAt_5068e_16 : decode cJ0_charAt_5068e 16 = .ok (.aload_n 0, 1) := by decide +kernel
theorem dJ0_charAt_5068e_17 : decode cJ0_charAt_5068e 17 = .ok (.getfield 9, 3) := by decide +kernel
theorem dJ0_charAt_5068e_20 : decode cJ0_charAt_5068e 20 = .ok (.iload_n 1, 1) := by decide +kernel
theorem dJ0_charAt_5068e_21 : decode cJ0_charAt_5068e 21 = .ok (.invokestatic 498, 3) := by decide +kernel
theorem dJ0_charAt_5068e_24 : decode cJ0_charAt_5068e 24 = .ok (.ireturn, 1) := by decide +kernel
theorem dJ0_coder_7d493_0 : decode cJ0_coder_7d493 0 = .ok (.getstatic 38, 3) := by decide +kernel
theorem dJ0_coder_7d493_3 : decode cJ0_coder_7d493 3 = .ok (.ifCond .eq 10, 3) := by decide +kernel
theorem dJ0_coder_7d493_6 : decode cJ0_coder_7d493 6 = .ok (.aload_n 0, 1) := by decide +kernel
theorem dJ0_coder_7d493_7 : decode cJ0_coder_7d493 7 = .ok (.getfield 15, 3) := by decide +kernel
theorem dJ0_coder_7d493_10 : decode cJ0_coder_7d493 10 = .ok (.goto 4, 3) := by decide +kernel
theorem dJ0_coder_7d493_13 : decode cJ0_coder_7d493 13 = .ok (.iconst 1, 1) := by decide +kernel
theorem dJ0_coder_7d493_14 : decode cJ0_coder_7d493 14 = .ok (.ireturn, 1) := by decide +kernel
theorem dJ0_isLatin1_aae02_0 : decode cJ0_isLatin1_aae02 0 = .ok (.getstatic 38, 3) := by decide +kernel
theorem dJ0_isLatin1_aae02_3 : decode cJ0_isLatin1_aae02 3 = .ok (.ifCond .eq 14, 3) := by decide +kernel
theorem dJ0_isLatin1_aae02_6 : decode cJ0_isLatin1_aae02 6 = .ok (.aload_n 0, 1) := by decide +kernel
theorem dJ0_isLatin1_aae02_7 : decode cJ0_isLatin1_aae02 7 = .ok (.getfield 15, 3) := by decide +kernel
theorem dJ0_isLatin1_aae02_10 : decode cJ0_isLatin1_aae02 10 = .ok (.ifCond .ne 7, 3) := by decide +kernel
theorem dJ0_isLatin1_aae02_13 : decode cJ0_isLatin1_aae02 13 = .ok (.iconst 1, 1) := by decide +kernel
theorem dJ0_isLatin1_aae02_14 : decode cJ0_isLatin1_aae02 14 = .ok (.goto 4, 3) := by decide +kernel
theorem dJ0_isLatin1_aae02_17 : decode cJ0_isLatin1_aae02 17 = .ok (.iconst 0, 1) := by decide +kernel
theorem dJ0_isLatin1_aae02_18 : decode cJ0_isLatin1_aae02 18 = .ok (.ireturn, 1) := by decide +kernel
theorem dJ0_checkIndex_df160_0 : decode cJ0_checkIndex_df160 0 = .ok (.iload_n 0, 1) := by decide +kernel
theorem dJ0_checkIndex_df160_1 : decode cJ0_checkIndex_df160 1 = .ok (.iload_n 1, 1) := by decide +kernel
theorem dJ0_checkIndex_df160_2 : decode cJ0_checkIndex_df160 2 = .ok (.getstatic 1053, 3) := by decide +kernel
theorem dJ0_checkIndex_df160_5 : decode cJ0_checkIndex_df160 5 = .ok (.invokestatic 1059, 3) := by decide +kernel
theorem dJ0_checkIndex_df160_8 : decode cJ0_checkIndex_df160 8 = .ok (.pop, 1) := by decide +kernel
theorem dJ0_checkIndex_df160_9 : decode cJ0_checkIndex_df160 9 = .ok (.return_, 1) := by decide +kernel
theorem dJ1_charAt_3b067_0 : decode cJ1_charAt_3b067 0 = .ok (.iload_n 1, 1) := by decide +kernel
theorem dJ1_charAt_3b067_1 : decode cJ1_charAt_3b067 1 = .ok (.aload_n 0, 1) := by decide +kernel
theorem dJ1_charAt_3b067_2 : decode cJ1_charAt_3b067 2 = .ok (.arraylength, 1) := by decide +kernel
theorem dJ1_charAt_3b067_3 : decode cJ1_charAt_3b067 3 = .ok (.invokestatic 9, 3) := by decide +kernel
theorem dJ1_charAt_3b067_6 : decode cJ1_charAt_3b067 6 = .ok (.aload_n 0, 1) := by decide +kernel
theorem dJ1_charAt_3b067_7 : decode cJ1_charAt_3b067 7 = .ok (.iload_n 1, 1) := by decide +kernel
theorem dJ1_charAt_3b067_8 : decode cJ1_charAt_3b067 8 = .ok (.baload, 1) := by decide +kernel
theorem dJ1_charAt_3b067_9 : decode cJ1_charAt_3b067 9 = .ok (.sipush 255, 3) := by decide +kernel
theorem dJ1_charAt_3b067_12 : decode cJ1_charAt_3b067 12 = .ok (.iand, 1) := by decide +kernel
theorem dJ1_charAt_3b067_13 : decode cJ1_charAt_3b067 13 = .ok (.i2c, 1) := by decide +kernel
theorem dJ1_charAt_3b067_14 : decode cJ1_charAt_3b067 14 = .ok (.ireturn, 1) := by decide +kernel
theorem dJ2_getChar_3b067_0 : decode cJ2_getChar_3b067 0 = .ok (.getstatic 44, 3) := by decide +kernel
theorem dJ2_getChar_3b067_3 : decode cJ2_getChar_3b067 3 = .ok (.ifCond .ne 25, 3) := by decide +kernel
theorem dJ2_getChar_3b067_6 : decode cJ2_getChar_3b067 6 = .ok (.iload_n 1, 1) := by decide +kernel
theorem dJ2_getChar_3b067_7 : decode cJ2_getChar_3b067 7 = .ok (.ifCond .lt 11, 3) := by decide +kernel
theorem dJ2_getChar_3b067_10 : decode cJ2_getChar_3b067 10 = .ok (.iload_n 1, 1) := by decide +kernel
theorem dJ2_getChar_3b067_11 : decode cJ2_getChar_3b067 11 = .ok (.aload_n 0, 1) := by decide +kernel
theorem dJ2_getChar_3b067_12 : decode cJ2_getChar_3b067 12 = .ok (.invokestatic 48, 3) := by decide +kernel
theorem dJ2_getChar_3b067_15 : decode cJ2_getChar_3b067 15 = .ok (.if_icmp .lt 13, 3) := by decide +kernel
theorem dJ2_getChar_3b067_18 : decode cJ2_getChar_3b067 18 = .ok (.new 52, 3) := by decide +kernel
theorem dJ2_getChar_3b067_21 : decode cJ2_getChar_3b067 21 = .ok (.dup, 1) := by decide +kernel
theorem dJ2_getChar_3b067_22 : decode cJ2_getChar_3b067 22 = .ok (.ldc 54, 2) := by decide +kernel
theorem dJ2_getChar_3b067_24 : decode cJ2_getChar_3b067 24 = .ok (.invokespecial 56, 3) := by decide +kernel
theorem dJ2_getChar_3b067_27 : decode cJ2_getChar_3b067 27 = .ok (.athrow, 1) := by decide +kernel
theorem dJ2_getChar_3b067_28 : decode cJ2_getChar_3b067 28 = .ok (.iload_n 1, 1) := by decide +kernel
theorem dJ2_getChar_3b067_29 : decode cJ2_getChar_3b067 29 = .ok (.iconst 1, 1) := by decide +kernel
theorem dJ2_getChar_3b067_30 : decode cJ2_getChar_3b067 30 = .ok (.ishl, 1) := by decide +kernel
theorem dJ2_getChar_3b067_31 : decode cJ2_getChar_3b067 31 = .ok (.istore_n 1, 1) := by decide +kernel
theorem dJ2_getChar_3b067_32 : decode cJ2_getChar_3b067 32 = .ok (.aload_n 0, 1) := by decide +kernel
theorem dJ2_getChar_3b067_33 : decode cJ2_getChar_3b067 33 = .ok (.iload_n 1, 1) := by decide +kernel
theorem dJ2_getChar_3b067_34 : decode cJ2_getChar_3b067 34 = .ok (.iinc 1 1, 3) := by decide +kernel
theorem dJ2_getChar_3b067_37 : decode cJ2_getChar_3b067 37 = .ok (.baload, 1) := by decide +kernel
theorem dJ2_getChar_3b067_38 : decode cJ2_getChar_3b067 38 = .ok (.sipush 255, 3) := by decide +kernel
theorem dJ2_getChar_3b067_41 : decode cJ2_getChar_3b067 41 = .ok (.iand, 1) := by decide +kernel
theorem dJ2_getChar_3b067_42 : decode cJ2_getChar_3b067 42 = .ok (.getstatic 59, 3) := by decide +kernel
theorem dJ2_getChar_3b067_45 : decode cJ2_getChar_3b067 45 = .ok (.ishl, 1) := by decide +kernel
theorem dJ2_getChar_3b067_46 : decode cJ2_getChar_3b067 46 = .ok (.aload_n 0, 1) := by decide +kernel
theorem dJ2_getChar_3b067_47 : decode cJ2_getChar_3b067 47 = .ok (.iload_n 1, 1) := by decide +kernel
theorem dJ2_getChar_3b067_48 : decode cJ2_getChar_3b067 48 = .ok (.baload, 1) := by decide +kernel
theorem dJ2_getChar_3b067_49 : decode cJ2_getChar_3b067 49 = .ok (.sipush 255, 3) := by decide +kernel
theorem dJ2_getChar_3b067_52 : decode cJ2_getChar_3b067 52 = .ok (.iand, 1) := by decide +kernel
theorem dJ2_getChar_3b067_53 : decode cJ2_getChar_3b067 53 = .ok (.getstatic 63, 3) := by decide +kernel
theorem dJ2_getChar_3b067_56 : decode cJ2_getChar_3b067 56 = .ok (.ishl, 1) := by decide +kernel
theorem dJ2_getChar_3b067_57 : decode cJ2_getChar_3b067 57 = .ok (.ior, 1) := by decide +kernel
theorem dJ2_getChar_3b067_58 : decode cJ2_getChar_3b067 58 = .ok (.i2c, 1) := by decide +kernel
theorem dJ2_getChar_3b067_59 : decode cJ2_getChar_3b067 59 = .ok (.ireturn, 1) := by decide +kernel
theorem dJ2_length_9d52b_0 : decode cJ2_length_9d52b 0 = .ok (.aload_n 0, 1) := by decide +kernel
theorem dJ2_length_9d52b_1 : decode cJ2_length_9d52b 1 = .ok (.arraylength, 1) := by decide +kernel
theorem dJ2_length_9d52b_2 : decode cJ2_length_9d52b 2 = .ok (.iconst 1, 1) := by decide +kernel
theorem dJ2_length_9d52b_3 : decode cJ2_length_9d52b 3 = .ok (.ishr, 1) := by decide +kernel
theorem dJ2_length_9d52b_4 : decode cJ2_length_9d52b 4 = .ok (.ireturn, 1) := by decide +kernel
theorem dJ2_charAt_3b067_0 : decode cJ2_charAt_3b067 0 = .ok (.iload_n 1, 1) := by decide +kernel
theorem dJ2_charAt_3b067_1 : decode cJ2_charAt_3b067 1 = .ok (.aload_n 0, 1) := by decide +kernel
theorem dJ2_charAt_3b067_2 : decode cJ2_charAt_3b067 2 = .ok (.invokestatic 67, 3) := by decide +kernel
theorem dJ2_charAt_3b067_5 : decode cJ2_charAt_3b067 5 = .ok (.aload_n 0, 1) := by decide +kernel
theorem dJ2_charAt_3b067_6 : decode cJ2_charAt_3b067 6 = .ok (.iload_n 1, 1) := by decide +kernel
theorem dJ2_charAt_3b067_7 : decode cJ2_charAt_3b067 7 = .ok (.invokestatic 71, 3) := by decide +kernel
theorem dJ2_charAt_3b067_10 : decode cJ2_charAt_3b067 10 = .ok (.ireturn, 1) := by decide +kernel
theorem dJ2_checkIndex_2214a_0 : decode cJ2_checkIndex_2214a 0 = .ok (.iload_n 0, 1) := by decide +kernel
theorem dJ2_checkIndex_2214a_1 : decode cJ2_checkIndex_2214a 1 = .ok (.aload_n 1, 1) := by decide +kernel
theorem dJ2_checkIndex_2214a_2 : decode cJ2_checkIndex_2214a 2 = .ok (.invokestatic 48, 3) := by decide +kernel
theorem dJ2_checkIndex_2214a_5 : decode cJ2_checkIndex_2214a 5 = .ok (.invokestatic 414, 3) := by decide +kernel
theorem dJ2_checkIndex_2214a_8 : decode cJ2_checkIndex_2214a 8 = .ok (.return_, 1) := by decide +kernel
theorem dJ7_fill_53178_0 : decode cJ7_fill_53178 0 = .ok (.iconst 0, 1) := by decide +kernel
theorem dJ7_fill_53178_1 : decode cJ7_fill_53178 1 = .ok (.istore_n 2, 1) := by decide +kernel
theorem dJ7_fill_53178_2 : decode cJ7_fill_53178 2 = .ok (.aload_n 0, 1) := by decide +kernel
theorem dJ7_fill_53178_3 : decode cJ7_fill_53178 3 = .ok (.arraylength, 1) := by decide +kernel
theorem dJ7_fill_53178_4 : decode cJ7_fill_53178 4 = .ok (.istore_n 3, 1) := by decide +kernel
theorem dJ7_fill_53178_5 : decode cJ7_fill_53178 5 = .ok (.iload_n 2, 1) := by decide +kernel
theorem dJ7_fill_53178_6 : decode cJ7_fill_53178 6 = .ok (.iload_n 3, 1) := by decide +kernel
theorem dJ7_fill_53178_7 : decode cJ7_fill_53178 7 = .ok (.if_icmp .ge 13, 3) := by decide +kernel
theorem dJ7_fill_53178_10 : decode cJ7_fill_53178 10 = .ok (.aload_n 0, 1) := by decide +kernel
theorem dJ7_fill_53178_11 : decode cJ7_fill_53178 11 = .ok (.iload_n 2, 1) := by decide +kernel
theorem dJ7_fill_53178_12 : decode cJ7_fill_53178 12 = .ok (.iload_n 1, 1) := by decide +kernel
theorem dJ7_fill_53178_13 : decode cJ7_fill_53178 13 = .ok (.iastore, 1) := by decide +kernel
theorem dJ7_fill_53178_14 : decode cJ7_fill_53178 14 = .ok (.iinc 2 1, 3) := by decide +kernel
theorem dJ7_fill_53178_17 : decode cJ7_fill_53178 17 = .ok (.goto (-12), 3) := by decide +kernel
theorem dJ7_fill_53178_20 : decode cJ7_fill_53178 20 = .ok (.return_, 1) := by decide +kernel
theorem dJ3_checkIndex_8e157_0 : decode cJ3_checkIndex_8e157 0 = .ok (.iload_n 0, 1) := by decide +kernel
theorem dJ3_checkIndex_8e157_1 : decode cJ3_checkIndex_8e157 1 = .ok (.ifCond .lt 8, 3) := by decide +kernel
theorem dJ3_checkIndex_8e157_4 : decode cJ3_checkIndex_8e157 4 = .ok (.iload_n 0, 1) := by decide +kernel
theorem dJ3_checkIndex_8e157_5 : decode cJ3_checkIndex_8e157 5 = .ok (.iload_n 1, 1) := by decide +kernel
theorem dJ3_checkIndex_8e157_6 : decode cJ3_checkIndex_8e157 6 = .ok (.if_icmp .lt 10, 3) := by decide +kernel
theorem dJ3_checkIndex_8e157_9 : decode cJ3_checkIndex_8e157 9 = .ok (.aload_n 2, 1) := by decide +kernel
theorem dJ3_checkIndex_8e157_10 : decode cJ3_checkIndex_8e157 10 = .ok (.iload_n 0, 1) := by decide +kernel
theorem dJ3_checkIndex_8e157_11 : decode cJ3_checkIndex_8e157 11 = .ok (.iload_n 1, 1) := by decide +kernel
theorem dJ3_checkIndex_8e157_12 : decode cJ3_checkIndex_8e157 12 = .ok (.invokestatic 95, 3) := by decide +kernel
theorem dJ3_checkIndex_8e157_15 : decode cJ3_checkIndex_8e157 15 = .ok (.athrow, 1) := by decide +kernel
theorem dJ3_checkIndex_8e157_16 : decode cJ3_checkIndex_8e157 16 = .ok (.iload_n 0, 1) := by decide +kernel
theorem dJ3_checkIndex_8e157_17 : decode cJ3_checkIndex_8e157 17 = .ok (.ireturn, 1) := by decide +kernel
theorem dL_letter_0 : decode cL_letter 0 = .ok (.aload 4, 2) := by decide +kernel
theorem dL_letter_2 : decode cL_letter 2 = .ok (.iconst 0, 1) := by decide +kernel
theorem dL_letter_3 : decode cL_letter 3 = .ok (.aload_n 0, 1) := by decide +kernel
theorem dL_letter_4 : decode cL_letter 4 = .ok (.iload_n 1, 1) := by decide +kernel
theorem dL_letter_5 : decode cL_letter 5 = .ok (.iload_n 2, 1) := by decide +kernel
theorem dL_letter_6 : decode cL_letter 6 = .ok (.iload_n 3, 1) := by decide +kernel
theorem dL_letter_7 : decode cL_letter 7 = .ok (.invokevirtual 7, 3) := by decide +kernel
theorem dL_letter_10 : decode cL_letter 10 = .ok (.i2l, 1) := by decide +kernel
theorem dL_letter_11 : decode cL_letter 11 = .ok (.lastore, 1) := by decide +kernel
theorem dL_letter_12 : decode cL_letter 12 = .ok (.goto 7, 3) := by decide +kernel
theorem dL_letter_15 : decode cL_letter 15 = .ok (.astore 5, 2) := by decide +kernel
theorem dL_letter_17 : decode cL_letter 17 = .ok (.iconst 1, 1) := by decide +kernel
theorem dL_letter_18 : decode cL_letter 18 = .ok (.ireturn, 1) := by decide +kernel
theorem dL_letter_19 : decode cL_letter 19 = .ok (.iconst 0, 1) := by decide +kernel
theorem dL_letter_20 : decode cL_letter 20 = .ok (.ireturn, 1) := by decide +kernel
theorem dL_law_0 : decode cL_law 0 = .ok (.new 8, 3) := by decide +kernel
theorem dL_law_3 : decode cL_law 3 = .ok (.dup, 1) := by decide +kernel
theorem dL_law_4 : decode cL_law 4 = .ok (.invokespecial 15, 3) := by decide +kernel
theorem dL_law_7 : decode cL_law 7 = .ok (.astore_n 1, 1) := by decide +kernel
theorem dL_law_8 : decode cL_law 8 = .ok (.new 16, 3) := by decide +kernel
theorem dL_law_11 : decode cL_law 11 = .ok (.dup, 1) := by decide +kernel
theorem dL_law_12 : decode cL_law 12 = .ok (.invokespecial 18, 3) := by decide +kernel
theorem dL_law_15 : decode cL_law 15 = .ok (.astore_n 2, 1) := by decide +kernel
theorem dL_law_16 : decode cL_law 16 = .ok (.iconst 1, 1) := by decide +kernel
theorem dL_law_17 : decode cL_law 17 = .ok (.newarray .long, 2) := by decide +kernel
theorem dL_law_19 : decode cL_law 19 = .ok (.astore_n 3, 1) := by decide +kernel
theorem dL_law_20 : decode cL_law 20 = .ok (.iconst 0, 1) := by decide +kernel
theorem dL_law_21 : decode cL_law 21 = .ok (.istore 4, 2) := by decide +kernel
theorem dL_law_23 : decode cL_law 23 = .ok (.iload 4, 2) := by decide +kernel
theorem dL_law_25 : decode cL_law 25 = .ok (.aload_n 0, 1) := by decide +kernel
theorem dL_law_26 : decode cL_law 26 = .ok (.arraylength, 1) := by decide +kernel
theorem dL_law_27 : decode cL_law 27 = .ok (.bipush 6, 2) := by decide +kernel
theorem dL_law_29 : decode cL_law 29 = .ok (.isub, 1) := by decide +kernel
theorem dL_law_30 : decode cL_law 30 = .ok (.if_icmp .gt 1515, 3) := by decide +kernel
theorem dL_law_33 : decode cL_law 33 = .ok (.aload_n 0, 1) := by decide +kernel
theorem dL_law_34 : decode cL_law 34 = .ok (.iload 4, 2) := by decide +kernel
theorem dL_law_36 : decode cL_law 36 = .ok (.iaload, 1) := by decide +kernel
theorem dL_law_37 : decode cL_law 37 = .ok (.bipush 63, 2) := by decide +kernel
theorem dL_law_39 : decode cL_law 39 = .ok (.iand, 1) := by decide +kernel
theorem dL_law_40 : decode cL_law 40 = .ok (.tableswitch 1499 0 35 #[160, 233, 258, 271, 284, 309, 346, 383, 420, 445, 482, 507, 532, 557, 582, 607, 656, 693, 742, 791, 840, 877, 926, 951, 988, 1037, 1074, 1123, 1184, 1257, 1282, 1343, 1368, 1393, 1473, 1486], 160) := by decide +kernel
theorem dL_law_200 : decode cL_law 200 = .ok (.aload_n 1, 1) := by decide +kernel
theorem dL_law_201 : decode cL_law 201 = .ok (.aload_n 0, 1) := by decide +kernel
theorem dL_law_202 : decode cL_law 202 = .ok (.iload 4, 2) := by decide +kernel
theorem dL_law_204 : decode cL_law 204 = .ok (.iconst 1, 1) := by decide +kernel
theorem dL_law_205 : decode cL_law 205 = .ok (.iadd, 1) := by decide +kernel
theorem dL_law_206 : decode cL_law 206 = .ok (.iaload, 1) := by decide +kernel
theorem dL_law_207 : decode cL_law 207 = .ok (.aload_n 0, 1) := by decide +kernel
theorem dL_law_208 : decode cL_law 208 = .ok (.iload 4, 2) := by decide +kernel
theorem dL_law_210 : decode cL_law 210 = .ok (.iconst 2, 1) := by decide +kernel
theorem dL_law_211 : decode cL_law 211 = .ok (.iadd, 1) := by decide +kernel
theorem dL_law_212 : decode cL_law 212 = .ok (.iaload, 1) := by decide +kernel
theorem dL_law_213 : decode cL_law 213 = .ok (.aload_n 0, 1) := by decide +kernel
theorem dL_law_214 : decode cL_law 214 = .ok (.iload 4, 2) := by decide +kernel
theorem dL_law_216 : decode cL_law 216 = .ok (.iconst 3, 1) := by decide +kernel
theorem dL_law_217 : decode cL_law 217 = .ok (.iadd, 1) := by decide +kernel
theorem dL_law_218 : decode cL_law 218 = .ok (.iaload, 1) := by decide +kernel
theorem dL_law_219 : decode cL_law 219 = .ok (.aload_n 0, 1) := by decide +kernel
theorem dL_law_220 : decode cL_law 220 = .ok (.iload 4, 2) := by decide +kernel
theorem dL_law_222 : decode cL_law 222 = .ok (.iconst 4, 1) := by decide +kernel
theorem dL_law_223 : decode cL_law 223 = .ok (.iadd, 1) := by decide +kernel
theorem dL_law_224 : decode cL_law 224 = .ok (.iaload, 1) := by decide +kernel
theorem dL_law_225 : decode cL_law 225 = .ok (.aload_n 0, 1) := by decide +kernel
theorem dL_law_226 : decode cL_law 226 = .ok (.iload 4, 2) := by decide +kernel
theorem dL_law_228 : decode cL_law 228 = .ok (.iconst 5, 1) := by decide +kernel
theorem dL_law_229 : decode cL_law 229 = .ok (.iadd, 1) := by decide +kernel
theorem dL_law_230 : decode cL_law 230 = .ok (.iaload, 1) := by decide +kernel
theorem dL_law_231 : decode cL_law 231 = .ok (.invokevirtual 19, 3) := by decide +kernel
theorem dL_law_234 : decode cL_law 234 = .ok (.aload_n 2, 1) := by decide +kernel
theorem dL_law_235 : decode cL_law 235 = .ok (.aload_n 0, 1) := by decide +kernel
theorem dL_law_236 : decode cL_law 236 = .ok (.iload 4, 2) := by decide +kernel
theorem dL_law_238 : decode cL_law 238 = .ok (.iconst 1, 1) := by decide +kernel
theorem dL_law_239 : decode cL_law 239 = .ok (.iadd, 1) := by decide +kernel
theorem dL_law_240 : decode cL_law 240 = .ok (.iaload, 1) := by decide +kernel
theorem dL_law_241 : decode cL_law 241 = .ok (.aload_n 0, 1) := by decide +kernel
theorem dL_law_242 : decode cL_law 242 = .ok (.iload 4, 2) := by decide +kernel
theorem dL_law_244 : decode cL_law 244 = .ok (.iconst 2, 1) := by decide +kernel
theorem dL_law_245 : decode cL_law 245 = .ok (.iadd, 1) := by decide +kernel
theorem dL_law_246 : decode cL_law 246 = .ok (.iaload, 1) := by decide +kernel
theorem dL_law_247 : decode cL_law 247 = .ok (.aload_n 0, 1) := by decide +kernel
theorem dL_law_248 : decode cL_law 248 = .ok (.iload 4, 2) := by decide +kernel
theorem dL_law_250 : decode cL_law 250 = .ok (.iconst 3, 1) := by decide +kernel
theorem dL_law_251 : decode cL_law 251 = .ok (.iadd, 1) := by decide +kernel
theorem dL_law_252 : decode cL_law 252 = .ok (.iaload, 1) := by decide +kernel
theorem dL_law_253 : decode cL_law 253 = .ok (.aload_n 0, 1) := by decide +kernel
theorem dL_law_254 : decode cL_law 254 = .ok (.iload 4, 2) := by decide +kernel
theorem dL_law_256 : decode cL_law 256 = .ok (.iconst 4, 1) := by decide +kernel
theorem dL_law_257 : decode cL_law 257 = .ok (.iadd, 1) := by decide +kernel
theorem dL_law_258 : decode cL_law 258 = .ok (.iaload, 1) := by decide +kernel
theorem dL_law_259 : decode cL_law 259 = .ok (.aload_n 0, 1) := by decide +kernel
theorem dL_law_260 : decode cL_law 260 = .ok (.iload 4, 2) := by decide +kernel
theorem dL_law_262 : decode cL_law 262 = .ok (.iconst 5, 1) := by decide +kernel
theorem dL_law_263 : decode cL_law 263 = .ok (.iadd, 1) := by decide +kernel
theorem dL_law_264 : decode cL_law 264 = .ok (.iaload, 1) := by decide +kernel
theorem dL_law_265 : decode cL_law 265 = .ok (.invokevirtual 23, 3) := by decide +kernel
theorem dL_law_268 : decode cL_law 268 = .ok (.if_icmp .eq 1271, 3) := by decide +kernel
theorem dL_law_271 : decode cL_law 271 = .ok (.iconst 0, 1) := by decide +kernel
theorem dL_law_272 : decode cL_law 272 = .ok (.ireturn, 1) := by decide +kernel
theorem dL_law_273 : decode cL_law 273 = .ok (.aload_n 1, 1) := by decide +kernel
theorem dL_law_274 : decode cL_law 274 = .ok (.aload_n 0, 1) := by decide +kernel
theorem dL_law_275 : decode cL_law 275 = .ok (.iload 4, 2) := by decide +kernel
theorem dL_law_277 : decode cL_law 277 = .ok (.iconst 1, 1) := by decide +kernel
theorem dL_law_278 : decode cL_law 278 = .ok (.iadd, 1) := by decide +kernel
theorem dL_law_279 : decode cL_law 279 = .ok (.iaload, 1) := by decide +kernel
theorem dL_law_280 : decode cL_law 280 = .ok (.invokevirtual 24, 3) := by decide +kernel
theorem dL_law_283 : decode cL_law 283 = .ok (.aload_n 2, 1) := by decide +kernel
theorem dL_law_284 : decode cL_law 284 = .ok (.aload_n 0, 1) := by decide +kernel
theorem dL_law_285 : decode cL_law 285 = .ok (.iload 4, 2) := by decide +kernel
theorem dL_law_287 : decode cL_law 287 = .ok (.iconst 1, 1) := by decide +kernel
theorem dL_law_288 : decode cL_law 288 = .ok (.iadd, 1) := by decide +kernel
theorem dL_law_289 : decode cL_law 289 = .ok (.iaload, 1) := by decide +kernel
theorem dL_law_290 : decode cL_law 290 = .ok (.invokevirtual 28, 3) := by decide +kernel
theorem dL_law_293 : decode cL_law 293 = .ok (.if_icmp .eq 1246, 3) := by decide +kernel
theorem dL_law_296 : decode cL_law 296 = .ok (.iconst 0, 1) := by decide +kernel
theorem dL_law_297 : decode cL_law 297 = .ok (.ireturn, 1) := by decide +kernel
theorem dL_law_298 : decode cL_law 298 = .ok (.aload_n 1, 1) := by decide +kernel
theorem dL_law_299 : decode cL_law 299 = .ok (.invokevirtual 29, 3) := by decide +kernel
theorem dL_law_302 : decode cL_law 302 = .ok (.aload_n 2, 1) := by decide +kernel
theorem dL_law_303 : decode cL_law 303 = .ok (.invokevirtual 33, 3) := by decide +kernel
theorem dL_law_306 : decode cL_law 306 = .ok (.if_icmp .eq 1233, 3) := by decide +kernel
theorem dL_law_309 : decode cL_law 309 = .ok (.iconst 0, 1) := by decide +kernel
theorem dL_law_310 : decode cL_law 310 = .ok (.ireturn, 1) := by decide +kernel
theorem dL_law_311 : decode cL_law 311 = .ok (.aload_n 1, 1) := by decide +kernel
theorem dL_law_312 : decode cL_law 312 = .ok (.invokevirtual 34, 3) := by decide +kernel
theorem dL_law_315 : decode cL_law 315 = .ok (.aload_n 2, 1) := by decide +kernel
theorem dL_law_316 : decode cL_law 316 = .ok (.invokevirtual 37, 3) := by decide +kernel
theorem dL_law_319 : decode cL_law 319 = .ok (.if_icmp .eq 1220, 3) := by decide +kernel
theorem dL_law_322 : decode cL_law 322 = .ok (.iconst 0, 1) := by decide +kernel
theorem dL_law_323 : decode cL_law 323 = .ok (.ireturn, 1) := by decide +kernel
theorem dL_law_324 : decode cL_law 324 = .ok (.aload_n 1, 1) := by decide +kernel
theorem dL_law_325 : decode cL_law 325 = .ok (.aload_n 0, 1) := by decide +kernel
theorem dL_law_326 : decode cL_law 326 = .ok (.iload 4, 2) := by decide +kernel
theorem dL_law_328 : decode cL_law 328 = .ok (.iconst 1, 1) := by decide +kernel
theorem dL_law_329 : decode cL_law 329 = .ok (.iadd, 1) := by decide +kernel
theorem dL_law_330 : decode cL_law 330 = .ok (.iaload, 1) := by decide +kernel
theorem dL_law_331 : decode cL_law 331 = .ok (.invokevirtual 38, 3) := by decide +kernel
theorem dL_law_334 : decode cL_law 334 = .ok (.aload_n 2, 1) := by decide +kernel
theorem dL_law_335 : decode cL_law 335 = .ok (.aload_n 0, 1) := by decide +kernel
theorem dL_law_336 : decode cL_law 336 = .ok (.iload 4, 2) := by decide +kernel
theorem dL_law_338 : decode cL_law 338 = .ok (.iconst 1, 1) := by decide +kernel
theorem dL_law_339 : decode cL_law 339 = .ok (.iadd, 1) := by decide +kernel
theorem dL_law_340 : decode cL_law 340 = .ok (.iaload, 1) := by decide +kernel
theorem dL_law_341 : decode cL_law 341 = .ok (.invokevirtual 41, 3) := by decide +kernel
theorem dL_law_344 : decode cL_law 344 = .ok (.if_icmp .eq 1195, 3) := by decide +kernel
theorem dL_law_347 : decode cL_law 347 = .ok (.iconst 0, 1) := by decide +kernel
theorem dL_law_348 : decode cL_law 348 = .ok (.ireturn, 1) := by decide +kernel
theorem dL_law_349 : decode cL_law 349 = .ok (.aload_n 1, 1) := by decide +kernel
theorem dL_law_350 : decode cL_law 350 = .ok (.aload_n 0, 1) := by decide +kernel
theorem dL_law_351 : decode cL_law 351 = .ok (.iload 4, 2) := by decide +kernel
theorem dL_law_353 : decode cL_law 353 = .ok (.iconst 1, 1) := by decide +kernel
theorem dL_law_354 : decode cL_law 354 = .ok (.iadd, 1) := by decide +kernel
theorem dL_law_355 : decode cL_law 355 = .ok (.iaload, 1) := by decide +kernel
theorem dL_law_356 : decode cL_law 356 = .ok (.aload_n 0, 1) := by decide +kernel
theorem dL_law_357 : decode cL_law 357 = .ok (.iload 4, 2) := by decide +kernel
theorem dL_law_359 : decode cL_law 359 = .ok (.iconst 2, 1) := by decide +kernel
theorem dL_law_360 : decode cL_law 360 = .ok (.iadd, 1) := by decide +kernel
theorem dL_law_361 : decode cL_law 361 = .ok (.iaload, 1) := by decide +kernel
theorem dL_law_362 : decode cL_law 362 = .ok (.invokevirtual 42, 3) := by decide +kernel
theorem dL_law_365 : decode cL_law 365 = .ok (.aload_n 2, 1) := by decide +kernel
theorem dL_law_366 : decode cL_law 366 = .ok (.aload_n 0, 1) := by decide +kernel
theorem dL_law_367 : decode cL_law 367 = .ok (.iload 4, 2) := by decide +kernel
theorem dL_law_369 : decode cL_law 369 = .ok (.iconst 1, 1) := by decide +kernel
theorem dL_law_370 : decode cL_law 370 = .ok (.iadd, 1) := by decide +kernel
theorem dL_law_371 : decode cL_law 371 = .ok (.iaload, 1) := by decide +kernel
theorem dL_law_372 : decode cL_law 372 = .ok (.aload_n 0, 1) := by decide +kernel
theorem dL_law_373 : decode cL_law 373 = .ok (.iload 4, 2) := by decide +kernel
theorem dL_law_375 : decode cL_law 375 = .ok (.iconst 2, 1) := by decide +kernel
theorem dL_law_376 : decode cL_law 376 = .ok (.iadd, 1) := by decide +kernel
theorem dL_law_377 : decode cL_law 377 = .ok (.iaload, 1) := by decide +kernel
theorem dL_law_378 : decode cL_law 378 = .ok (.invokevirtual 46, 3) := by decide +kernel
theorem dL_law_381 : decode cL_law 381 = .ok (.if_icmp .eq 1158, 3) := by decide +kernel
theorem dL_law_384 : decode cL_law 384 = .ok (.iconst 0, 1) := by decide +kernel
theorem dL_law_385 : decode cL_law 385 = .ok (.ireturn, 1) := by decide +kernel
theorem dL_law_386 : decode cL_law 386 = .ok (.aload_n 1, 1) := by decide +kernel
theorem dL_law_387 : decode cL_law 387 = .ok (.aload_n 0, 1) := by decide +kernel
theorem dL_law_388 : decode cL_law 388 = .ok (.iload 4, 2) := by decide +kernel
theorem dL_law_390 : decode cL_law 390 = .ok (.iconst 1, 1) := by decide +kernel
theorem dL_law_391 : decode cL_law 391 = .ok (.iadd, 1) := by decide +kernel
theorem dL_law_392 : decode cL_law 392 = .ok (.iaload, 1) := by decide +kernel
theorem dL_law_393 : decode cL_law 393 = .ok (.aload_n 0, 1) := by decide +kernel
theorem dL_law_394 : decode cL_law 394 = .ok (.iload 4, 2) := by decide +kernel
theorem dL_law_396 : decode cL_law 396 = .ok (.iconst 2, 1) := by decide +kernel
theorem dL_law_397 : decode cL_law 397 = .ok (.iadd, 1) := by decide +kernel
theorem dL_law_398 : decode cL_law 398 = .ok (.iaload, 1) := by decide +kernel
theorem dL_law_399 : decode cL_law 399 = .ok (.invokevirtual 47, 3) := by decide +kernel
theorem dL_law_402 : decode cL_law 402 = .ok (.aload_n 2, 1) := by decide +kernel
theorem dL_law_403 : decode cL_law 403 = .ok (.aload_n 0, 1) := by decide +kernel
theorem dL_law_404 : decode cL_law 404 = .ok (.iload 4, 2) := by decide +kernel
theorem dL_law_406 : decode cL_law 406 = .ok (.iconst 1, 1) := by decide +kernel
theorem dL_law_407 : decode cL_law 407 = .ok (.iadd, 1) := by decide +kernel
theorem dL_law_408 : decode cL_law 408 = .ok (.iaload, 1) := by decide +kernel
theorem dL_law_409 : decode cL_law 409 = .ok (.aload_n 0, 1) := by decide +kernel
theorem dL_law_410 : decode cL_law 410 = .ok (.iload 4, 2) := by decide +kernel
theorem dL_law_412 : decode cL_law 412 = .ok (.iconst 2, 1) := by decide +kernel
theorem dL_law_413 : decode cL_law 413 = .ok (.iadd, 1) := by decide +kernel
theorem dL_law_414 : decode cL_law 414 = .ok (.iaload, 1) := by decide +kernel
theorem dL_law_415 : decode cL_law 415 = .ok (.invokevirtual 50, 3) := by decide +kernel
theorem dL_law_418 : decode cL_law 418 = .ok (.if_icmp .eq 1121, 3) := by decide +kernel
theorem dL_law_421 : decode cL_law 421 = .ok (.iconst 0, 1) := by decide +kernel
theorem dL_law_422 : decode cL_law 422 = .ok (.ireturn, 1) := by decide +kernel
theorem dL_law_423 : decode cL_law 423 = .ok (.aload_n 1, 1) := by decide +kernel
theorem dL_law_424 : decode cL_law 424 = .ok (.aload_n 0, 1) := by decide +kernel
theorem dL_law_425 : decode cL_law 425 = .ok (.iload 4, 2) := by decide +kernel
theorem dL_law_427 : decode cL_law 427 = .ok (.iconst 1, 1) := by decide +kernel
theorem dL_law_428 : decode cL_law 428 = .ok (.iadd, 1) := by decide +kernel
theorem dL_law_429 : decode cL_law 429 = .ok (.iaload, 1) := by decide +kernel
theorem dL_law_430 : decode cL_law 430 = .ok (.aload_n 0, 1) := by decide +kernel
theorem dL_law_431 : decode cL_law 431 = .ok (.iload 4, 2) := by decide +kernel
theorem dL_law_433 : decode cL_law 433 = .ok (.iconst 2, 1) := by decide +kernel
theorem dL_law_434 : decode cL_law 434 = .ok (.iadd, 1) := by decide +kernel
theorem dL_law_435 : decode cL_law 435 = .ok (.iaload, 1) := by decide +kernel
theorem dL_law_436 : decode cL_law 436 = .ok (.invokevirtual 51, 3) := by decide +kernel
theorem dL_law_439 : decode cL_law 439 = .ok (.aload_n 2, 1) := by decide +kernel
theorem dL_law_440 : decode cL_law 440 = .ok (.aload_n 0, 1) := by decide +kernel
theorem dL_law_441 : decode cL_law 441 = .ok (.iload 4, 2) := by decide +kernel
theorem dL_law_443 : decode cL_law 443 = .ok (.iconst 1, 1) := by decide +kernel
theorem dL_law_444 : decode cL_law 444 = .ok (.iadd, 1) := by decide +kernel
theorem dL_law_445 : decode cL_law 445 = .ok (.iaload, 1) := by decide +kernel
theorem dL_law_446 : decode cL_law 446 = .ok (.aload_n 0, 1) := by decide +kernel
theorem dL_law_447 : decode cL_law 447 = .ok (.iload 4, 2) := by decide +kernel
theorem dL_law_449 : decode cL_law 449 = .ok (.iconst 2, 1) := by decide +kernel
theorem dL_law_450 : decode cL_law 450 = .ok (.iadd, 1) := by decide +kernel
theorem dL_law_451 : decode cL_law 451 = .ok (.iaload, 1) := by decide +kernel
theorem dL_law_452 : decode cL_law 452 = .ok (.invokevirtual 54, 3) := by decide +kernel
theorem dL_law_455 : decode cL_law 455 = .ok (.if_icmp .eq 1084, 3) := by decide +kernel
theorem dL_law_458 : decode cL_law 458 = .ok (.iconst 0, 1) := by decide +kernel
theorem dL_law_459 : decode cL_law 459 = .ok (.ireturn, 1) := by decide +kernel
theorem dL_law_460 : decode cL_law 460 = .ok (.aload_n 1, 1) := by decide +kernel
theorem dL_law_461 : decode cL_law 461 = .ok (.aload_n 0, 1) := by decide +kernel
theorem dL_law_462 : decode cL_law 462 = .ok (.iload 4, 2) := by decide +kernel
theorem dL_law_464 : decode cL_law 464 = .ok (.iconst 1, 1) := by decide +kernel
theorem dL_law_465 : decode cL_law 465 = .ok (.iadd, 1) := by decide +kernel
theorem dL_law_466 : decode cL_law 466 = .ok (.iaload, 1) := by decide +kernel
theorem dL_law_467 : decode cL_law 467 = .ok (.invokevirtual 55, 3) := by decide +kernel
theorem dL_law_470 : decode cL_law 470 = .ok (.aload_n 2, 1) := by decide +kernel
theorem dL_law_471 : decode cL_law 471 = .ok (.aload_n 0, 1) := by decide +kernel
theorem dL_law_472 : decode cL_law 472 = .ok (.iload 4, 2) := by decide +kernel
theorem dL_law_474 : decode cL_law 474 = .ok (.iconst 1, 1) := by decide +kernel
theorem dL_law_475 : decode cL_law 475 = .ok (.iadd, 1) := by decide +kernel
theorem dL_law_476 : decode cL_law 476 = .ok (.iaload, 1) := by decide +kernel
theorem dL_law_477 : decode cL_law 477 = .ok (.invokevirtual 59, 3) := by decide +kernel
theorem dL_law_480 : decode cL_law 480 = .ok (.if_icmp .eq 1059, 3) := by decide +kernel
theorem dL_law_483 : decode cL_law 483 = .ok (.iconst 0, 1) := by decide +kernel
theorem dL_law_484 : decode cL_law 484 = .ok (.ireturn, 1) := by decide +kernel
theorem dL_law_485 : decode cL_law 485 = .ok (.aload_n 1, 1) := by decide +kernel
theorem dL_law_486 : decode cL_law 486 = .ok (.aload_n 0, 1) := by decide +kernel
theorem dL_law_487 : decode cL_law 487 = .ok (.iload 4, 2) := by decide +kernel
theorem dL_law_489 : decode cL_law 489 = .ok (.iconst 1, 1) := by decide +kernel
theorem dL_law_490 : decode cL_law 490 = .ok (.iadd, 1) := by decide +kernel
theorem dL_law_491 : decode cL_law 491 = .ok (.iaload, 1) := by decide +kernel
theorem dL_law_492 : decode cL_law 492 = .ok (.aload_n 0, 1) := by decide +kernel
theorem dL_law_493 : decode cL_law 493 = .ok (.iload 4, 2) := by decide +kernel
theorem dL_law_495 : decode cL_law 495 = .ok (.iconst 2, 1) := by decide +kernel
theorem dL_law_496 : decode cL_law 496 = .ok (.iadd, 1) := by decide +kernel
theorem dL_law_497 : decode cL_law 497 = .ok (.iaload, 1) := by decide +kernel
theorem dL_law_498 : decode cL_law 498 = .ok (.invokevirtual 60, 3) := by decide +kernel
theorem dL_law_501 : decode cL_law 501 = .ok (.aload_n 2, 1) := by decide +kernel
theorem dL_law_502 : decode cL_law 502 = .ok (.aload_n 0, 1) := by decide +kernel
theorem dL_law_503 : decode cL_law 503 = .ok (.iload 4, 2) := by decide +kernel
theorem dL_law_505 : decode cL_law 505 = .ok (.iconst 1, 1) := by decide +kernel
theorem dL_law_506 : decode cL_law 506 = .ok (.iadd, 1) := by decide +kernel
theorem dL_law_507 : decode cL_law 507 = .ok (.iaload, 1) := by decide +kernel
theorem dL_law_508 : decode cL_law 508 = .ok (.aload_n 0, 1) := by decide +kernel
theorem dL_law_509 : decode cL_law 509 = .ok (.iload 4, 2) := by decide +kernel
theorem dL_law_511 : decode cL_law 511 = .ok (.iconst 2, 1) := by decide +kernel
theorem dL_law_512 : decode cL_law 512 = .ok (.iadd, 1) := by decide +kernel
theorem dL_law_513 : decode cL_law 513 = .ok (.iaload, 1) := by decide +kernel
theorem dL_law_514 : decode cL_law 514 = .ok (.invokevirtual 64, 3) := by decide +kernel
theorem dL_law_517 : decode cL_law 517 = .ok (.if_icmp .eq 1022, 3) := by decide +kernel
theorem dL_law_520 : decode cL_law 520 = .ok (.iconst 0, 1) := by decide +kernel
theorem dL_law_521 : decode cL_law 521 = .ok (.ireturn, 1) := by decide +kernel
theorem dL_law_522 : decode cL_law 522 = .ok (.aload_n 1, 1) := by decide +kernel
theorem dL_law_523 : decode cL_law 523 = .ok (.aload_n 0, 1) := by decide +kernel
theorem dL_law_524 : decode cL_law 524 = .ok (.iload 4, 2) := by decide +kernel
theorem dL_law_526 : decode cL_law 526 = .ok (.iconst 1, 1) := by decide +kernel
theorem dL_law_527 : decode cL_law 527 = .ok (.iadd, 1) := by decide +kernel
theorem dL_law_528 : decode cL_law 528 = .ok (.iaload, 1) := by decide +kernel
theorem dL_law_529 : decode cL_law 529 = .ok (.invokevirtual 65, 3) := by decide +kernel
theorem dL_law_532 : decode cL_law 532 = .ok (.aload_n 2, 1) := by decide +kernel
theorem dL_law_533 : decode cL_law 533 = .ok (.aload_n 0, 1) := by decide +kernel
theorem dL_law_534 : decode cL_law 534 = .ok (.iload 4, 2) := by decide +kernel
theorem dL_law_536 : decode cL_law 536 = .ok (.iconst 1, 1) := by decide +kernel
theorem dL_law_537 : decode cL_law 537 = .ok (.iadd, 1) := by decide +kernel
theorem dL_law_538 : decode cL_law 538 = .ok (.iaload, 1) := by decide +kernel
theorem dL_law_539 : decode cL_law 539 = .ok (.invokevirtual 68, 3) := by decide +kernel
theorem dL_law_542 : decode cL_law 542 = .ok (.if_icmp .eq 997, 3) := by decide +kernel
theorem dL_law_545 : decode cL_law 545 = .ok (.iconst 0, 1) := by decide +kernel
theorem dL_law_546 : decode cL_law 546 = .ok (.ireturn, 1) := by decide +kernel
theorem dL_law_547 : decode cL_law 547 = .ok (.aload_n 1, 1) := by decide +kernel
theorem dL_law_548 : decode cL_law 548 = .ok (.aload_n 0, 1) := by decide +kernel
theorem dL_law_549 : decode cL_law 549 = .ok (.iload 4, 2) := by decide +kernel
theorem dL_law_551 : decode cL_law 551 = .ok (.iconst 1, 1) := by decide +kernel
theorem dL_law_552 : decode cL_law 552 = .ok (.iadd, 1) := by decide +kernel
theorem dL_law_553 : decode cL_law 553 = .ok (.iaload, 1) := by decide +kernel
theorem dL_law_554 : decode cL_law 554 = .ok (.invokevirtual 69, 3) := by decide +kernel
theorem dL_law_557 : decode cL_law 557 = .ok (.aload_n 2, 1) := by decide +kernel
theorem dL_law_558 : decode cL_law 558 = .ok (.aload_n 0, 1) := by decide +kernel
theorem dL_law_559 : decode cL_law 559 = .ok (.iload 4, 2) := by decide +kernel
theorem dL_law_561 : decode cL_law 561 = .ok (.iconst 1, 1) := by decide +kernel
theorem dL_law_562 : decode cL_law 562 = .ok (.iadd, 1) := by decide +kernel
theorem dL_law_563 : decode cL_law 563 = .ok (.iaload, 1) := by decide +kernel
theorem dL_law_564 : decode cL_law 564 = .ok (.invokevirtual 72, 3) := by decide +kernel
theorem dL_law_567 : decode cL_law 567 = .ok (.if_icmp .eq 972, 3) := by decide +kernel
theorem dL_law_570 : decode cL_law 570 = .ok (.iconst 0, 1) := by decide +kernel
theorem dL_law_571 : decode cL_law 571 = .ok (.ireturn, 1) := by decide +kernel
theorem dL_law_572 : decode cL_law 572 = .ok (.aload_n 1, 1) := by decide +kernel
theorem dL_law_573 : decode cL_law 573 = .ok (.aload_n 0, 1) := by decide +kernel
theorem dL_law_574 : decode cL_law 574 = .ok (.iload 4, 2) := by decide +kernel
theorem dL_law_576 : decode cL_law 576 = .ok (.iconst 1, 1) := by decide +kernel
theorem dL_law_577 : decode cL_law 577 = .ok (.iadd, 1) := by decide +kernel
theorem dL_law_578 : decode cL_law 578 = .ok (.iaload, 1) := by decide +kernel
theorem dL_law_579 : decode cL_law 579 = .ok (.invokevirtual 73, 3) := by decide +kernel
theorem dL_law_582 : decode cL_law 582 = .ok (.aload_n 2, 1) := by decide +kernel
theorem dL_law_583 : decode cL_law 583 = .ok (.aload_n 0, 1) := by decide +kernel
theorem dL_law_584 : decode cL_law 584 = .ok (.iload 4, 2) := by decide +kernel
theorem dL_law_586 : decode cL_law 586 = .ok (.iconst 1, 1) := by decide +kernel
theorem dL_law_587 : decode cL_law 587 = .ok (.iadd, 1) := by decide +kernel
theorem dL_law_588 : decode cL_law 588 = .ok (.iaload, 1) := by decide +kernel
theorem dL_law_589 : decode cL_law 589 = .ok (.invokevirtual 76, 3) := by decide +kernel
theorem dL_law_592 : decode cL_law 592 = .ok (.if_icmp .eq 947, 3) := by decide +kernel
theorem dL_law_595 : decode cL_law 595 = .ok (.iconst 0, 1) := by decide +kernel
theorem dL_law_596 : decode cL_law 596 = .ok (.ireturn, 1) := by decide +kernel
theorem dL_law_597 : decode cL_law 597 = .ok (.aload_n 1, 1) := by decide +kernel
theorem dL_law_598 : decode cL_law 598 = .ok (.aload_n 0, 1) := by decide +kernel
theorem dL_law_599 : decode cL_law 599 = .ok (.iload 4, 2) := by decide +kernel
theorem dL_law_601 : decode cL_law 601 = .ok (.iconst 1, 1) := by decide +kernel
theorem dL_law_602 : decode cL_law 602 = .ok (.iadd, 1) := by decide +kernel
theorem dL_law_603 : decode cL_law 603 = .ok (.iaload, 1) := by decide +kernel
theorem dL_law_604 : decode cL_law 604 = .ok (.invokevirtual 77, 3) := by decide +kernel
theorem dL_law_607 : decode cL_law 607 = .ok (.aload_n 2, 1) := by decide +kernel
theorem dL_law_608 : decode cL_law 608 = .ok (.aload_n 0, 1) := by decide +kernel
theorem dL_law_609 : decode cL_law 609 = .ok (.iload 4, 2) := by decide +kernel
theorem dL_law_611 : decode cL_law 611 = .ok (.iconst 1, 1) := by decide +kernel
theorem dL_law_612 : decode cL_law 612 = .ok (.iadd, 1) := by decide +kernel
theorem dL_law_613 : decode cL_law 613 = .ok (.iaload, 1) := by decide +kernel
theorem dL_law_614 : decode cL_law 614 = .ok (.invokevirtual 80, 3) := by decide +kernel
theorem dL_law_617 : decode cL_law 617 = .ok (.if_icmp .eq 922, 3) := by decide +kernel
theorem dL_law_620 : decode cL_law 620 = .ok (.iconst 0, 1) := by decide +kernel
theorem dL_law_621 : decode cL_law 621 = .ok (.ireturn, 1) := by decide +kernel
theorem dL_law_622 : decode cL_law 622 = .ok (.aload_n 1, 1) := by decide +kernel
theorem dL_law_623 : decode cL_law 623 = .ok (.aload_n 0, 1) := by decide +kernel
theorem dL_law_624 : decode cL_law 624 = .ok (.iload 4, 2) := by decide +kernel
theorem dL_law_626 : decode cL_law 626 = .ok (.iconst 1, 1) := by decide +kernel
theorem dL_law_627 : decode cL_law 627 = .ok (.iadd, 1) := by decide +kernel
theorem dL_law_628 : decode cL_law 628 = .ok (.iaload, 1) := by decide +kernel
theorem dL_law_629 : decode cL_law 629 = .ok (.invokevirtual 81, 3) := by decide +kernel
theorem dL_law_632 : decode cL_law 632 = .ok (.aload_n 2, 1) := by decide +kernel
theorem dL_law_633 : decode cL_law 633 = .ok (.aload_n 0, 1) := by decide +kernel
theorem dL_law_634 : decode cL_law 634 = .ok (.iload 4, 2) := by decide +kernel
theorem dL_law_636 : decode cL_law 636 = .ok (.iconst 1, 1) := by decide +kernel
theorem dL_law_637 : decode cL_law 637 = .ok (.iadd, 1) := by decide +kernel
theorem dL_law_638 : decode cL_law 638 = .ok (.iaload, 1) := by decide +kernel
theorem dL_law_639 : decode cL_law 639 = .ok (.invokevirtual 84, 3) := by decide +kernel
theorem dL_law_642 : decode cL_law 642 = .ok (.if_icmp .eq 897, 3) := by decide +kernel
theorem dL_law_645 : decode cL_law 645 = .ok (.iconst 0, 1) := by decide +kernel
theorem dL_law_646 : decode cL_law 646 = .ok (.ireturn, 1) := by decide +kernel
theorem dL_law_647 : decode cL_law 647 = .ok (.aload_n 1, 1) := by decide +kernel
theorem dL_law_648 : decode cL_law 648 = .ok (.aload_n 0, 1) := by decide +kernel
theorem dL_law_649 : decode cL_law 649 = .ok (.iload 4, 2) := by decide +kernel
theorem dL_law_651 : decode cL_law 651 = .ok (.iconst 1, 1) := by decide +kernel
theorem dL_law_652 : decode cL_law 652 = .ok (.iadd, 1) := by decide +kernel
theorem dL_law_653 : decode cL_law 653 = .ok (.iaload, 1) := by decide +kernel
theorem dL_law_654 : decode cL_law 654 = .ok (.aload_n 0, 1) := by decide +kernel
theorem dL_law_655 : decode cL_law 655 = .ok (.iload 4, 2) := by decide +kernel
theorem dL_law_657 : decode cL_law 657 = .ok (.iconst 2, 1) := by decide +kernel
theorem dL_law_658 : decode cL_law 658 = .ok (.iadd, 1) := by decide +kernel
theorem dL_law_659 : decode cL_law 659 = .ok (.iaload, 1) := by decide +kernel
theorem dL_law_660 : decode cL_law 660 = .ok (.aload_n 0, 1) := by decide +kernel
theorem dL_law_661 : decode cL_law 661 = .ok (.iload 4, 2) := by decide +kernel
theorem dL_law_663 : decode cL_law 663 = .ok (.iconst 3, 1) := by decide +kernel
theorem dL_law_664 : decode cL_law 664 = .ok (.iadd, 1) := by decide +kernel
theorem dL_law_665 : decode cL_law 665 = .ok (.iaload, 1) := by decide +kernel
theorem dL_law_666 : decode cL_law 666 = .ok (.invokevirtual 85, 3) := by decide +kernel
theorem dL_law_669 : decode cL_law 669 = .ok (.aload_n 2, 1) := by decide +kernel
theorem dL_law_670 : decode cL_law 670 = .ok (.aload_n 0, 1) := by decide +kernel
theorem dL_law_671 : decode cL_law 671 = .ok (.iload 4, 2) := by decide +kernel
theorem dL_law_673 : decode cL_law 673 = .ok (.iconst 1, 1) := by decide +kernel
theorem dL_law_674 : decode cL_law 674 = .ok (.iadd, 1) := by decide +kernel
theorem dL_law_675 : decode cL_law 675 = .ok (.iaload, 1) := by decide +kernel
theorem dL_law_676 : decode cL_law 676 = .ok (.aload_n 0, 1) := by decide +kernel
theorem dL_law_677 : decode cL_law 677 = .ok (.iload 4, 2) := by decide +kernel
theorem dL_law_679 : decode cL_law 679 = .ok (.iconst 2, 1) := by decide +kernel
theorem dL_law_680 : decode cL_law 680 = .ok (.iadd, 1) := by decide +kernel
theorem dL_law_681 : decode cL_law 681 = .ok (.iaload, 1) := by decide +kernel
theorem dL_law_682 : decode cL_law 682 = .ok (.aload_n 0, 1) := by decide +kernel
theorem dL_law_683 : decode cL_law 683 = .ok (.iload 4, 2) := by decide +kernel
theorem dL_law_685 : decode cL_law 685 = .ok (.iconst 3, 1) := by decide +kernel
theorem dL_law_686 : decode cL_law 686 = .ok (.iadd, 1) := by decide +kernel
theorem dL_law_687 : decode cL_law 687 = .ok (.iaload, 1) := by decide +kernel
theorem dL_law_688 : decode cL_law 688 = .ok (.invokevirtual 88, 3) := by decide +kernel
theorem dL_law_691 : decode cL_law 691 = .ok (.if_icmp .eq 848, 3) := by decide +kernel
theorem dL_law_694 : decode cL_law 694 = .ok (.iconst 0, 1) := by decide +kernel
theorem dL_law_695 : decode cL_law 695 = .ok (.ireturn, 1) := by decide +kernel
theorem dL_law_696 : decode cL_law 696 = .ok (.aload_n 1, 1) := by decide +kernel
theorem dL_law_697 : decode cL_law 697 = .ok (.aload_n 0, 1) := by decide +kernel
theorem dL_law_698 : decode cL_law 698 = .ok (.iload 4, 2) := by decide +kernel
theorem dL_law_700 : decode cL_law 700 = .ok (.iconst 1, 1) := by decide +kernel
theorem dL_law_701 : decode cL_law 701 = .ok (.iadd, 1) := by decide +kernel
theorem dL_law_702 : decode cL_law 702 = .ok (.iaload, 1) := by decide +kernel
theorem dL_law_703 : decode cL_law 703 = .ok (.aload_n 0, 1) := by decide +kernel
theorem dL_law_704 : decode cL_law 704 = .ok (.iload 4, 2) := by decide +kernel
theorem dL_law_706 : decode cL_law 706 = .ok (.iconst 2, 1) := by decide +kernel
theorem dL_law_707 : decode cL_law 707 = .ok (.iadd, 1) := by decide +kernel
theorem dL_law_708 : decode cL_law 708 = .ok (.iaload, 1) := by decide +kernel
theorem dL_law_709 : decode cL_law 709 = .ok (.invokevirtual 89, 3) := by decide +kernel
theorem dL_law_712 : decode cL_law 712 = .ok (.aload_n 2, 1) := by decide +kernel
theorem dL_law_713 : decode cL_law 713 = .ok (.aload_n 0, 1) := by decide +kernel
theorem dL_law_714 : decode cL_law 714 = .ok (.iload 4, 2) := by decide +kernel
theorem dL_law_716 : decode cL_law 716 = .ok (.iconst 1, 1) := by decide +kernel
theorem dL_law_717 : decode cL_law 717 = .ok (.iadd, 1) := by decide +kernel
theorem dL_law_718 : decode cL_law 718 = .ok (.iaload, 1) := by decide +kernel
theorem dL_law_719 : decode cL_law 719 = .ok (.aload_n 0, 1) := by decide +kernel
theorem dL_law_720 : decode cL_law 720 = .ok (.iload 4, 2) := by decide +kernel
theorem dL_law_722 : decode cL_law 722 = .ok (.iconst 2, 1) := by decide +kernel
theorem dL_law_723 : decode cL_law 723 = .ok (.iadd, 1) := by decide +kernel
theorem dL_law_724 : decode cL_law 724 = .ok (.iaload, 1) := by decide +kernel
theorem dL_law_725 : decode cL_law 725 = .ok (.invokevirtual 92, 3) := by decide +kernel
theorem dL_law_728 : decode cL_law 728 = .ok (.if_icmp .eq 811, 3) := by decide +kernel
theorem dL_law_731 : decode cL_law 731 = .ok (.iconst 0, 1) := by decide +kernel
theorem dL_law_732 : decode cL_law 732 = .ok (.ireturn, 1) := by decide +kernel
theorem dL_law_733 : decode cL_law 733 = .ok (.aload_n 1, 1) := by decide +kernel
theorem dL_law_734 : decode cL_law 734 = .ok (.aload_n 0, 1) := by decide +kernel
theorem dL_law_735 : decode cL_law 735 = .ok (.iload 4, 2) := by decide +kernel
theorem dL_law_737 : decode cL_law 737 = .ok (.iconst 1, 1) := by decide +kernel
theorem dL_law_738 : decode cL_law 738 = .ok (.iadd, 1) := by decide +kernel
theorem dL_law_739 : decode cL_law 739 = .ok (.iaload, 1) := by decide +kernel
theorem dL_law_740 : decode cL_law 740 = .ok (.aload_n 0, 1) := by decide +kernel
theorem dL_law_741 : decode cL_law 741 = .ok (.iload 4, 2) := by decide +kernel
theorem dL_law_743 : decode cL_law 743 = .ok (.iconst 2, 1) := by decide +kernel
theorem dL_law_744 : decode cL_law 744 = .ok (.iadd, 1) := by decide +kernel
theorem dL_law_745 : decode cL_law 745 = .ok (.iaload, 1) := by decide +kernel
theorem dL_law_746 : decode cL_law 746 = .ok (.aload_n 0, 1) := by decide +kernel
theorem dL_law_747 : decode cL_law 747 = .ok (.iload 4, 2) := by decide +kernel
theorem dL_law_749 : decode cL_law 749 = .ok (.iconst 3, 1) := by decide +kernel
theorem dL_law_750 : decode cL_law 750 = .ok (.iadd, 1) := by decide +kernel
theorem dL_law_751 : decode cL_law 751 = .ok (.iaload, 1) := by decide +kernel
theorem dL_law_752 : decode cL_law 752 = .ok (.invokevirtual 93, 3) := by decide +kernel
theorem dL_law_755 : decode cL_law 755 = .ok (.aload_n 2, 1) := by decide +kernel
theorem dL_law_756 : decode cL_law 756 = .ok (.aload_n 0, 1) := by decide +kernel
theorem dL_law_757 : decode cL_law 757 = .ok (.iload 4, 2) := by decide +kernel
theorem dL_law_759 : decode cL_law 759 = .ok (.iconst 1, 1) := by decide +kernel
theorem dL_law_760 : decode cL_law 760 = .ok (.iadd, 1) := by decide +kernel
theorem dL_law_761 : decode cL_law 761 = .ok (.iaload, 1) := by decide +kernel
theorem dL_law_762 : decode cL_law 762 = .ok (.aload_n 0, 1) := by decide +kernel
theorem dL_law_763 : decode cL_law 763 = .ok (.iload 4, 2) := by decide +kernel
theorem dL_law_765 : decode cL_law 765 = .ok (.iconst 2, 1) := by decide +kernel
theorem dL_law_766 : decode cL_law 766 = .ok (.iadd, 1) := by decide +kernel
theorem dL_law_767 : decode cL_law 767 = .ok (.iaload, 1) := by decide +kernel
theorem dL_law_768 : decode cL_law 768 = .ok (.aload_n 0, 1) := by decide +kernel
theorem dL_law_769 : decode cL_law 769 = .ok (.iload 4, 2) := by decide +kernel
theorem dL_law_771 : decode cL_law 771 = .ok (.iconst 3, 1) := by decide +kernel
theorem dL_law_772 : decode cL_law 772 = .ok (.iadd, 1) := by decide +kernel
theorem dL_law_773 : decode cL_law 773 = .ok (.iaload, 1) := by decide +kernel
theorem dL_law_774 : decode cL_law 774 = .ok (.invokevirtual 96, 3) := by decide +kernel
theorem dL_law_777 : decode cL_law 777 = .ok (.if_icmp .eq 762, 3) := by decide +kernel
theorem dL_law_780 : decode cL_law 780 = .ok (.iconst 0, 1) := by decide +kernel
theorem dL_law_781 : decode cL_law 781 = .ok (.ireturn, 1) := by decide +kernel
theorem dL_law_782 : decode cL_law 782 = .ok (.aload_n 1, 1) := by decide +kernel
theorem dL_law_783 : decode cL_law 783 = .ok (.aload_n 0, 1) := by decide +kernel
theorem dL_law_784 : decode cL_law 784 = .ok (.iload 4, 2) := by decide +kernel
theorem dL_law_786 : decode cL_law 786 = .ok (.iconst 1, 1) := by decide +kernel
theorem dL_law_787 : decode cL_law 787 = .ok (.iadd, 1) := by decide +kernel
theorem dL_law_788 : decode cL_law 788 = .ok (.iaload, 1) := by decide +kernel
theorem dL_law_789 : decode cL_law 789 = .ok (.aload_n 0, 1) := by decide +kernel
theorem dL_law_790 : decode cL_law 790 = .ok (.iload 4, 2) := by decide +kernel
theorem dL_law_792 : decode cL_law 792 = .ok (.iconst 2, 1) := by decide +kernel
theorem dL_law_793 : decode cL_law 793 = .ok (.iadd, 1) := by decide +kernel
theorem dL_law_794 : decode cL_law 794 = .ok (.iaload, 1) := by decide +kernel
theorem dL_law_795 : decode cL_law 795 = .ok (.aload_n 0, 1) := by decide +kernel
theorem dL_law_796 : decode cL_law 796 = .ok (.iload 4, 2) := by decide +kernel
theorem dL_law_798 : decode cL_law 798 = .ok (.iconst 3, 1) := by decide +kernel
theorem dL_law_799 : decode cL_law 799 = .ok (.iadd, 1) := by decide +kernel
theorem dL_law_800 : decode cL_law 800 = .ok (.iaload, 1) := by decide +kernel
theorem dL_law_801 : decode cL_law 801 = .ok (.invokevirtual 97, 3) := by decide +kernel
theorem dL_law_804 : decode cL_law 804 = .ok (.aload_n 2, 1) := by decide +kernel
theorem dL_law_805 : decode cL_law 805 = .ok (.aload_n 0, 1) := by decide +kernel
theorem dL_law_806 : decode cL_law 806 = .ok (.iload 4, 2) := by decide +kernel
theorem dL_law_808 : decode cL_law 808 = .ok (.iconst 1, 1) := by decide +kernel
theorem dL_law_809 : decode cL_law 809 = .ok (.iadd, 1) := by decide +kernel
theorem dL_law_810 : decode cL_law 810 = .ok (.iaload, 1) := by decide +kernel
theorem dL_law_811 : decode cL_law 811 = .ok (.aload_n 0, 1) := by decide +kernel
theorem dL_law_812 : decode cL_law 812 = .ok (.iload 4, 2) := by decide +kernel
theorem dL_law_814 : decode cL_law 814 = .ok (.iconst 2, 1) := by decide +kernel
theorem dL_law_815 : decode cL_law 815 = .ok (.iadd, 1) := by decide +kernel
theorem dL_law_816 : decode cL_law 816 = .ok (.iaload, 1) := by decide +kernel
theorem dL_law_817 : decode cL_law 817 = .ok (.aload_n 0, 1) := by decide +kernel
theorem dL_law_818 : decode cL_law 818 = .ok (.iload 4, 2) := by decide +kernel
theorem dL_law_820 : decode cL_law 820 = .ok (.iconst 3, 1) := by decide +kernel
theorem dL_law_821 : decode cL_law 821 = .ok (.iadd, 1) := by decide +kernel
theorem dL_law_822 : decode cL_law 822 = .ok (.iaload, 1) := by decide +kernel
theorem dL_law_823 : decode cL_law 823 = .ok (.invokevirtual 100, 3) := by decide +kernel
theorem dL_law_826 : decode cL_law 826 = .ok (.if_icmp .eq 713, 3) := by decide +kernel
theorem dL_law_829 : decode cL_law 829 = .ok (.iconst 0, 1) := by decide +kernel
theorem dL_law_830 : decode cL_law 830 = .ok (.ireturn, 1) := by decide +kernel
theorem dL_law_831 : decode cL_law 831 = .ok (.aload_n 1, 1) := by decide +kernel
theorem dL_law_832 : decode cL_law 832 = .ok (.aload_n 0, 1) := by decide +kernel
theorem dL_law_833 : decode cL_law 833 = .ok (.iload 4, 2) := by decide +kernel
theorem dL_law_835 : decode cL_law 835 = .ok (.iconst 1, 1) := by decide +kernel
theorem dL_law_836 : decode cL_law 836 = .ok (.iadd, 1) := by decide +kernel
theorem dL_law_837 : decode cL_law 837 = .ok (.iaload, 1) := by decide +kernel
theorem dL_law_838 : decode cL_law 838 = .ok (.aload_n 0, 1) := by decide +kernel
theorem dL_law_839 : decode cL_law 839 = .ok (.iload 4, 2) := by decide +kernel
theorem dL_law_841 : decode cL_law 841 = .ok (.iconst 2, 1) := by decide +kernel
theorem dL_law_842 : decode cL_law 842 = .ok (.iadd, 1) := by decide +kernel
theorem dL_law_843 : decode cL_law 843 = .ok (.iaload, 1) := by decide +kernel
theorem dL_law_844 : decode cL_law 844 = .ok (.aload_n 0, 1) := by decide +kernel
theorem dL_law_845 : decode cL_law 845 = .ok (.iload 4, 2) := by decide +kernel
theorem dL_law_847 : decode cL_law 847 = .ok (.iconst 3, 1) := by decide +kernel
theorem dL_law_848 : decode cL_law 848 = .ok (.iadd, 1) := by decide +kernel
theorem dL_law_849 : decode cL_law 849 = .ok (.iaload, 1) := by decide +kernel
theorem dL_law_850 : decode cL_law 850 = .ok (.invokevirtual 101, 3) := by decide +kernel
theorem dL_law_853 : decode cL_law 853 = .ok (.aload_n 2, 1) := by decide +kernel
theorem dL_law_854 : decode cL_law 854 = .ok (.aload_n 0, 1) := by decide +kernel
theorem dL_law_855 : decode cL_law 855 = .ok (.iload 4, 2) := by decide +kernel
theorem dL_law_857 : decode cL_law 857 = .ok (.iconst 1, 1) := by decide +kernel
theorem dL_law_858 : decode cL_law 858 = .ok (.iadd, 1) := by decide +kernel
theorem dL_law_859 : decode cL_law 859 = .ok (.iaload, 1) := by decide +kernel
theorem dL_law_860 : decode cL_law 860 = .ok (.aload_n 0, 1) := by decide +kernel
theorem dL_law_861 : decode cL_law 861 = .ok (.iload 4, 2) := by decide +kernel
theorem dL_law_863 : decode cL_law 863 = .ok (.iconst 2, 1) := by decide +kernel
theorem dL_law_864 : decode cL_law 864 = .ok (.iadd, 1) := by decide +kernel
theorem dL_law_865 : decode cL_law 865 = .ok (.iaload, 1) := by decide +kernel
theorem dL_law_866 : decode cL_law 866 = .ok (.aload_n 0, 1) := by decide +kernel
theorem dL_law_867 : decode cL_law 867 = .ok (.iload 4, 2) := by decide +kernel
theorem dL_law_869 : decode cL_law 869 = .ok (.iconst 3, 1) := by decide +kernel
theorem dL_law_870 : decode cL_law 870 = .ok (.iadd, 1) := by decide +kernel
theorem dL_law_871 : decode cL_law 871 = .ok (.iaload, 1) := by decide +kernel
theorem dL_law_872 : decode cL_law 872 = .ok (.invokevirtual 104, 3) := by decide +kernel
theorem dL_law_875 : decode cL_law 875 = .ok (.if_icmp .eq 664, 3) := by decide +kernel
theorem dL_law_878 : decode cL_law 878 = .ok (.iconst 0, 1) := by decide +kernel
theorem dL_law_879 : decode cL_law 879 = .ok (.ireturn, 1) := by decide +kernel
theorem dL_law_880 : decode cL_law 880 = .ok (.aload_n 1, 1) := by decide +kernel
theorem dL_law_881 : decode cL_law 881 = .ok (.aload_n 0, 1) := by decide +kernel
theorem dL_law_882 : decode cL_law 882 = .ok (.iload 4, 2) := by decide +kernel
theorem dL_law_884 : decode cL_law 884 = .ok (.iconst 1, 1) := by decide +kernel
theorem dL_law_885 : decode cL_law 885 = .ok (.iadd, 1) := by decide +kernel
theorem dL_law_886 : decode cL_law 886 = .ok (.iaload, 1) := by decide +kernel
theorem dL_law_887 : decode cL_law 887 = .ok (.aload_n 0, 1) := by decide +kernel
theorem dL_law_888 : decode cL_law 888 = .ok (.iload 4, 2) := by decide +kernel
theorem dL_law_890 : decode cL_law 890 = .ok (.iconst 2, 1) := by decide +kernel
theorem dL_law_891 : decode cL_law 891 = .ok (.iadd, 1) := by decide +kernel
theorem dL_law_892 : decode cL_law 892 = .ok (.iaload, 1) := by decide +kernel
theorem dL_law_893 : decode cL_law 893 = .ok (.invokevirtual 105, 3) := by decide +kernel
theorem dL_law_896 : decode cL_law 896 = .ok (.aload_n 2, 1) := by decide +kernel
theorem dL_law_897 : decode cL_law 897 = .ok (.aload_n 0, 1) := by decide +kernel
theorem dL_law_898 : decode cL_law 898 = .ok (.iload 4, 2) := by decide +kernel
theorem dL_law_900 : decode cL_law 900 = .ok (.iconst 1, 1) := by decide +kernel
theorem dL_law_901 : decode cL_law 901 = .ok (.iadd, 1) := by decide +kernel
theorem dL_law_902 : decode cL_law 902 = .ok (.iaload, 1) := by decide +kernel
theorem dL_law_903 : decode cL_law 903 = .ok (.aload_n 0, 1) := by decide +kernel
theorem dL_law_904 : decode cL_law 904 = .ok (.iload 4, 2) := by decide +kernel
theorem dL_law_906 : decode cL_law 906 = .ok (.iconst 2, 1) := by decide +kernel
theorem dL_law_907 : decode cL_law 907 = .ok (.iadd, 1) := by decide +kernel
theorem dL_law_908 : decode cL_law 908 = .ok (.iaload, 1) := by decide +kernel
theorem dL_law_909 : decode cL_law 909 = .ok (.invokevirtual 108, 3) := by decide +kernel
theorem dL_law_912 : decode cL_law 912 = .ok (.if_icmp .eq 627, 3) := by decide +kernel
theorem dL_law_915 : decode cL_law 915 = .ok (.iconst 0, 1) := by decide +kernel
theorem dL_law_916 : decode cL_law 916 = .ok (.ireturn, 1) := by decide +kernel
theorem dL_law_917 : decode cL_law 917 = .ok (.aload_n 1, 1) := by decide +kernel
theorem dL_law_918 : decode cL_law 918 = .ok (.aload_n 0, 1) := by decide +kernel
theorem dL_law_919 : decode cL_law 919 = .ok (.iload 4, 2) := by decide +kernel
theorem dL_law_921 : decode cL_law 921 = .ok (.iconst 1, 1) := by decide +kernel
theorem dL_law_922 : decode cL_law 922 = .ok (.iadd, 1) := by decide +kernel
theorem dL_law_923 : decode cL_law 923 = .ok (.iaload, 1) := by decide +kernel
theorem dL_law_924 : decode cL_law 924 = .ok (.aload_n 0, 1) := by decide +kernel
theorem dL_law_925 : decode cL_law 925 = .ok (.iload 4, 2) := by decide +kernel
theorem dL_law_927 : decode cL_law 927 = .ok (.iconst 2, 1) := by decide +kernel
theorem dL_law_928 : decode cL_law 928 = .ok (.iadd, 1) := by decide +kernel
theorem dL_law_929 : decode cL_law 929 = .ok (.iaload, 1) := by decide +kernel
theorem dL_law_930 : decode cL_law 930 = .ok (.aload_n 0, 1) := by decide +kernel
theorem dL_law_931 : decode cL_law 931 = .ok (.iload 4, 2) := by decide +kernel
theorem dL_law_933 : decode cL_law 933 = .ok (.iconst 3, 1) := by decide +kernel
theorem dL_law_934 : decode cL_law 934 = .ok (.iadd, 1) := by decide +kernel
theorem dL_law_935 : decode cL_law 935 = .ok (.iaload, 1) := by decide +kernel
theorem dL_law_936 : decode cL_law 936 = .ok (.invokevirtual 109, 3) := by decide +kernel
theorem dL_law_939 : decode cL_law 939 = .ok (.aload_n 2, 1) := by decide +kernel
theorem dL_law_940 : decode cL_law 940 = .ok (.aload_n 0, 1) := by decide +kernel
theorem dL_law_941 : decode cL_law 941 = .ok (.iload 4, 2) := by decide +kernel
theorem dL_law_943 : decode cL_law 943 = .ok (.iconst 1, 1) := by decide +kernel
theorem dL_law_944 : decode cL_law 944 = .ok (.iadd, 1) := by decide +kernel
theorem dL_law_945 : decode cL_law 945 = .ok (.iaload, 1) := by decide +kernel
theorem dL_law_946 : decode cL_law 946 = .ok (.aload_n 0, 1) := by decide +kernel
theorem dL_law_947 : decode cL_law 947 = .ok (.iload 4, 2) := by decide +kernel
theorem dL_law_949 : decode cL_law 949 = .ok (.iconst 2, 1) := by decide +kernel
theorem dL_law_950 : decode cL_law 950 = .ok (.iadd, 1) := by decide +kernel
theorem dL_law_951 : decode cL_law 951 = .ok (.iaload, 1) := by decide +kernel
theorem dL_law_952 : decode cL_law 952 = .ok (.aload_n 0, 1) := by decide +kernel
theorem dL_law_953 : decode cL_law 953 = .ok (.iload 4, 2) := by decide +kernel
theorem dL_law_955 : decode cL_law 955 = .ok (.iconst 3, 1) := by decide +kernel
theorem dL_law_956 : decode cL_law 956 = .ok (.iadd, 1) := by decide +kernel
theorem dL_law_957 : decode cL_law 957 = .ok (.iaload, 1) := by decide +kernel
theorem dL_law_958 : decode cL_law 958 = .ok (.invokevirtual 112, 3) := by decide +kernel
theorem dL_law_961 : decode cL_law 961 = .ok (.if_icmp .eq 578, 3) := by decide +kernel
theorem dL_law_964 : decode cL_law 964 = .ok (.iconst 0, 1) := by decide +kernel
theorem dL_law_965 : decode cL_law 965 = .ok (.ireturn, 1) := by decide +kernel
theorem dL_law_966 : decode cL_law 966 = .ok (.aload_n 1, 1) := by decide +kernel
theorem dL_law_967 : decode cL_law 967 = .ok (.aload_n 0, 1) := by decide +kernel
theorem dL_law_968 : decode cL_law 968 = .ok (.iload 4, 2) := by decide +kernel
theorem dL_law_970 : decode cL_law 970 = .ok (.iconst 1, 1) := by decide +kernel
theorem dL_law_971 : decode cL_law 971 = .ok (.iadd, 1) := by decide +kernel
theorem dL_law_972 : decode cL_law 972 = .ok (.iaload, 1) := by decide +kernel
theorem dL_law_973 : decode cL_law 973 = .ok (.invokevirtual 113, 3) := by decide +kernel
theorem dL_law_976 : decode cL_law 976 = .ok (.aload_n 2, 1) := by decide +kernel
theorem dL_law_977 : decode cL_law 977 = .ok (.aload_n 0, 1) := by decide +kernel
theorem dL_law_978 : decode cL_law 978 = .ok (.iload 4, 2) := by decide +kernel
theorem dL_law_980 : decode cL_law 980 = .ok (.iconst 1, 1) := by decide +kernel
theorem dL_law_981 : decode cL_law 981 = .ok (.iadd, 1) := by decide +kernel
theorem dL_law_982 : decode cL_law 982 = .ok (.iaload, 1) := by decide +kernel
theorem dL_law_983 : decode cL_law 983 = .ok (.invokevirtual 116, 3) := by decide +kernel
theorem dL_law_986 : decode cL_law 986 = .ok (.if_icmp .eq 553, 3) := by decide +kernel
theorem dL_law_989 : decode cL_law 989 = .ok (.iconst 0, 1) := by decide +kernel
theorem dL_law_990 : decode cL_law 990 = .ok (.ireturn, 1) := by decide +kernel
theorem dL_law_991 : decode cL_law 991 = .ok (.aload_n 1, 1) := by decide +kernel
theorem dL_law_992 : decode cL_law 992 = .ok (.aload_n 0, 1) := by decide +kernel
theorem dL_law_993 : decode cL_law 993 = .ok (.iload 4, 2) := by decide +kernel
theorem dL_law_995 : decode cL_law 995 = .ok (.iconst 1, 1) := by decide +kernel
theorem dL_law_996 : decode cL_law 996 = .ok (.iadd, 1) := by decide +kernel
theorem dL_law_997 : decode cL_law 997 = .ok (.iaload, 1) := by decide +kernel
theorem dL_law_998 : decode cL_law 998 = .ok (.aload_n 0, 1) := by decide +kernel
theorem dL_law_999 : decode cL_law 999 = .ok (.iload 4, 2) := by decide +kernel
theorem dL_law_1001 : decode cL_law 1001 = .ok (.iconst 2, 1) := by decide +kernel
theorem dL_law_1002 : decode cL_law 1002 = .ok (.iadd, 1) := by decide +kernel
theorem dL_law_1003 : decode cL_law 1003 = .ok (.iaload, 1) := by decide +kernel
theorem dL_law_1004 : decode cL_law 1004 = .ok (.invokevirtual 117, 3) := by decide +kernel
theorem dL_law_1007 : decode cL_law 1007 = .ok (.aload_n 2, 1) := by decide +kernel
theorem dL_law_1008 : decode cL_law 1008 = .ok (.aload_n 0, 1) := by decide +kernel
theorem dL_law_1009 : decode cL_law 1009 = .ok (.iload 4, 2) := by decide +kernel
theorem dL_law_1011 : decode cL_law 1011 = .ok (.iconst 1, 1) := by decide +kernel
theorem dL_law_1012 : decode cL_law 1012 = .ok (.iadd, 1) := by decide +kernel
theorem dL_law_1013 : decode cL_law 1013 = .ok (.iaload, 1) := by decide +kernel
theorem dL_law_1014 : decode cL_law 1014 = .ok (.aload_n 0, 1) := by decide +kernel
theorem dL_law_1015 : decode cL_law 1015 = .ok (.iload 4, 2) := by decide +kernel
theorem dL_law_1017 : decode cL_law 1017 = .ok (.iconst 2, 1) := by decide +kernel
theorem dL_law_1018 : decode cL_law 1018 = .ok (.iadd, 1) := by decide +kernel
theorem dL_law_1019 : decode cL_law 1019 = .ok (.iaload, 1) := by decide +kernel
theorem dL_law_1020 : decode cL_law 1020 = .ok (.invokevirtual 120, 3) := by decide +kernel
theorem dL_law_1023 : decode cL_law 1023 = .ok (.if_icmp .eq 516, 3) := by decide +kernel
theorem dL_law_1026 : decode cL_law 1026 = .ok (.iconst 0, 1) := by decide +kernel
theorem dL_law_1027 : decode cL_law 1027 = .ok (.ireturn, 1) := by decide +kernel
theorem dL_law_1028 : decode cL_law 1028 = .ok (.aload_n 1, 1) := by decide +kernel
theorem dL_law_1029 : decode cL_law 1029 = .ok (.aload_n 0, 1) := by decide +kernel
theorem dL_law_1030 : decode cL_law 1030 = .ok (.iload 4, 2) := by decide +kernel
theorem dL_law_1032 : decode cL_law 1032 = .ok (.iconst 1, 1) := by decide +kernel
theorem dL_law_1033 : decode cL_law 1033 = .ok (.iadd, 1) := by decide +kernel
theorem dL_law_1034 : decode cL_law 1034 = .ok (.iaload, 1) := by decide +kernel
theorem dL_law_1035 : decode cL_law 1035 = .ok (.aload_n 0, 1) := by decide +kernel
theorem dL_law_1036 : decode cL_law 1036 = .ok (.iload 4, 2) := by decide +kernel
theorem dL_law_1038 : decode cL_law 1038 = .ok (.iconst 2, 1) := by decide +kernel
theorem dL_law_1039 : decode cL_law 1039 = .ok (.iadd, 1) := by decide +kernel
theorem dL_law_1040 : decode cL_law 1040 = .ok (.iaload, 1) := by decide +kernel
theorem dL_law_1041 : decode cL_law 1041 = .ok (.aload_n 0, 1) := by decide +kernel
theorem dL_law_1042 : decode cL_law 1042 = .ok (.iload 4, 2) := by decide +kernel
theorem dL_law_1044 : decode cL_law 1044 = .ok (.iconst 3, 1) := by decide +kernel
theorem dL_law_1045 : decode cL_law 1045 = .ok (.iadd, 1) := by decide +kernel
theorem dL_law_1046 : decode cL_law 1046 = .ok (.iaload, 1) := by decide +kernel
theorem dL_law_1047 : decode cL_law 1047 = .ok (.invokevirtual 121, 3) := by decide +kernel
theorem dL_law_1050 : decode cL_law 1050 = .ok (.aload_n 2, 1) := by decide +kernel
theorem dL_law_1051 : decode cL_law 1051 = .ok (.aload_n 0, 1) := by decide +kernel
theorem dL_law_1052 : decode cL_law 1052 = .ok (.iload 4, 2) := by decide +kernel
theorem dL_law_1054 : decode cL_law 1054 = .ok (.iconst 1, 1) := by decide +kernel
theorem dL_law_1055 : decode cL_law 1055 = .ok (.iadd, 1) := by decide +kernel
theorem dL_law_1056 : decode cL_law 1056 = .ok (.iaload, 1) := by decide +kernel
theorem dL_law_1057 : decode cL_law 1057 = .ok (.aload_n 0, 1) := by decide +kernel
theorem dL_law_1058 : decode cL_law 1058 = .ok (.iload 4, 2) := by decide +kernel
theorem dL_law_1060 : decode cL_law 1060 = .ok (.iconst 2, 1) := by decide +kernel
theorem dL_law_1061 : decode cL_law 1061 = .ok (.iadd, 1) := by decide +kernel
theorem dL_law_1062 : decode cL_law 1062 = .ok (.iaload, 1) := by decide +kernel
theorem dL_law_1063 : decode cL_law 1063 = .ok (.aload_n 0, 1) := by decide +kernel
theorem dL_law_1064 : decode cL_law 1064 = .ok (.iload 4, 2) := by decide +kernel
theorem dL_law_1066 : decode cL_law 1066 = .ok (.iconst 3, 1) := by decide +kernel
theorem dL_law_1067 : decode cL_law 1067 = .ok (.iadd, 1) := by decide +kernel
theorem dL_law_1068 : decode cL_law 1068 = .ok (.iaload, 1) := by decide +kernel
theorem dL_law_1069 : decode cL_law 1069 = .ok (.invokevirtual 124, 3) := by decide +kernel
theorem dL_law_1072 : decode cL_law 1072 = .ok (.if_icmp .eq 467, 3) := by decide +kernel
theorem dL_law_1075 : decode cL_law 1075 = .ok (.iconst 0, 1) := by decide +kernel
theorem dL_law_1076 : decode cL_law 1076 = .ok (.ireturn, 1) := by decide +kernel
theorem dL_law_1077 : decode cL_law 1077 = .ok (.aload_n 1, 1) := by decide +kernel
theorem dL_law_1078 : decode cL_law 1078 = .ok (.aload_n 0, 1) := by decide +kernel
theorem dL_law_1079 : decode cL_law 1079 = .ok (.iload 4, 2) := by decide +kernel
theorem dL_law_1081 : decode cL_law 1081 = .ok (.iconst 1, 1) := by decide +kernel
theorem dL_law_1082 : decode cL_law 1082 = .ok (.iadd, 1) := by decide +kernel
theorem dL_law_1083 : decode cL_law 1083 = .ok (.iaload, 1) := by decide +kernel
theorem dL_law_1084 : decode cL_law 1084 = .ok (.aload_n 0, 1) := by decide +kernel
theorem dL_law_1085 : decode cL_law 1085 = .ok (.iload 4, 2) := by decide +kernel
theorem dL_law_1087 : decode cL_law 1087 = .ok (.iconst 2, 1) := by decide +kernel
theorem dL_law_1088 : decode cL_law 1088 = .ok (.iadd, 1) := by decide +kernel
theorem dL_law_1089 : decode cL_law 1089 = .ok (.iaload, 1) := by decide +kernel
theorem dL_law_1090 : decode cL_law 1090 = .ok (.invokevirtual 125, 3) := by decide +kernel
theorem dL_law_1093 : decode cL_law 1093 = .ok (.aload_n 2, 1) := by decide +kernel
theorem dL_law_1094 : decode cL_law 1094 = .ok (.aload_n 0, 1) := by decide +kernel
theorem dL_law_1095 : decode cL_law 1095 = .ok (.iload 4, 2) := by decide +kernel
theorem dL_law_1097 : decode cL_law 1097 = .ok (.iconst 1, 1) := by decide +kernel
theorem dL_law_1098 : decode cL_law 1098 = .ok (.iadd, 1) := by decide +kernel
theorem dL_law_1099 : decode cL_law 1099 = .ok (.iaload, 1) := by decide +kernel
theorem dL_law_1100 : decode cL_law 1100 = .ok (.aload_n 0, 1) := by decide +kernel
theorem dL_law_1101 : decode cL_law 1101 = .ok (.iload 4, 2) := by decide +kernel
theorem dL_law_1103 : decode cL_law 1103 = .ok (.iconst 2, 1) := by decide +kernel
theorem dL_law_1104 : decode cL_law 1104 = .ok (.iadd, 1) := by decide +kernel
theorem dL_law_1105 : decode cL_law 1105 = .ok (.iaload, 1) := by decide +kernel
theorem dL_law_1106 : decode cL_law 1106 = .ok (.invokevirtual 128, 3) := by decide +kernel
theorem dL_law_1109 : decode cL_law 1109 = .ok (.if_icmp .eq 430, 3) := by decide +kernel
theorem dL_law_1112 : decode cL_law 1112 = .ok (.iconst 0, 1) := by decide +kernel
theorem dL_law_1113 : decode cL_law 1113 = .ok (.ireturn, 1) := by decide +kernel
theorem dL_law_1114 : decode cL_law 1114 = .ok (.aload_n 1, 1) := by decide +kernel
theorem dL_law_1115 : decode cL_law 1115 = .ok (.aload_n 0, 1) := by decide +kernel
theorem dL_law_1116 : decode cL_law 1116 = .ok (.iload 4, 2) := by decide +kernel
theorem dL_law_1118 : decode cL_law 1118 = .ok (.iconst 1, 1) := by decide +kernel
theorem dL_law_1119 : decode cL_law 1119 = .ok (.iadd, 1) := by decide +kernel
theorem dL_law_1120 : decode cL_law 1120 = .ok (.iaload, 1) := by decide +kernel
theorem dL_law_1121 : decode cL_law 1121 = .ok (.aload_n 0, 1) := by decide +kernel
theorem dL_law_1122 : decode cL_law 1122 = .ok (.iload 4, 2) := by decide +kernel
theorem dL_law_1124 : decode cL_law 1124 = .ok (.iconst 2, 1) := by decide +kernel
theorem dL_law_1125 : decode cL_law 1125 = .ok (.iadd, 1) := by decide +kernel
theorem dL_law_1126 : decode cL_law 1126 = .ok (.iaload, 1) := by decide +kernel
theorem dL_law_1127 : decode cL_law 1127 = .ok (.aload_n 0, 1) := by decide +kernel
theorem dL_law_1128 : decode cL_law 1128 = .ok (.iload 4, 2) := by decide +kernel
theorem dL_law_1130 : decode cL_law 1130 = .ok (.iconst 3, 1) := by decide +kernel
theorem dL_law_1131 : decode cL_law 1131 = .ok (.iadd, 1) := by decide +kernel
theorem dL_law_1132 : decode cL_law 1132 = .ok (.iaload, 1) := by decide +kernel
theorem dL_law_1133 : decode cL_law 1133 = .ok (.invokevirtual 129, 3) := by decide +kernel
theorem dL_law_1136 : decode cL_law 1136 = .ok (.aload_n 2, 1) := by decide +kernel
theorem dL_law_1137 : decode cL_law 1137 = .ok (.aload_n 0, 1) := by decide +kernel
theorem dL_law_1138 : decode cL_law 1138 = .ok (.iload 4, 2) := by decide +kernel
theorem dL_law_1140 : decode cL_law 1140 = .ok (.iconst 1, 1) := by decide +kernel
theorem dL_law_1141 : decode cL_law 1141 = .ok (.iadd, 1) := by decide +kernel
theorem dL_law_1142 : decode cL_law 1142 = .ok (.iaload, 1) := by decide +kernel
theorem dL_law_1143 : decode cL_law 1143 = .ok (.aload_n 0, 1) := by decide +kernel
theorem dL_law_1144 : decode cL_law 1144 = .ok (.iload 4, 2) := by decide +kernel
theorem dL_law_1146 : decode cL_law 1146 = .ok (.iconst 2, 1) := by decide +kernel
theorem dL_law_1147 : decode cL_law 1147 = .ok (.iadd, 1) := by decide +kernel
theorem dL_law_1148 : decode cL_law 1148 = .ok (.iaload, 1) := by decide +kernel
theorem dL_law_1149 : decode cL_law 1149 = .ok (.aload_n 0, 1) := by decide +kernel
theorem dL_law_1150 : decode cL_law 1150 = .ok (.iload 4, 2) := by decide +kernel
theorem dL_law_1152 : decode cL_law 1152 = .ok (.iconst 3, 1) := by decide +kernel
theorem dL_law_1153 : decode cL_law 1153 = .ok (.iadd, 1) := by decide +kernel
theorem dL_law_1154 : decode cL_law 1154 = .ok (.iaload, 1) := by decide +kernel
theorem dL_law_1155 : decode cL_law 1155 = .ok (.invokevirtual 132, 3) := by decide +kernel
theorem dL_law_1158 : decode cL_law 1158 = .ok (.if_icmp .eq 381, 3) := by decide +kernel
theorem dL_law_1161 : decode cL_law 1161 = .ok (.iconst 0, 1) := by decide +kernel
theorem dL_law_1162 : decode cL_law 1162 = .ok (.ireturn, 1) := by decide +kernel
theorem dL_law_1163 : decode cL_law 1163 = .ok (.aload_n 1, 1) := by decide +kernel
theorem dL_law_1164 : decode cL_law 1164 = .ok (.aload_n 0, 1) := by decide +kernel
theorem dL_law_1165 : decode cL_law 1165 = .ok (.iload 4, 2) := by decide +kernel
theorem dL_law_1167 : decode cL_law 1167 = .ok (.iconst 1, 1) := by decide +kernel
theorem dL_law_1168 : decode cL_law 1168 = .ok (.iadd, 1) := by decide +kernel
theorem dL_law_1169 : decode cL_law 1169 = .ok (.iaload, 1) := by decide +kernel
theorem dL_law_1170 : decode cL_law 1170 = .ok (.aload_n 0, 1) := by decide +kernel
theorem dL_law_1171 : decode cL_law 1171 = .ok (.iload 4, 2) := by decide +kernel
theorem dL_law_1173 : decode cL_law 1173 = .ok (.iconst 2, 1) := by decide +kernel
theorem dL_law_1174 : decode cL_law 1174 = .ok (.iadd, 1) := by decide +kernel
theorem dL_law_1175 : decode cL_law 1175 = .ok (.iaload, 1) := by decide +kernel
theorem dL_law_1176 : decode cL_law 1176 = .ok (.aload_n 0, 1) := by decide +kernel
theorem dL_law_1177 : decode cL_law 1177 = .ok (.iload 4, 2) := by decide +kernel
theorem dL_law_1179 : decode cL_law 1179 = .ok (.iconst 3, 1) := by decide +kernel
theorem dL_law_1180 : decode cL_law 1180 = .ok (.iadd, 1) := by decide +kernel
theorem dL_law_1181 : decode cL_law 1181 = .ok (.iaload, 1) := by decide +kernel
theorem dL_law_1182 : decode cL_law 1182 = .ok (.aload_n 0, 1) := by decide +kernel
theorem dL_law_1183 : decode cL_law 1183 = .ok (.iload 4, 2) := by decide +kernel
theorem dL_law_1185 : decode cL_law 1185 = .ok (.iconst 4, 1) := by decide +kernel
theorem dL_law_1186 : decode cL_law 1186 = .ok (.iadd, 1) := by decide +kernel
theorem dL_law_1187 : decode cL_law 1187 = .ok (.iaload, 1) := by decide +kernel
theorem dL_law_1188 : decode cL_law 1188 = .ok (.invokevirtual 133, 3) := by decide +kernel
theorem dL_law_1191 : decode cL_law 1191 = .ok (.aload_n 2, 1) := by decide +kernel
theorem dL_law_1192 : decode cL_law 1192 = .ok (.aload_n 0, 1) := by decide +kernel
theorem dL_law_1193 : decode cL_law 1193 = .ok (.iload 4, 2) := by decide +kernel
theorem dL_law_1195 : decode cL_law 1195 = .ok (.iconst 1, 1) := by decide +kernel
theorem dL_law_1196 : decode cL_law 1196 = .ok (.iadd, 1) := by decide +kernel
theorem dL_law_1197 : decode cL_law 1197 = .ok (.iaload, 1) := by decide +kernel
theorem dL_law_1198 : decode cL_law 1198 = .ok (.aload_n 0, 1) := by decide +kernel
theorem dL_law_1199 : decode cL_law 1199 = .ok (.iload 4, 2) := by decide +kernel
theorem dL_law_1201 : decode cL_law 1201 = .ok (.iconst 2, 1) := by decide +kernel
theorem dL_law_1202 : decode cL_law 1202 = .ok (.iadd, 1) := by decide +kernel
theorem dL_law_1203 : decode cL_law 1203 = .ok (.iaload, 1) := by decide +kernel
theorem dL_law_1204 : decode cL_law 1204 = .ok (.aload_n 0, 1) := by decide +kernel
theorem dL_law_1205 : decode cL_law 1205 = .ok (.iload 4, 2) := by decide +kernel
theorem dL_law_1207 : decode cL_law 1207 = .ok (.iconst 3, 1) := by decide +kernel
theorem dL_law_1208 : decode cL_law 1208 = .ok (.iadd, 1) := by decide +kernel
theorem dL_law_1209 : decode cL_law 1209 = .ok (.iaload, 1) := by decide +kernel
theorem dL_law_1210 : decode cL_law 1210 = .ok (.aload_n 0, 1) := by decide +kernel
theorem dL_law_1211 : decode cL_law 1211 = .ok (.iload 4, 2) := by decide +kernel
theorem dL_law_1213 : decode cL_law 1213 = .ok (.iconst 4, 1) := by decide +kernel
theorem dL_law_1214 : decode cL_law 1214 = .ok (.iadd, 1) := by decide +kernel
theorem dL_law_1215 : decode cL_law 1215 = .ok (.iaload, 1) := by decide +kernel
theorem dL_law_1216 : decode cL_law 1216 = .ok (.invokevirtual 137, 3) := by decide +kernel
theorem dL_law_1219 : decode cL_law 1219 = .ok (.if_icmp .eq 320, 3) := by decide +kernel
theorem dL_law_1222 : decode cL_law 1222 = .ok (.iconst 0, 1) := by decide +kernel
theorem dL_law_1223 : decode cL_law 1223 = .ok (.ireturn, 1) := by decide +kernel
theorem dL_law_1224 : decode cL_law 1224 = .ok (.aload_n 1, 1) := by decide +kernel
theorem dL_law_1225 : decode cL_law 1225 = .ok (.aload_n 0, 1) := by decide +kernel
theorem dL_law_1226 : decode cL_law 1226 = .ok (.iload 4, 2) := by decide +kernel
theorem dL_law_1228 : decode cL_law 1228 = .ok (.iconst 1, 1) := by decide +kernel
theorem dL_law_1229 : decode cL_law 1229 = .ok (.iadd, 1) := by decide +kernel
theorem dL_law_1230 : decode cL_law 1230 = .ok (.iaload, 1) := by decide +kernel
theorem dL_law_1231 : decode cL_law 1231 = .ok (.aload_n 0, 1) := by decide +kernel
theorem dL_law_1232 : decode cL_law 1232 = .ok (.iload 4, 2) := by decide +kernel
theorem dL_law_1234 : decode cL_law 1234 = .ok (.iconst 2, 1) := by decide +kernel
theorem dL_law_1235 : decode cL_law 1235 = .ok (.iadd, 1) := by decide +kernel
theorem dL_law_1236 : decode cL_law 1236 = .ok (.iaload, 1) := by decide +kernel
theorem dL_law_1237 : decode cL_law 1237 = .ok (.aload_n 0, 1) := by decide +kernel
theorem dL_law_1238 : decode cL_law 1238 = .ok (.iload 4, 2) := by decide +kernel
theorem dL_law_1240 : decode cL_law 1240 = .ok (.iconst 3, 1) := by decide +kernel
theorem dL_law_1241 : decode cL_law 1241 = .ok (.iadd, 1) := by decide +kernel
theorem dL_law_1242 : decode cL_law 1242 = .ok (.iaload, 1) := by decide +kernel
theorem dL_law_1243 : decode cL_law 1243 = .ok (.aload_n 0, 1) := by decide +kernel
theorem dL_law_1244 : decode cL_law 1244 = .ok (.iload 4, 2) := by decide +kernel
theorem dL_law_1246 : decode cL_law 1246 = .ok (.iconst 4, 1) := by decide +kernel
theorem dL_law_1247 : decode cL_law 1247 = .ok (.iadd, 1) := by decide +kernel
theorem dL_law_1248 : decode cL_law 1248 = .ok (.iaload, 1) := by decide +kernel
theorem dL_law_1249 : decode cL_law 1249 = .ok (.aload_n 0, 1) := by decide +kernel
theorem dL_law_1250 : decode cL_law 1250 = .ok (.iload 4, 2) := by decide +kernel
theorem dL_law_1252 : decode cL_law 1252 = .ok (.iconst 5, 1) := by decide +kernel
theorem dL_law_1253 : decode cL_law 1253 = .ok (.iadd, 1) := by decide +kernel
theorem dL_law_1254 : decode cL_law 1254 = .ok (.iaload, 1) := by decide +kernel
theorem dL_law_1255 : decode cL_law 1255 = .ok (.invokevirtual 138, 3) := by decide +kernel
theorem dL_law_1258 : decode cL_law 1258 = .ok (.aload_n 2, 1) := by decide +kernel
theorem dL_law_1259 : decode cL_law 1259 = .ok (.aload_n 0, 1) := by decide +kernel
theorem dL_law_1260 : decode cL_law 1260 = .ok (.iload 4, 2) := by decide +kernel
theorem dL_law_1262 : decode cL_law 1262 = .ok (.iconst 1, 1) := by decide +kernel
theorem dL_law_1263 : decode cL_law 1263 = .ok (.iadd, 1) := by decide +kernel
theorem dL_law_1264 : decode cL_law 1264 = .ok (.iaload, 1) := by decide +kernel
theorem dL_law_1265 : decode cL_law 1265 = .ok (.aload_n 0, 1) := by decide +kernel
theorem dL_law_1266 : decode cL_law 1266 = .ok (.iload 4, 2) := by decide +kernel
theorem dL_law_1268 : decode cL_law 1268 = .ok (.iconst 2, 1) := by decide +kernel
theorem dL_law_1269 : decode cL_law 1269 = .ok (.iadd, 1) := by decide +kernel
theorem dL_law_1270 : decode cL_law 1270 = .ok (.iaload, 1) := by decide +kernel
theorem dL_law_1271 : decode cL_law 1271 = .ok (.aload_n 0, 1) := by decide +kernel
theorem dL_law_1272 : decode cL_law 1272 = .ok (.iload 4, 2) := by decide +kernel
theorem dL_law_1274 : decode cL_law 1274 = .ok (.iconst 3, 1) := by decide +kernel
theorem dL_law_1275 : decode cL_law 1275 = .ok (.iadd, 1) := by decide +kernel
theorem dL_law_1276 : decode cL_law 1276 = .ok (.iaload, 1) := by decide +kernel
theorem dL_law_1277 : decode cL_law 1277 = .ok (.aload_n 0, 1) := by decide +kernel
theorem dL_law_1278 : decode cL_law 1278 = .ok (.iload 4, 2) := by decide +kernel
theorem dL_law_1280 : decode cL_law 1280 = .ok (.iconst 4, 1) := by decide +kernel
theorem dL_law_1281 : decode cL_law 1281 = .ok (.iadd, 1) := by decide +kernel
theorem dL_law_1282 : decode cL_law 1282 = .ok (.iaload, 1) := by decide +kernel
theorem dL_law_1283 : decode cL_law 1283 = .ok (.aload_n 0, 1) := by decide +kernel
theorem dL_law_1284 : decode cL_law 1284 = .ok (.iload 4, 2) := by decide +kernel
theorem dL_law_1286 : decode cL_law 1286 = .ok (.iconst 5, 1) := by decide +kernel
theorem dL_law_1287 : decode cL_law 1287 = .ok (.iadd, 1) := by decide +kernel
theorem dL_law_1288 : decode cL_law 1288 = .ok (.iaload, 1) := by decide +kernel
theorem dL_law_1289 : decode cL_law 1289 = .ok (.invokevirtual 141, 3) := by decide +kernel
theorem dL_law_1292 : decode cL_law 1292 = .ok (.if_icmp .eq 247, 3) := by decide +kernel
theorem dL_law_1295 : decode cL_law 1295 = .ok (.iconst 0, 1) := by decide +kernel
theorem dL_law_1296 : decode cL_law 1296 = .ok (.ireturn, 1) := by decide +kernel
theorem dL_law_1297 : decode cL_law 1297 = .ok (.aload_n 1, 1) := by decide +kernel
theorem dL_law_1298 : decode cL_law 1298 = .ok (.aload_n 0, 1) := by decide +kernel
theorem dL_law_1299 : decode cL_law 1299 = .ok (.iload 4, 2) := by decide +kernel
theorem dL_law_1301 : decode cL_law 1301 = .ok (.iconst 1, 1) := by decide +kernel
theorem dL_law_1302 : decode cL_law 1302 = .ok (.iadd, 1) := by decide +kernel
theorem dL_law_1303 : decode cL_law 1303 = .ok (.iaload, 1) := by decide +kernel
theorem dL_law_1304 : decode cL_law 1304 = .ok (.invokevirtual 142, 3) := by decide +kernel
theorem dL_law_1307 : decode cL_law 1307 = .ok (.aload_n 2, 1) := by decide +kernel
theorem dL_law_1308 : decode cL_law 1308 = .ok (.aload_n 0, 1) := by decide +kernel
theorem dL_law_1309 : decode cL_law 1309 = .ok (.iload 4, 2) := by decide +kernel
theorem dL_law_1311 : decode cL_law 1311 = .ok (.iconst 1, 1) := by decide +kernel
theorem dL_law_1312 : decode cL_law 1312 = .ok (.iadd, 1) := by decide +kernel
theorem dL_law_1313 : decode cL_law 1313 = .ok (.iaload, 1) := by decide +kernel
theorem dL_law_1314 : decode cL_law 1314 = .ok (.invokevirtual 145, 3) := by decide +kernel
theorem dL_law_1317 : decode cL_law 1317 = .ok (.if_icmp .eq 222, 3) := by decide +kernel
theorem dL_law_1320 : decode cL_law 1320 = .ok (.iconst 0, 1) := by decide +kernel
theorem dL_law_1321 : decode cL_law 1321 = .ok (.ireturn, 1) := by decide +kernel
theorem dL_law_1322 : decode cL_law 1322 = .ok (.aload_n 1, 1) := by decide +kernel
theorem dL_law_1323 : decode cL_law 1323 = .ok (.aload_n 0, 1) := by decide +kernel
theorem dL_law_1324 : decode cL_law 1324 = .ok (.iload 4, 2) := by decide +kernel
theorem dL_law_1326 : decode cL_law 1326 = .ok (.iconst 1, 1) := by decide +kernel
theorem dL_law_1327 : decode cL_law 1327 = .ok (.iadd, 1) := by decide +kernel
theorem dL_law_1328 : decode cL_law 1328 = .ok (.iaload, 1) := by decide +kernel
theorem dL_law_1329 : decode cL_law 1329 = .ok (.aload_n 0, 1) := by decide +kernel
theorem dL_law_1330 : decode cL_law 1330 = .ok (.iload 4, 2) := by decide +kernel
theorem dL_law_1332 : decode cL_law 1332 = .ok (.iconst 2, 1) := by decide +kernel
theorem dL_law_1333 : decode cL_law 1333 = .ok (.iadd, 1) := by decide +kernel
theorem dL_law_1334 : decode cL_law 1334 = .ok (.iaload, 1) := by decide +kernel
theorem dL_law_1335 : decode cL_law 1335 = .ok (.aload_n 0, 1) := by decide +kernel
theorem dL_law_1336 : decode cL_law 1336 = .ok (.iload 4, 2) := by decide +kernel
theorem dL_law_1338 : decode cL_law 1338 = .ok (.iconst 3, 1) := by decide +kernel
theorem dL_law_1339 : decode cL_law 1339 = .ok (.iadd, 1) := by decide +kernel
theorem dL_law_1340 : decode cL_law 1340 = .ok (.iaload, 1) := by decide +kernel
theorem dL_law_1341 : decode cL_law 1341 = .ok (.aload_n 0, 1) := by decide +kernel
theorem dL_law_1342 : decode cL_law 1342 = .ok (.iload 4, 2) := by decide +kernel
theorem dL_law_1344 : decode cL_law 1344 = .ok (.iconst 4, 1) := by decide +kernel
theorem dL_law_1345 : decode cL_law 1345 = .ok (.iadd, 1) := by decide +kernel
theorem dL_law_1346 : decode cL_law 1346 = .ok (.iaload, 1) := by decide +kernel
theorem dL_law_1347 : decode cL_law 1347 = .ok (.invokevirtual 146, 3) := by decide +kernel
theorem dL_law_1350 : decode cL_law 1350 = .ok (.aload_n 2, 1) := by decide +kernel
theorem dL_law_1351 : decode cL_law 1351 = .ok (.aload_n 0, 1) := by decide +kernel
theorem dL_law_1352 : decode cL_law 1352 = .ok (.iload 4, 2) := by decide +kernel
theorem dL_law_1354 : decode cL_law 1354 = .ok (.iconst 1, 1) := by decide +kernel
theorem dL_law_1355 : decode cL_law 1355 = .ok (.iadd, 1) := by decide +kernel
theorem dL_law_1356 : decode cL_law 1356 = .ok (.iaload, 1) := by decide +kernel
theorem dL_law_1357 : decode cL_law 1357 = .ok (.aload_n 0, 1) := by decide +kernel
theorem dL_law_1358 : decode cL_law 1358 = .ok (.iload 4, 2) := by decide +kernel
theorem dL_law_1360 : decode cL_law 1360 = .ok (.iconst 2, 1) := by decide +kernel
theorem dL_law_1361 : decode cL_law 1361 = .ok (.iadd, 1) := by decide +kernel
theorem dL_law_1362 : decode cL_law 1362 = .ok (.iaload, 1) := by decide +kernel
theorem dL_law_1363 : decode cL_law 1363 = .ok (.aload_n 0, 1) := by decide +kernel
theorem dL_law_1364 : decode cL_law 1364 = .ok (.iload 4, 2) := by decide +kernel
theorem dL_law_1366 : decode cL_law 1366 = .ok (.iconst 3, 1) := by decide +kernel
theorem dL_law_1367 : decode cL_law 1367 = .ok (.iadd, 1) := by decide +kernel
theorem dL_law_1368 : decode cL_law 1368 = .ok (.iaload, 1) := by decide +kernel
theorem dL_law_1369 : decode cL_law 1369 = .ok (.aload_n 0, 1) := by decide +kernel
theorem dL_law_1370 : decode cL_law 1370 = .ok (.iload 4, 2) := by decide +kernel
theorem dL_law_1372 : decode cL_law 1372 = .ok (.iconst 4, 1) := by decide +kernel
theorem dL_law_1373 : decode cL_law 1373 = .ok (.iadd, 1) := by decide +kernel
theorem dL_law_1374 : decode cL_law 1374 = .ok (.iaload, 1) := by decide +kernel
theorem dL_law_1375 : decode cL_law 1375 = .ok (.invokevirtual 149, 3) := by decide +kernel
theorem dL_law_1378 : decode cL_law 1378 = .ok (.if_icmp .eq 161, 3) := by decide +kernel
theorem dL_law_1381 : decode cL_law 1381 = .ok (.iconst 0, 1) := by decide +kernel
theorem dL_law_1382 : decode cL_law 1382 = .ok (.ireturn, 1) := by decide +kernel
theorem dL_law_1383 : decode cL_law 1383 = .ok (.aload_n 1, 1) := by decide +kernel
theorem dL_law_1384 : decode cL_law 1384 = .ok (.aload_n 0, 1) := by decide +kernel
theorem dL_law_1385 : decode cL_law 1385 = .ok (.iload 4, 2) := by decide +kernel
theorem dL_law_1387 : decode cL_law 1387 = .ok (.iconst 1, 1) := by decide +kernel
theorem dL_law_1388 : decode cL_law 1388 = .ok (.iadd, 1) := by decide +kernel
theorem dL_law_1389 : decode cL_law 1389 = .ok (.iaload, 1) := by decide +kernel
theorem dL_law_1390 : decode cL_law 1390 = .ok (.invokevirtual 150, 3) := by decide +kernel
theorem dL_law_1393 : decode cL_law 1393 = .ok (.aload_n 2, 1) := by decide +kernel
theorem dL_law_1394 : decode cL_law 1394 = .ok (.aload_n 0, 1) := by decide +kernel
theorem dL_law_1395 : decode cL_law 1395 = .ok (.iload 4, 2) := by decide +kernel
theorem dL_law_1397 : decode cL_law 1397 = .ok (.iconst 1, 1) := by decide +kernel
theorem dL_law_1398 : decode cL_law 1398 = .ok (.iadd, 1) := by decide +kernel
theorem dL_law_1399 : decode cL_law 1399 = .ok (.iaload, 1) := by decide +kernel
theorem dL_law_1400 : decode cL_law 1400 = .ok (.invokevirtual 153, 3) := by decide +kernel
theorem dL_law_1403 : decode cL_law 1403 = .ok (.if_icmp .eq 136, 3) := by decide +kernel
theorem dL_law_1406 : decode cL_law 1406 = .ok (.iconst 0, 1) := by decide +kernel
theorem dL_law_1407 : decode cL_law 1407 = .ok (.ireturn, 1) := by decide +kernel
theorem dL_law_1408 : decode cL_law 1408 = .ok (.aload_n 1, 1) := by decide +kernel
theorem dL_law_1409 : decode cL_law 1409 = .ok (.aload_n 0, 1) := by decide +kernel
theorem dL_law_1410 : decode cL_law 1410 = .ok (.iload 4, 2) := by decide +kernel
theorem dL_law_1412 : decode cL_law 1412 = .ok (.iconst 1, 1) := by decide +kernel
theorem dL_law_1413 : decode cL_law 1413 = .ok (.iadd, 1) := by decide +kernel
theorem dL_law_1414 : decode cL_law 1414 = .ok (.iaload, 1) := by decide +kernel
theorem dL_law_1415 : decode cL_law 1415 = .ok (.invokevirtual 154, 3) := by decide +kernel
theorem dL_law_1418 : decode cL_law 1418 = .ok (.aload_n 2, 1) := by decide +kernel
theorem dL_law_1419 : decode cL_law 1419 = .ok (.aload_n 0, 1) := by decide +kernel
theorem dL_law_1420 : decode cL_law 1420 = .ok (.iload 4, 2) := by decide +kernel
theorem dL_law_1422 : decode cL_law 1422 = .ok (.iconst 1, 1) := by decide +kernel
theorem dL_law_1423 : decode cL_law 1423 = .ok (.iadd, 1) := by decide +kernel
theorem dL_law_1424 : decode cL_law 1424 = .ok (.iaload, 1) := by decide +kernel
theorem dL_law_1425 : decode cL_law 1425 = .ok (.invokevirtual 157, 3) := by decide +kernel
theorem dL_law_1428 : decode cL_law 1428 = .ok (.if_icmp .eq 111, 3) := by decide +kernel
theorem dL_law_1431 : decode cL_law 1431 = .ok (.iconst 0, 1) := by decide +kernel
theorem dL_law_1432 : decode cL_law 1432 = .ok (.ireturn, 1) := by decide +kernel
theorem dL_law_1433 : decode cL_law 1433 = .ok (.aload_n 1, 1) := by decide +kernel
theorem dL_law_1434 : decode cL_law 1434 = .ok (.aload_n 0, 1) := by decide +kernel
theorem dL_law_1435 : decode cL_law 1435 = .ok (.iload 4, 2) := by decide +kernel
theorem dL_law_1437 : decode cL_law 1437 = .ok (.iconst 1, 1) := by decide +kernel
theorem dL_law_1438 : decode cL_law 1438 = .ok (.iadd, 1) := by decide +kernel
theorem dL_law_1439 : decode cL_law 1439 = .ok (.iaload, 1) := by decide +kernel
theorem dL_law_1440 : decode cL_law 1440 = .ok (.aload_n 0, 1) := by decide +kernel
theorem dL_law_1441 : decode cL_law 1441 = .ok (.iload 4, 2) := by decide +kernel
theorem dL_law_1443 : decode cL_law 1443 = .ok (.iconst 2, 1) := by decide +kernel
theorem dL_law_1444 : decode cL_law 1444 = .ok (.iadd, 1) := by decide +kernel
theorem dL_law_1445 : decode cL_law 1445 = .ok (.iaload, 1) := by decide +kernel
theorem dL_law_1446 : decode cL_law 1446 = .ok (.aload_n 0, 1) := by decide +kernel
theorem dL_law_1447 : decode cL_law 1447 = .ok (.iload 4, 2) := by decide +kernel
theorem dL_law_1449 : decode cL_law 1449 = .ok (.iconst 3, 1) := by decide +kernel
theorem dL_law_1450 : decode cL_law 1450 = .ok (.iadd, 1) := by decide +kernel
theorem dL_law_1451 : decode cL_law 1451 = .ok (.iaload, 1) := by decide +kernel
theorem dL_law_1452 : decode cL_law 1452 = .ok (.aload_n 3, 1) := by decide +kernel
theorem dL_law_1453 : decode cL_law 1453 = .ok (.invokestatic 158, 3) := by decide +kernel
theorem dL_law_1456 : decode cL_law 1456 = .ok (.istore 5, 2) := by decide +kernel
theorem dL_law_1458 : decode cL_law 1458 = .ok (.aload_n 2, 1) := by decide +kernel
theorem dL_law_1459 : decode cL_law 1459 = .ok (.aload_n 0, 1) := by decide +kernel
theorem dL_law_1460 : decode cL_law 1460 = .ok (.iload 4, 2) := by decide +kernel
theorem dL_law_1462 : decode cL_law 1462 = .ok (.iconst 1, 1) := by decide +kernel
theorem dL_law_1463 : decode cL_law 1463 = .ok (.iadd, 1) := by decide +kernel
theorem dL_law_1464 : decode cL_law 1464 = .ok (.iaload, 1) := by decide +kernel
theorem dL_law_1465 : decode cL_law 1465 = .ok (.aload_n 0, 1) := by decide +kernel
theorem dL_law_1466 : decode cL_law 1466 = .ok (.iload 4, 2) := by decide +kernel
theorem dL_law_1468 : decode cL_law 1468 = .ok (.iconst 2, 1) := by decide +kernel
theorem dL_law_1469 : decode cL_law 1469 = .ok (.iadd, 1) := by decide +kernel
theorem dL_law_1470 : decode cL_law 1470 = .ok (.iaload, 1) := by decide +kernel
theorem dL_law_1471 : decode cL_law 1471 = .ok (.aload_n 0, 1) := by decide +kernel
theorem dL_law_1472 : decode cL_law 1472 = .ok (.iload 4, 2) := by decide +kernel
theorem dL_law_1474 : decode cL_law 1474 = .ok (.iconst 3, 1) := by decide +kernel
theorem dL_law_1475 : decode cL_law 1475 = .ok (.iadd, 1) := by decide +kernel
theorem dL_law_1476 : decode cL_law 1476 = .ok (.iaload, 1) := by decide +kernel
theorem dL_law_1477 : decode cL_law 1477 = .ok (.invokevirtual 163, 3) := by decide +kernel
theorem dL_law_1480 : decode cL_law 1480 = .ok (.istore 6, 2) := by decide +kernel
theorem dL_law_1482 : decode cL_law 1482 = .ok (.aload_n 2, 1) := by decide +kernel
theorem dL_law_1483 : decode cL_law 1483 = .ok (.invokevirtual 164, 3) := by decide +kernel
theorem dL_law_1486 : decode cL_law 1486 = .ok (.iload 5, 2) := by decide +kernel
theorem dL_law_1488 : decode cL_law 1488 = .ok (.if_icmp .eq 5, 3) := by decide +kernel
theorem dL_law_1491 : decode cL_law 1491 = .ok (.iconst 0, 1) := by decide +kernel
theorem dL_law_1492 : decode cL_law 1492 = .ok (.ireturn, 1) := by decide +kernel
theorem dL_law_1493 : decode cL_law 1493 = .ok (.iload 5, 2) := by decide +kernel
theorem dL_law_1495 : decode cL_law 1495 = .ok (.ifCond .ne 15, 3) := by decide +kernel
theorem dL_law_1498 : decode cL_law 1498 = .ok (.aload_n 3, 1) := by decide +kernel
theorem dL_law_1499 : decode cL_law 1499 = .ok (.iconst 0, 1) := by decide +kernel
theorem dL_law_1500 : decode cL_law 1500 = .ok (.laload, 1) := by decide +kernel
theorem dL_law_1501 : decode cL_law 1501 = .ok (.iload 6, 2) := by decide +kernel
theorem dL_law_1503 : decode cL_law 1503 = .ok (.i2l, 1) := by decide +kernel
theorem dL_law_1504 : decode cL_law 1504 = .ok (.lcmp, 1) := by decide +kernel
theorem dL_law_1505 : decode cL_law 1505 = .ok (.ifCond .eq 5, 3) := by decide +kernel
theorem dL_law_1508 : decode cL_law 1508 = .ok (.iconst 0, 1) := by decide +kernel
theorem dL_law_1509 : decode cL_law 1509 = .ok (.ireturn, 1) := by decide +kernel
theorem dL_law_1510 : decode cL_law 1510 = .ok (.goto 29, 3) := by decide +kernel
theorem dL_law_1513 : decode cL_law 1513 = .ok (.aload_n 1, 1) := by decide +kernel
theorem dL_law_1514 : decode cL_law 1514 = .ok (.invokevirtual 167, 3) := by decide +kernel
theorem dL_law_1517 : decode cL_law 1517 = .ok (.aload_n 2, 1) := by decide +kernel
theorem dL_law_1518 : decode cL_law 1518 = .ok (.invokevirtual 170, 3) := by decide +kernel
theorem dL_law_1521 : decode cL_law 1521 = .ok (.if_icmp .eq 18, 3) := by decide +kernel
theorem dL_law_1524 : decode cL_law 1524 = .ok (.iconst 0, 1) := by decide +kernel
theorem dL_law_1525 : decode cL_law 1525 = .ok (.ireturn, 1) := by decide +kernel
theorem dL_law_1526 : decode cL_law 1526 = .ok (.aload_n 1, 1) := by decide +kernel
theorem dL_law_1527 : decode cL_law 1527 = .ok (.invokevirtual 171, 3) := by decide +kernel
theorem dL_law_1530 : decode cL_law 1530 = .ok (.aload_n 2, 1) := by decide +kernel
theorem dL_law_1531 : decode cL_law 1531 = .ok (.invokevirtual 174, 3) := by decide +kernel
theorem dL_law_1534 : decode cL_law 1534 = .ok (.if_icmp .eq 5, 3) := by decide +kernel
theorem dL_law_1537 : decode cL_law 1537 = .ok (.iconst 0, 1) := by decide +kernel
theorem dL_law_1538 : decode cL_law 1538 = .ok (.ireturn, 1) := by decide +kernel
theorem dL_law_1539 : decode cL_law 1539 = .ok (.iinc 4 6, 3) := by decide +kernel
theorem dL_law_1542 : decode cL_law 1542 = .ok (.goto (-1519), 3) := by decide +kernel
theorem dL_law_1545 : decode cL_law 1545 = .ok (.iconst 1, 1) := by decide +kernel
theorem dL_law_1546 : decode cL_law 1546 = .ok (.ireturn, 1) := by decide +kernel
