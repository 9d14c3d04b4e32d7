theorem d_La_sweepDeadEnds_68 : decode prog_4_method_4_code 68 = .ok (.iload_n 2, 1) := by decide +kernel
theorem d_La_sweepDeadEnds_69 : decode prog_4_method_4_code 69 = .ok (.invokevirtual 88, 3) := by decide +kernel
theorem d_La_sweepDeadEnds_72 : decode prog_4_method_4_code 72 = .ok (.iinc 2 1, 3) := by decide +kernel
theorem d_La_sweepDeadEnds_75 : decode prog_4_method_4_code 75 = .ok (.goto (-35), 3) := by decide +kernel
theorem d_La_sweepDeadEnds_78 : decode prog_4_method_4_code 78 = .ok (.return_, 1) := by decide +kernel
theorem d_La_sweepUnkept_0 : decode prog_4_method_5_code 0 = .ok (.iconst 0, 1) := by decide +kernel
theorem d_La_sweepUnkept_1 : decode prog_4_method_5_code 1 = .ok (.istore_n 2, 1) := by decide +kernel
theorem d_La_sweepUnkept_2 : decode prog_4_method_5_code 2 = .ok (.iload_n 2, 1) := by decide +kernel
theorem d_La_sweepUnkept_3 : decode prog_4_method_5_code 3 = .ok (.aload_n 0, 1) := by decide +kernel
theorem d_La_sweepUnkept_4 : decode prog_4_method_5_code 4 = .ok (.getfield 34, 3) := by decide +kernel
theorem d_La_sweepUnkept_7 : decode prog_4_method_5_code 7 = .ok (.if_icmp .ge 46, 3) := by decide +kernel
theorem d_La_sweepUnkept_10 : decode prog_4_method_5_code 10 = .ok (.aload_n 0, 1) := by decide +kernel
theorem d_La_sweepUnkept_11 : decode prog_4_method_5_code 11 = .ok (.getfield 25, 3) := by decide +kernel
theorem d_La_sweepUnkept_14 : decode prog_4_method_5_code 14 = .ok (.iload_n 2, 1) := by decide +kernel
theorem d_La_sweepUnkept_15 : decode prog_4_method_5_code 15 = .ok (.baload, 1) := by decide +kernel
theorem d_La_sweepUnkept_16 : decode prog_4_method_5_code 16 = .ok (.ifCond .eq 31, 3) := by decide +kernel
theorem d_La_sweepUnkept_19 : decode prog_4_method_5_code 19 = .ok (.aload_n 0, 1) := by decide +kernel
theorem d_La_sweepUnkept_20 : decode prog_4_method_5_code 20 = .ok (.getfield 18, 3) := by decide +kernel
theorem d_La_sweepUnkept_23 : decode prog_4_method_5_code 23 = .ok (.iload_n 2, 1) := by decide +kernel
theorem d_La_sweepUnkept_24 : decode prog_4_method_5_code 24 = .ok (.iaload, 1) := by decide +kernel
theorem d_La_sweepUnkept_25 : decode prog_4_method_5_code 25 = .ok (.iload_n 1, 1) := by decide +kernel
theorem d_La_sweepUnkept_26 : decode prog_4_method_5_code 26 = .ok (.invokestatic 84, 3) := by decide +kernel
theorem d_La_sweepUnkept_29 : decode prog_4_method_5_code 29 = .ok (.ifCond .eq 18, 3) := by decide +kernel
theorem d_La_sweepUnkept_32 : decode prog_4_method_5_code 32 = .ok (.aload_n 0, 1) := by decide +kernel
theorem d_La_sweepUnkept_33 : decode prog_4_method_5_code 33 = .ok (.iload_n 2, 1) := by decide +kernel
theorem d_La_sweepUnkept_34 : decode prog_4_method_5_code 34 = .ok (.iload_n 1, 1) := by decide +kernel
theorem d_La_sweepUnkept_35 : decode prog_4_method_5_code 35 = .ok (.invokevirtual 91, 3) := by decide +kernel
theorem d_La_sweepUnkept_38 : decode prog_4_method_5_code 38 = .ok (.iconst (-1), 1) := by decide +kernel
theorem d_La_sweepUnkept_39 : decode prog_4_method_5_code 39 = .ok (.if_icmp .ne 8, 3) := by decide +kernel
theorem d_La_sweepUnkept_42 : decode prog_4_method_5_code 42 = .ok (.aload_n 0, 1) := by decide +kernel
theorem d_La_sweepUnkept_43 : decode prog_4_method_5_code 43 = .ok (.iload_n 2, 1) := by decide +kernel
theorem d_La_sweepUnkept_44 : decode prog_4_method_5_code 44 = .ok (.invokevirtual 88, 3) := by decide +kernel
theorem d_La_sweepUnkept_47 : decode prog_4_method_5_code 47 = .ok (.iinc 2 1, 3) := by decide +kernel
theorem d_La_sweepUnkept_50 : decode prog_4_method_5_code 50 = .ok (.goto (-48), 3) := by decide +kernel
theorem d_La_sweepUnkept_53 : decode prog_4_method_5_code 53 = .ok (.return_, 1) := by decide +kernel
theorem d_La_takeAway_0 : decode prog_4_method_6_code 0 = .ok (.aload_n 0, 1) := by decide +kernel
theorem d_La_takeAway_1 : decode prog_4_method_6_code 1 = .ok (.getfield 25, 3) := by decide +kernel
theorem d_La_takeAway_4 : decode prog_4_method_6_code 4 = .ok (.iload_n 1, 1) := by decide +kernel
theorem d_La_takeAway_5 : decode prog_4_method_6_code 5 = .ok (.iconst 0, 1) := by decide +kernel
theorem d_La_takeAway_6 : decode prog_4_method_6_code 6 = .ok (.bastore, 1) := by decide +kernel
theorem d_La_takeAway_7 : decode prog_4_method_6_code 7 = .ok (.aload_n 0, 1) := by decide +kernel
theorem d_La_takeAway_8 : decode prog_4_method_6_code 8 = .ok (.dup, 1) := by decide +kernel
theorem d_La_takeAway_9 : decode prog_4_method_6_code 9 = .ok (.getfield 41, 3) := by decide +kernel
theorem d_La_takeAway_12 : decode prog_4_method_6_code 12 = .ok (.iconst 1, 1) := by decide +kernel
theorem d_La_takeAway_13 : decode prog_4_method_6_code 13 = .ok (.isub, 1) := by decide +kernel
theorem d_La_takeAway_14 : decode prog_4_method_6_code 14 = .ok (.putfield 41, 3) := by decide +kernel
theorem d_La_takeAway_17 : decode prog_4_method_6_code 17 = .ok (.return_, 1) := by decide +kernel
theorem d_La_countSteps_0 : decode prog_4_method_7_code 0 = .ok (.iload_n 1, 1) := by decide +kernel
theorem d_La_countSteps_1 : decode prog_4_method_7_code 1 = .ok (.sipush 256, 3) := by decide +kernel
theorem d_La_countSteps_4 : decode prog_4_method_7_code 4 = .ok (.imul, 1) := by decide +kernel
theorem d_La_countSteps_5 : decode prog_4_method_7_code 5 = .ok (.istore_n 2, 1) := by decide +kernel
theorem d_La_countSteps_6 : decode prog_4_method_7_code 6 = .ok (.iconst 0, 1) := by decide +kernel
theorem d_La_countSteps_7 : decode prog_4_method_7_code 7 = .ok (.istore_n 3, 1) := by decide +kernel
theorem d_La_countSteps_8 : decode prog_4_method_7_code 8 = .ok (.iconst 0, 1) := by decide +kernel
theorem d_La_countSteps_9 : decode prog_4_method_7_code 9 = .ok (.istore 4, 2) := by decide +kernel
theorem d_La_countSteps_11 : decode prog_4_method_7_code 11 = .ok (.iload 4, 2) := by decide +kernel
theorem d_La_countSteps_13 : decode prog_4_method_7_code 13 = .ok (.aload_n 0, 1) := by decide +kernel
theorem d_La_countSteps_14 : decode prog_4_method_7_code 14 = .ok (.getfield 34, 3) := by decide +kernel
theorem d_La_countSteps_17 : decode prog_4_method_7_code 17 = .ok (.if_icmp .ge 75, 3) := by decide +kernel
theorem d_La_countSteps_20 : decode prog_4_method_7_code 20 = .ok (.aload_n 0, 1) := by decide +kernel
theorem d_La_countSteps_21 : decode prog_4_method_7_code 21 = .ok (.getfield 25, 3) := by decide +kernel
theorem d_La_countSteps_24 : decode prog_4_method_7_code 24 = .ok (.iload 4, 2) := by decide +kernel
theorem d_La_countSteps_26 : decode prog_4_method_7_code 26 = .ok (.baload, 1) := by decide +kernel
theorem d_La_countSteps_27 : decode prog_4_method_7_code 27 = .ok (.ifCond .eq 21, 3) := by decide +kernel
theorem d_La_countSteps_30 : decode prog_4_method_7_code 30 = .ok (.aload_n 0, 1) := by decide +kernel
theorem d_La_countSteps_31 : decode prog_4_method_7_code 31 = .ok (.getfield 15, 3) := by decide +kernel
theorem d_La_countSteps_34 : decode prog_4_method_7_code 34 = .ok (.iload 4, 2) := by decide +kernel
theorem d_La_countSteps_36 : decode prog_4_method_7_code 36 = .ok (.iaload, 1) := by decide +kernel
theorem d_La_countSteps_37 : decode prog_4_method_7_code 37 = .ok (.iload_n 1, 1) := by decide +kernel
theorem d_La_countSteps_38 : decode prog_4_method_7_code 38 = .ok (.invokestatic 84, 3) := by decide +kernel
theorem d_La_countSteps_41 : decode prog_4_method_7_code 41 = .ok (.ifCond .eq 7, 3) := by decide +kernel
theorem d_La_countSteps_44 : decode prog_4_method_7_code 44 = .ok (.iconst 1, 1) := by decide +kernel
theorem d_La_countSteps_45 : decode prog_4_method_7_code 45 = .ok (.goto 4, 3) := by decide +kernel
theorem d_La_countSteps_48 : decode prog_4_method_7_code 48 = .ok (.iconst 0, 1) := by decide +kernel
theorem d_La_countSteps_49 : decode prog_4_method_7_code 49 = .ok (.istore 5, 2) := by decide +kernel
theorem d_La_countSteps_51 : decode prog_4_method_7_code 51 = .ok (.aload_n 0, 1) := by decide +kernel
theorem d_La_countSteps_52 : decode prog_4_method_7_code 52 = .ok (.getfield 28, 3) := by decide +kernel
theorem d_La_countSteps_55 : decode prog_4_method_7_code 55 = .ok (.iload_n 2, 1) := by decide +kernel
theorem d_La_countSteps_56 : decode prog_4_method_7_code 56 = .ok (.iload 4, 2) := by decide +kernel
theorem d_La_countSteps_58 : decode prog_4_method_7_code 58 = .ok (.iadd, 1) := by decide +kernel
theorem d_La_countSteps_59 : decode prog_4_method_7_code 59 = .ok (.iload 5, 2) := by decide +kernel
theorem d_La_countSteps_61 : decode prog_4_method_7_code 61 = .ok (.ifCond .eq 7, 3) := by decide +kernel
theorem d_La_countSteps_64 : decode prog_4_method_7_code 64 = .ok (.iconst 0, 1) := by decide +kernel
theorem d_La_countSteps_65 : decode prog_4_method_7_code 65 = .ok (.goto 4, 3) := by decide +kernel
theorem d_La_countSteps_68 : decode prog_4_method_7_code 68 = .ok (.iconst (-1), 1) := by decide +kernel
theorem d_La_countSteps_69 : decode prog_4_method_7_code 69 = .ok (.iastore, 1) := by decide +kernel
theorem d_La_countSteps_70 : decode prog_4_method_7_code 70 = .ok (.iload 5, 2) := by decide +kernel
theorem d_La_countSteps_72 : decode prog_4_method_7_code 72 = .ok (.ifCond .eq 14, 3) := by decide +kernel
theorem d_La_countSteps_75 : decode prog_4_method_7_code 75 = .ok (.aload_n 0, 1) := by decide +kernel
theorem d_La_countSteps_76 : decode prog_4_method_7_code 76 = .ok (.getfield 31, 3) := by decide +kernel
theorem d_La_countSteps_79 : decode prog_4_method_7_code 79 = .ok (.iload_n 3, 1) := by decide +kernel
theorem d_La_countSteps_80 : decode prog_4_method_7_code 80 = .ok (.iload 4, 2) := by decide +kernel
theorem d_La_countSteps_82 : decode prog_4_method_7_code 82 = .ok (.iastore, 1) := by decide +kernel
theorem d_La_countSteps_83 : decode prog_4_method_7_code 83 = .ok (.iinc 3 1, 3) := by decide +kernel
theorem d_La_countSteps_86 : decode prog_4_method_7_code 86 = .ok (.iinc 4 1, 3) := by decide +kernel
theorem d_La_countSteps_89 : decode prog_4_method_7_code 89 = .ok (.goto (-78), 3) := by decide +kernel
theorem d_La_countSteps_92 : decode prog_4_method_7_code 92 = .ok (.iconst 0, 1) := by decide +kernel
theorem d_La_countSteps_93 : decode prog_4_method_7_code 93 = .ok (.istore 4, 2) := by decide +kernel
theorem d_La_countSteps_95 : decode prog_4_method_7_code 95 = .ok (.iload 4, 2) := by decide +kernel
theorem d_La_countSteps_97 : decode prog_4_method_7_code 97 = .ok (.iload_n 3, 1) := by decide +kernel
theorem d_La_countSteps_98 : decode prog_4_method_7_code 98 = .ok (.if_icmp .ge 32, 3) := by decide +kernel
theorem d_La_countSteps_101 : decode prog_4_method_7_code 101 = .ok (.iload 4, 2) := by decide +kernel
theorem d_La_countSteps_103 : decode prog_4_method_7_code 103 = .ok (.aload_n 0, 1) := by decide +kernel
theorem d_La_countSteps_104 : decode prog_4_method_7_code 104 = .ok (.getfield 34, 3) := by decide +kernel
theorem d_La_countSteps_107 : decode prog_4_method_7_code 107 = .ok (.if_icmp .ge 23, 3) := by decide +kernel
theorem d_La_countSteps_110 : decode prog_4_method_7_code 110 = .ok (.aload_n 0, 1) := by decide +kernel
theorem d_La_countSteps_111 : decode prog_4_method_7_code 111 = .ok (.aload_n 0, 1) := by decide +kernel
theorem d_La_countSteps_112 : decode prog_4_method_7_code 112 = .ok (.getfield 31, 3) := by decide +kernel
theorem d_La_countSteps_115 : decode prog_4_method_7_code 115 = .ok (.iload 4, 2) := by decide +kernel
theorem d_La_countSteps_117 : decode prog_4_method_7_code 117 = .ok (.iaload, 1) := by decide +kernel
theorem d_La_countSteps_118 : decode prog_4_method_7_code 118 = .ok (.iload_n 2, 1) := by decide +kernel
theorem d_La_countSteps_119 : decode prog_4_method_7_code 119 = .ok (.iload_n 3, 1) := by decide +kernel
theorem d_La_countSteps_120 : decode prog_4_method_7_code 120 = .ok (.invokevirtual 95, 3) := by decide +kernel
theorem d_La_countSteps_123 : decode prog_4_method_7_code 123 = .ok (.istore_n 3, 1) := by decide +kernel
theorem d_La_countSteps_124 : decode prog_4_method_7_code 124 = .ok (.iinc 4 1, 3) := by decide +kernel
theorem d_La_countSteps_127 : decode prog_4_method_7_code 127 = .ok (.goto (-32), 3) := by decide +kernel
theorem d_La_countSteps_130 : decode prog_4_method_7_code 130 = .ok (.return_, 1) := by decide +kernel
theorem d_La_reachBefore_0 : decode prog_4_method_8_code 0 = .ok (.iload_n 3, 1) := by decide +kernel
theorem d_La_reachBefore_1 : decode prog_4_method_8_code 1 = .ok (.istore 4, 2) := by decide +kernel
theorem d_La_reachBefore_3 : decode prog_4_method_8_code 3 = .ok (.aload_n 0, 1) := by decide +kernel
theorem d_La_reachBefore_4 : decode prog_4_method_8_code 4 = .ok (.getfield 9, 3) := by decide +kernel
theorem d_La_reachBefore_7 : decode prog_4_method_8_code 7 = .ok (.iload_n 1, 1) := by decide +kernel
theorem d_La_reachBefore_8 : decode prog_4_method_8_code 8 = .ok (.iaload, 1) := by decide +kernel
theorem d_La_reachBefore_9 : decode prog_4_method_8_code 9 = .ok (.iconst 3, 1) := by decide +kernel
theorem d_La_reachBefore_10 : decode prog_4_method_8_code 10 = .ok (.ishl, 1) := by decide +kernel
theorem d_La_reachBefore_11 : decode prog_4_method_8_code 11 = .ok (.istore 5, 2) := by decide +kernel
theorem d_La_reachBefore_13 : decode prog_4_method_8_code 13 = .ok (.iload 5, 2) := by decide +kernel
theorem d_La_reachBefore_15 : decode prog_4_method_8_code 15 = .ok (.istore 6, 2) := by decide +kernel
theorem d_La_reachBefore_17 : decode prog_4_method_8_code 17 = .ok (.iload 6, 2) := by decide +kernel
theorem d_La_reachBefore_19 : decode prog_4_method_8_code 19 = .ok (.iload 5, 2) := by decide +kernel
theorem d_La_reachBefore_21 : decode prog_4_method_8_code 21 = .ok (.bipush 8, 2) := by decide +kernel
theorem d_La_reachBefore_23 : decode prog_4_method_8_code 23 = .ok (.iadd, 1) := by decide +kernel
theorem d_La_reachBefore_24 : decode prog_4_method_8_code 24 = .ok (.if_icmp .ge 63, 3) := by decide +kernel
theorem d_La_reachBefore_27 : decode prog_4_method_8_code 27 = .ok (.aload_n 0, 1) := by decide +kernel
theorem d_La_reachBefore_28 : decode prog_4_method_8_code 28 = .ok (.getfield 25, 3) := by decide +kernel
theorem d_La_reachBefore_31 : decode prog_4_method_8_code 31 = .ok (.iload 6, 2) := by decide +kernel
theorem d_La_reachBefore_33 : decode prog_4_method_8_code 33 = .ok (.baload, 1) := by decide +kernel
theorem d_La_reachBefore_34 : decode prog_4_method_8_code 34 = .ok (.ifCond .eq 47, 3) := by decide +kernel
theorem d_La_reachBefore_37 : decode prog_4_method_8_code 37 = .ok (.aload_n 0, 1) := by decide +kernel
theorem d_La_reachBefore_38 : decode prog_4_method_8_code 38 = .ok (.getfield 28, 3) := by decide +kernel
theorem d_La_reachBefore_41 : decode prog_4_method_8_code 41 = .ok (.iload_n 2, 1) := by decide +kernel
theorem d_La_reachBefore_42 : decode prog_4_method_8_code 42 = .ok (.iload 6, 2) := by decide +kernel
theorem d_La_reachBefore_44 : decode prog_4_method_8_code 44 = .ok (.iadd, 1) := by decide +kernel
theorem d_La_reachBefore_45 : decode prog_4_method_8_code 45 = .ok (.iaload, 1) := by decide +kernel
theorem d_La_reachBefore_46 : decode prog_4_method_8_code 46 = .ok (.iconst (-1), 1) := by decide +kernel
theorem d_La_reachBefore_47 : decode prog_4_method_8_code 47 = .ok (.if_icmp .ne 34, 3) := by decide +kernel
theorem d_La_reachBefore_50 : decode prog_4_method_8_code 50 = .ok (.aload_n 0, 1) := by decide +kernel
theorem d_La_reachBefore_51 : decode prog_4_method_8_code 51 = .ok (.getfield 28, 3) := by decide +kernel
theorem d_La_reachBefore_54 : decode prog_4_method_8_code 54 = .ok (.iload_n 2, 1) := by decide +kernel
theorem d_La_reachBefore_55 : decode prog_4_method_8_code 55 = .ok (.iload 6, 2) := by decide +kernel
theorem d_La_reachBefore_57 : decode prog_4_method_8_code 57 = .ok (.iadd, 1) := by decide +kernel
theorem d_La_reachBefore_58 : decode prog_4_method_8_code 58 = .ok (.aload_n 0, 1) := by decide +kernel
theorem d_La_reachBefore_59 : decode prog_4_method_8_code 59 = .ok (.getfield 28, 3) := by decide +kernel
theorem d_La_reachBefore_62 : decode prog_4_method_8_code 62 = .ok (.iload_n 2, 1) := by decide +kernel
theorem d_La_reachBefore_63 : decode prog_4_method_8_code 63 = .ok (.iload_n 1, 1) := by decide +kernel
theorem d_La_reachBefore_64 : decode prog_4_method_8_code 64 = .ok (.iadd, 1) := by decide +kernel
theorem d_La_reachBefore_65 : decode prog_4_method_8_code 65 = .ok (.iaload, 1) := by decide +kernel
theorem d_La_reachBefore_66 : decode prog_4_method_8_code 66 = .ok (.iconst 1, 1) := by decide +kernel
theorem d_La_reachBefore_67 : decode prog_4_method_8_code 67 = .ok (.iadd, 1) := by decide +kernel
theorem d_La_reachBefore_68 : decode prog_4_method_8_code 68 = .ok (.iastore, 1) := by decide +kernel
theorem d_La_reachBefore_69 : decode prog_4_method_8_code 69 = .ok (.aload_n 0, 1) := by decide +kernel
theorem d_La_reachBefore_70 : decode prog_4_method_8_code 70 = .ok (.getfield 31, 3) := by decide +kernel
theorem d_La_reachBefore_73 : decode prog_4_method_8_code 73 = .ok (.iload 4, 2) := by decide +kernel
theorem d_La_reachBefore_75 : decode prog_4_method_8_code 75 = .ok (.iload 6, 2) := by decide +kernel
theorem d_La_reachBefore_77 : decode prog_4_method_8_code 77 = .ok (.iastore, 1) := by decide +kernel
theorem d_La_reachBefore_78 : decode prog_4_method_8_code 78 = .ok (.iinc 4 1, 3) := by decide +kernel
theorem d_La_reachBefore_81 : decode prog_4_method_8_code 81 = .ok (.iinc 6 1, 3) := by decide +kernel
theorem d_La_reachBefore_84 : decode prog_4_method_8_code 84 = .ok (.goto (-67), 3) := by decide +kernel
theorem d_La_reachBefore_87 : decode prog_4_method_8_code 87 = .ok (.iload 4, 2) := by decide +kernel
theorem d_La_reachBefore_89 : decode prog_4_method_8_code 89 = .ok (.ireturn, 1) := by decide +kernel
theorem d_La_stepsFrom_0 : decode prog_4_method_9_code 0 = .ok (.aload_n 0, 1) := by decide +kernel
theorem d_La_stepsFrom_1 : decode prog_4_method_9_code 1 = .ok (.getfield 28, 3) := by decide +kernel
theorem d_La_stepsFrom_4 : decode prog_4_method_9_code 4 = .ok (.iload_n 2, 1) := by decide +kernel
theorem d_La_stepsFrom_5 : decode prog_4_method_9_code 5 = .ok (.sipush 256, 3) := by decide +kernel
theorem d_La_stepsFrom_8 : decode prog_4_method_9_code 8 = .ok (.imul, 1) := by decide +kernel
theorem d_La_stepsFrom_9 : decode prog_4_method_9_code 9 = .ok (.iload_n 1, 1) := by decide +kernel
theorem d_La_stepsFrom_10 : decode prog_4_method_9_code 10 = .ok (.iadd, 1) := by decide +kernel
theorem d_La_stepsFrom_11 : decode prog_4_method_9_code 11 = .ok (.iaload, 1) := by decide +kernel
theorem d_La_stepsFrom_12 : decode prog_4_method_9_code 12 = .ok (.ireturn, 1) := by decide +kernel
theorem d_La_has_0 : decode prog_4_method_10_code 0 = .ok (.aload_n 0, 1) := by decide +kernel
theorem d_La_has_1 : decode prog_4_method_10_code 1 = .ok (.getfield 25, 3) := by decide +kernel
theorem d_La_has_4 : decode prog_4_method_10_code 4 = .ok (.iload_n 1, 1) := by decide +kernel
theorem d_La_has_5 : decode prog_4_method_10_code 5 = .ok (.baload, 1) := by decide +kernel
theorem d_La_has_6 : decode prog_4_method_10_code 6 = .ok (.ireturn, 1) := by decide +kernel
theorem d_La_size_0 : decode prog_4_method_11_code 0 = .ok (.aload_n 0, 1) := by decide +kernel
theorem d_La_size_1 : decode prog_4_method_11_code 1 = .ok (.getfield 41, 3) := by decide +kernel
theorem d_La_size_4 : decode prog_4_method_11_code 4 = .ok (.ireturn, 1) := by decide +kernel
theorem d_La_leastWhole_0 : decode prog_4_method_12_code 0 = .ok (.iconst 0, 1) := by decide +kernel
theorem d_La_leastWhole_1 : decode prog_4_method_12_code 1 = .ok (.istore_n 1, 1) := by decide +kernel
theorem d_La_leastWhole_2 : decode prog_4_method_12_code 2 = .ok (.iload_n 1, 1) := by decide +kernel
theorem d_La_leastWhole_3 : decode prog_4_method_12_code 3 = .ok (.aload_n 0, 1) := by decide +kernel
theorem d_La_leastWhole_4 : decode prog_4_method_12_code 4 = .ok (.getfield 34, 3) := by decide +kernel
theorem d_La_leastWhole_7 : decode prog_4_method_12_code 7 = .ok (.if_icmp .ge 29, 3) := by decide +kernel
theorem d_La_leastWhole_10 : decode prog_4_method_12_code 10 = .ok (.aload_n 0, 1) := by decide +kernel
theorem d_La_leastWhole_11 : decode prog_4_method_12_code 11 = .ok (.getfield 25, 3) := by decide +kernel
theorem d_La_leastWhole_14 : decode prog_4_method_12_code 14 = .ok (.iload_n 1, 1) := by decide +kernel
theorem d_La_leastWhole_15 : decode prog_4_method_12_code 15 = .ok (.baload, 1) := by decide +kernel
theorem d_La_leastWhole_16 : decode prog_4_method_12_code 16 = .ok (.ifCond .eq 14, 3) := by decide +kernel
theorem d_La_leastWhole_19 : decode prog_4_method_12_code 19 = .ok (.aload_n 0, 1) := by decide +kernel
theorem d_La_leastWhole_20 : decode prog_4_method_12_code 20 = .ok (.getfield 21, 3) := by decide +kernel
theorem d_La_leastWhole_23 : decode prog_4_method_12_code 23 = .ok (.iload_n 1, 1) := by decide +kernel
theorem d_La_leastWhole_24 : decode prog_4_method_12_code 24 = .ok (.baload, 1) := by decide +kernel
theorem d_La_leastWhole_25 : decode prog_4_method_12_code 25 = .ok (.ifCond .eq 5, 3) := by decide +kernel
theorem d_La_leastWhole_28 : decode prog_4_method_12_code 28 = .ok (.iload_n 1, 1) := by decide +kernel
theorem d_La_leastWhole_29 : decode prog_4_method_12_code 29 = .ok (.ireturn, 1) := by decide +kernel
theorem d_La_leastWhole_30 : decode prog_4_method_12_code 30 = .ok (.iinc 1 1, 3) := by decide +kernel
theorem d_La_leastWhole_33 : decode prog_4_method_12_code 33 = .ok (.goto (-31), 3) := by decide +kernel
theorem d_La_leastWhole_36 : decode prog_4_method_12_code 36 = .ok (.iconst (-1), 1) := by decide +kernel
theorem d_La_leastWhole_37 : decode prog_4_method_12_code 37 = .ok (.ireturn, 1) := by decide +kernel
theorem d_La_dutyFrom_0 : decode prog_4_method_13_code 0 = .ok (.iload_n 2, 1) := by decide +kernel
theorem d_La_dutyFrom_1 : decode prog_4_method_13_code 1 = .ok (.istore_n 3, 1) := by decide +kernel
theorem d_La_dutyFrom_2 : decode prog_4_method_13_code 2 = .ok (.iconst 0, 1) := by decide +kernel
theorem d_La_dutyFrom_3 : decode prog_4_method_13_code 3 = .ok (.istore 4, 2) := by decide +kernel
theorem d_La_dutyFrom_5 : decode prog_4_method_13_code 5 = .ok (.iload 4, 2) := by decide +kernel
theorem d_La_dutyFrom_7 : decode prog_4_method_13_code 7 = .ok (.aload_n 0, 1) := by decide +kernel
theorem d_La_dutyFrom_8 : decode prog_4_method_13_code 8 = .ok (.getfield 38, 3) := by decide +kernel
theorem d_La_dutyFrom_11 : decode prog_4_method_13_code 11 = .ok (.if_icmp .ge 42, 3) := by decide +kernel
theorem d_La_dutyFrom_14 : decode prog_4_method_13_code 14 = .ok (.aload_n 0, 1) := by decide +kernel
theorem d_La_dutyFrom_15 : decode prog_4_method_13_code 15 = .ok (.getfield 18, 3) := by decide +kernel
theorem d_La_dutyFrom_18 : decode prog_4_method_13_code 18 = .ok (.iload_n 1, 1) := by decide +kernel
theorem d_La_dutyFrom_19 : decode prog_4_method_13_code 19 = .ok (.iaload, 1) := by decide +kernel
theorem d_La_dutyFrom_20 : decode prog_4_method_13_code 20 = .ok (.iload_n 3, 1) := by decide +kernel
theorem d_La_dutyFrom_21 : decode prog_4_method_13_code 21 = .ok (.invokestatic 84, 3) := by decide +kernel
theorem d_La_dutyFrom_24 : decode prog_4_method_13_code 24 = .ok (.ifCond .eq 5, 3) := by decide +kernel
theorem d_La_dutyFrom_27 : decode prog_4_method_13_code 27 = .ok (.iload_n 3, 1) := by decide +kernel
theorem d_La_dutyFrom_28 : decode prog_4_method_13_code 28 = .ok (.ireturn, 1) := by decide +kernel
theorem d_La_dutyFrom_29 : decode prog_4_method_13_code 29 = .ok (.iload_n 3, 1) := by decide +kernel
theorem d_La_dutyFrom_30 : decode prog_4_method_13_code 30 = .ok (.iconst 1, 1) := by decide +kernel
theorem d_La_dutyFrom_31 : decode prog_4_method_13_code 31 = .ok (.iadd, 1) := by decide +kernel
theorem d_La_dutyFrom_32 : decode prog_4_method_13_code 32 = .ok (.aload_n 0, 1) := by decide +kernel
theorem d_La_dutyFrom_33 : decode prog_4_method_13_code 33 = .ok (.getfield 38, 3) := by decide +kernel
theorem d_La_dutyFrom_36 : decode prog_4_method_13_code 36 = .ok (.if_icmp .ge 9, 3) := by decide +kernel
theorem d_La_dutyFrom_39 : decode prog_4_method_13_code 39 = .ok (.iload_n 3, 1) := by decide +kernel
theorem d_La_dutyFrom_40 : decode prog_4_method_13_code 40 = .ok (.iconst 1, 1) := by decide +kernel
theorem d_La_dutyFrom_41 : decode prog_4_method_13_code 41 = .ok (.iadd, 1) := by decide +kernel
theorem d_La_dutyFrom_42 : decode prog_4_method_13_code 42 = .ok (.goto 4, 3) := by decide +kernel
theorem d_La_dutyFrom_45 : decode prog_4_method_13_code 45 = .ok (.iconst 0, 1) := by decide +kernel
theorem d_La_dutyFrom_46 : decode prog_4_method_13_code 46 = .ok (.istore_n 3, 1) := by decide +kernel
theorem d_La_dutyFrom_47 : decode prog_4_method_13_code 47 = .ok (.iinc 4 1, 3) := by decide +kernel
theorem d_La_dutyFrom_50 : decode prog_4_method_13_code 50 = .ok (.goto (-45), 3) := by decide +kernel
theorem d_La_dutyFrom_53 : decode prog_4_method_13_code 53 = .ok (.iload_n 2, 1) := by decide +kernel
theorem d_La_dutyFrom_54 : decode prog_4_method_13_code 54 = .ok (.ireturn, 1) := by decide +kernel
theorem d_La_nextFrom_0 : decode prog_4_method_14_code 0 = .ok (.aload_n 0, 1) := by decide +kernel
theorem d_La_nextFrom_1 : decode prog_4_method_14_code 1 = .ok (.getfield 18, 3) := by decide +kernel
theorem d_La_nextFrom_4 : decode prog_4_method_14_code 4 = .ok (.iload_n 1, 1) := by decide +kernel
theorem d_La_nextFrom_5 : decode prog_4_method_14_code 5 = .ok (.iaload, 1) := by decide +kernel
theorem d_La_nextFrom_6 : decode prog_4_method_14_code 6 = .ok (.iload_n 2, 1) := by decide +kernel
theorem d_La_nextFrom_7 : decode prog_4_method_14_code 7 = .ok (.invokestatic 84, 3) := by decide +kernel
theorem d_La_nextFrom_10 : decode prog_4_method_14_code 10 = .ok (.istore_n 3, 1) := by decide +kernel
theorem d_La_nextFrom_11 : decode prog_4_method_14_code 11 = .ok (.iconst (-1), 1) := by decide +kernel
theorem d_La_nextFrom_12 : decode prog_4_method_14_code 12 = .ok (.istore 4, 2) := by decide +kernel
theorem d_La_nextFrom_14 : decode prog_4_method_14_code 14 = .ok (.iconst 0, 1) := by decide +kernel
theorem d_La_nextFrom_15 : decode prog_4_method_14_code 15 = .ok (.istore 5, 2) := by decide +kernel
theorem d_La_nextFrom_17 : decode prog_4_method_14_code 17 = .ok (.iload 5, 2) := by decide +kernel
theorem d_La_nextFrom_19 : decode prog_4_method_14_code 19 = .ok (.aload_n 0, 1) := by decide +kernel
theorem d_La_nextFrom_20 : decode prog_4_method_14_code 20 = .ok (.getfield 34, 3) := by decide +kernel
theorem d_La_nextFrom_23 : decode prog_4_method_14_code 23 = .ok (.if_icmp .ge 70, 3) := by decide +kernel
theorem d_La_nextFrom_26 : decode prog_4_method_14_code 26 = .ok (.aload_n 0, 1) := by decide +kernel
theorem d_La_nextFrom_27 : decode prog_4_method_14_code 27 = .ok (.getfield 25, 3) := by decide +kernel
theorem d_La_nextFrom_30 : decode prog_4_method_14_code 30 = .ok (.iload 5, 2) := by decide +kernel
theorem d_La_nextFrom_32 : decode prog_4_method_14_code 32 = .ok (.baload, 1) := by decide +kernel
theorem d_La_nextFrom_33 : decode prog_4_method_14_code 33 = .ok (.ifCond .eq 20, 3) := by decide +kernel
theorem d_La_nextFrom_36 : decode prog_4_method_14_code 36 = .ok (.aload_n 0, 1) := by decide +kernel
theorem d_La_nextFrom_37 : decode prog_4_method_14_code 37 = .ok (.getfield 9, 3) := by decide +kernel
theorem d_La_nextFrom_40 : decode prog_4_method_14_code 40 = .ok (.iload 5, 2) := by decide +kernel
theorem d_La_nextFrom_42 : decode prog_4_method_14_code 42 = .ok (.iaload, 1) := by decide +kernel
theorem d_La_nextFrom_43 : decode prog_4_method_14_code 43 = .ok (.iload_n 1, 1) := by decide +kernel
theorem d_La_nextFrom_44 : decode prog_4_method_14_code 44 = .ok (.iconst 3, 1) := by decide +kernel
theorem d_La_nextFrom_45 : decode prog_4_method_14_code 45 = .ok (.ishr, 1) := by decide +kernel
theorem d_La_nextFrom_46 : decode prog_4_method_14_code 46 = .ok (.if_icmp .ne 7, 3) := by decide +kernel
theorem d_La_nextFrom_49 : decode prog_4_method_14_code 49 = .ok (.iconst 1, 1) := by decide +kernel
theorem d_La_nextFrom_50 : decode prog_4_method_14_code 50 = .ok (.goto 4, 3) := by decide +kernel
theorem d_La_nextFrom_53 : decode prog_4_method_14_code 53 = .ok (.iconst 0, 1) := by decide +kernel
theorem d_La_nextFrom_54 : decode prog_4_method_14_code 54 = .ok (.istore 6, 2) := by decide +kernel
theorem d_La_nextFrom_56 : decode prog_4_method_14_code 56 = .ok (.iload 6, 2) := by decide +kernel
theorem d_La_nextFrom_58 : decode prog_4_method_14_code 58 = .ok (.ifCond .eq 29, 3) := by decide +kernel
theorem d_La_nextFrom_61 : decode prog_4_method_14_code 61 = .ok (.iload 4, 2) := by decide +kernel
theorem d_La_nextFrom_63 : decode prog_4_method_14_code 63 = .ok (.iconst (-1), 1) := by decide +kernel
theorem d_La_nextFrom_64 : decode prog_4_method_14_code 64 = .ok (.if_icmp .eq 19, 3) := by decide +kernel
theorem d_La_nextFrom_67 : decode prog_4_method_14_code 67 = .ok (.iload_n 3, 1) := by decide +kernel
theorem d_La_nextFrom_68 : decode prog_4_method_14_code 68 = .ok (.ifCond .eq 19, 3) := by decide +kernel
theorem d_La_nextFrom_71 : decode prog_4_method_14_code 71 = .ok (.aload_n 0, 1) := by decide +kernel
theorem d_La_nextFrom_72 : decode prog_4_method_14_code 72 = .ok (.iload 5, 2) := by decide +kernel
theorem d_La_nextFrom_74 : decode prog_4_method_14_code 74 = .ok (.iload 4, 2) := by decide +kernel
theorem d_La_nextFrom_76 : decode prog_4_method_14_code 76 = .ok (.iload_n 2, 1) := by decide +kernel
theorem d_La_nextFrom_77 : decode prog_4_method_14_code 77 = .ok (.invokevirtual 99, 3) := by decide +kernel
theorem d_La_nextFrom_80 : decode prog_4_method_14_code 80 = .ok (.ifCond .eq 7, 3) := by decide +kernel
theorem d_La_nextFrom_83 : decode prog_4_method_14_code 83 = .ok (.iload 5, 2) := by decide +kernel
theorem d_La_nextFrom_85 : decode prog_4_method_14_code 85 = .ok (.istore 4, 2) := by decide +kernel
theorem d_La_nextFrom_87 : decode prog_4_method_14_code 87 = .ok (.iinc 5 1, 3) := by decide +kernel
theorem d_La_nextFrom_90 : decode prog_4_method_14_code 90 = .ok (.goto (-73), 3) := by decide +kernel
theorem d_La_nextFrom_93 : decode prog_4_method_14_code 93 = .ok (.iload 4, 2) := by decide +kernel
theorem d_La_nextFrom_95 : decode prog_4_method_14_code 95 = .ok (.ireturn, 1) := by decide +kernel
theorem d_La_isNearer_0 : decode prog_4_method_15_code 0 = .ok (.aload_n 0, 1) := by decide +kernel
theorem d_La_isNearer_1 : decode prog_4_method_15_code 1 = .ok (.iload_n 2, 1) := by decide +kernel
theorem d_La_isNearer_2 : decode prog_4_method_15_code 2 = .ok (.iload_n 3, 1) := by decide +kernel
theorem d_La_isNearer_3 : decode prog_4_method_15_code 3 = .ok (.invokevirtual 91, 3) := by decide +kernel
theorem d_La_isNearer_6 : decode prog_4_method_15_code 6 = .ok (.istore 4, 2) := by decide +kernel
theorem d_La_isNearer_8 : decode prog_4_method_15_code 8 = .ok (.aload_n 0, 1) := by decide +kernel
theorem d_La_isNearer_9 : decode prog_4_method_15_code 9 = .ok (.iload_n 1, 1) := by decide +kernel
theorem d_La_isNearer_10 : decode prog_4_method_15_code 10 = .ok (.iload_n 3, 1) := by decide +kernel
theorem d_La_isNearer_11 : decode prog_4_method_15_code 11 = .ok (.invokevirtual 91, 3) := by decide +kernel
theorem d_La_isNearer_14 : decode prog_4_method_15_code 14 = .ok (.istore 5, 2) := by decide +kernel
theorem d_La_isNearer_16 : decode prog_4_method_15_code 16 = .ok (.iload 5, 2) := by decide +kernel
theorem d_La_isNearer_18 : decode prog_4_method_15_code 18 = .ok (.iconst (-1), 1) := by decide +kernel
theorem d_La_isNearer_19 : decode prog_4_method_15_code 19 = .ok (.if_icmp .eq 20, 3) := by decide +kernel
theorem d_La_isNearer_22 : decode prog_4_method_15_code 22 = .ok (.iload 4, 2) := by decide +kernel
theorem d_La_isNearer_24 : decode prog_4_method_15_code 24 = .ok (.iconst (-1), 1) := by decide +kernel
theorem d_La_isNearer_25 : decode prog_4_method_15_code 25 = .ok (.if_icmp .eq 10, 3) := by decide +kernel
theorem d_La_isNearer_28 : decode prog_4_method_15_code 28 = .ok (.iload 5, 2) := by decide +kernel
theorem d_La_isNearer_30 : decode prog_4_method_15_code 30 = .ok (.iload 4, 2) := by decide +kernel
theorem d_La_isNearer_32 : decode prog_4_method_15_code 32 = .ok (.if_icmp .ge 7, 3) := by decide +kernel
theorem d_La_isNearer_35 : decode prog_4_method_15_code 35 = .ok (.iconst 1, 1) := by decide +kernel
theorem d_La_isNearer_36 : decode prog_4_method_15_code 36 = .ok (.goto 4, 3) := by decide +kernel
theorem d_La_isNearer_39 : decode prog_4_method_15_code 39 = .ok (.iconst 0, 1) := by decide +kernel
theorem d_La_isNearer_40 : decode prog_4_method_15_code 40 = .ok (.ireturn, 1) := by decide +kernel
theorem d_Li_countTyped_0 : decode prog_5_method_2_code 0 = .ok (.iconst 0, 1) := by decide +kernel
theorem d_Li_countTyped_1 : decode prog_5_method_2_code 1 = .ok (.istore_n 1, 1) := by decide +kernel
theorem d_Li_countTyped_2 : decode prog_5_method_2_code 2 = .ok (.iload_n 1, 1) := by decide +kernel
theorem d_Li_countTyped_3 : decode prog_5_method_2_code 3 = .ok (.iconst 4, 1) := by decide +kernel
theorem d_Li_countTyped_4 : decode prog_5_method_2_code 4 = .ok (.if_icmp .ge 17, 3) := by decide +kernel
theorem d_Li_countTyped_7 : decode prog_5_method_2_code 7 = .ok (.iload_n 0, 1) := by decide +kernel
theorem d_Li_countTyped_8 : decode prog_5_method_2_code 8 = .ok (.iload_n 1, 1) := by decide +kernel
theorem d_Li_countTyped_9 : decode prog_5_method_2_code 9 = .ok (.invokestatic 22, 3) := by decide +kernel
theorem d_Li_countTyped_12 : decode prog_5_method_2_code 12 = .ok (.ifCond .eq 9, 3) := by decide +kernel
theorem d_Li_countTyped_15 : decode prog_5_method_2_code 15 = .ok (.iinc 1 1, 3) := by decide +kernel
theorem d_Li_countTyped_18 : decode prog_5_method_2_code 18 = .ok (.goto (-16), 3) := by decide +kernel
theorem d_Li_countTyped_21 : decode prog_5_method_2_code 21 = .ok (.iload_n 1, 1) := by decide +kernel
theorem d_Li_countTyped_22 : decode prog_5_method_2_code 22 = .ok (.ireturn, 1) := by decide +kernel
theorem d_Li_areVisible_0 : decode prog_5_method_3_code 0 = .ok (.iconst 0, 1) := by decide +kernel
theorem d_Li_areVisible_1 : decode prog_5_method_3_code 1 = .ok (.istore_n 2, 1) := by decide +kernel
theorem d_Li_areVisible_2 : decode prog_5_method_3_code 2 = .ok (.iload_n 2, 1) := by decide +kernel
theorem d_Li_areVisible_3 : decode prog_5_method_3_code 3 = .ok (.iload_n 1, 1) := by decide +kernel
theorem d_Li_areVisible_4 : decode prog_5_method_3_code 4 = .ok (.if_icmp .ge 29, 3) := by decide +kernel
theorem d_Li_areVisible_7 : decode prog_5_method_3_code 7 = .ok (.iload_n 0, 1) := by decide +kernel
theorem d_Li_areVisible_8 : decode prog_5_method_3_code 8 = .ok (.iload_n 2, 1) := by decide +kernel
theorem d_Li_areVisible_9 : decode prog_5_method_3_code 9 = .ok (.invokestatic 22, 3) := by decide +kernel
theorem d_Li_areVisible_12 : decode prog_5_method_3_code 12 = .ok (.istore_n 3, 1) := by decide +kernel
theorem d_Li_areVisible_13 : decode prog_5_method_3_code 13 = .ok (.iload_n 3, 1) := by decide +kernel
theorem d_Li_areVisible_14 : decode prog_5_method_3_code 14 = .ok (.bipush 33, 2) := by decide +kernel
theorem d_Li_areVisible_16 : decode prog_5_method_3_code 16 = .ok (.if_icmp .lt 9, 3) := by decide +kernel
theorem d_Li_areVisible_19 : decode prog_5_method_3_code 19 = .ok (.iload_n 3, 1) := by decide +kernel
theorem d_Li_areVisible_20 : decode prog_5_method_3_code 20 = .ok (.bipush 126, 2) := by decide +kernel
theorem d_Li_areVisible_22 : decode prog_5_method_3_code 22 = .ok (.if_icmp .le 5, 3) := by decide +kernel
theorem d_Li_areVisible_25 : decode prog_5_method_3_code 25 = .ok (.iconst 0, 1) := by decide +kernel
theorem d_Li_areVisible_26 : decode prog_5_method_3_code 26 = .ok (.ireturn, 1) := by decide +kernel
theorem d_Li_areVisible_27 : decode prog_5_method_3_code 27 = .ok (.iinc 2 1, 3) := by decide +kernel
theorem d_Li_areVisible_30 : decode prog_5_method_3_code 30 = .ok (.goto (-28), 3) := by decide +kernel
theorem d_Li_areVisible_33 : decode prog_5_method_3_code 33 = .ok (.iconst 1, 1) := by decide +kernel
theorem d_Li_areVisible_34 : decode prog_5_method_3_code 34 = .ok (.ireturn, 1) := by decide +kernel
theorem d_Li_byteOf_0 : decode prog_5_method_4_code 0 = .ok (.iload_n 0, 1) := by decide +kernel
theorem d_Li_byteOf_1 : decode prog_5_method_4_code 1 = .ok (.bipush 8, 2) := by decide +kernel
theorem d_Li_byteOf_3 : decode prog_5_method_4_code 3 = .ok (.iload_n 1, 1) := by decide +kernel
theorem d_Li_byteOf_4 : decode prog_5_method_4_code 4 = .ok (.imul, 1) := by decide +kernel
theorem d_Li_byteOf_5 : decode prog_5_method_4_code 5 = .ok (.iushr, 1) := by decide +kernel
theorem d_Li_byteOf_6 : decode prog_5_method_4_code 6 = .ok (.sipush 255, 3) := by decide +kernel
theorem d_Li_byteOf_9 : decode prog_5_method_4_code 9 = .ok (.iand, 1) := by decide +kernel
theorem d_Li_byteOf_10 : decode prog_5_method_4_code 10 = .ok (.ireturn, 1) := by decide +kernel
theorem d_Li_append_0 : decode prog_5_method_5_code 0 = .ok (.aload_n 0, 1) := by decide +kernel
theorem d_Li_append_1 : decode prog_5_method_5_code 1 = .ok (.getfield 15, 3) := by decide +kernel
theorem d_Li_append_4 : decode prog_5_method_5_code 4 = .ok (.iload_n 2, 1) := by decide +kernel
theorem d_Li_append_5 : decode prog_5_method_5_code 5 = .ok (.iadd, 1) := by decide +kernel
theorem d_Li_append_6 : decode prog_5_method_5_code 6 = .ok (.bipush 18, 2) := by decide +kernel
theorem d_Li_append_8 : decode prog_5_method_5_code 8 = .ok (.if_icmp .le 5, 3) := by decide +kernel
theorem d_Li_append_11 : decode prog_5_method_5_code 11 = .ok (.iconst 0, 1) := by decide +kernel
theorem d_Li_append_12 : decode prog_5_method_5_code 12 = .ok (.ireturn, 1) := by decide +kernel
theorem d_Li_append_13 : decode prog_5_method_5_code 13 = .ok (.iconst 0, 1) := by decide +kernel
theorem d_Li_append_14 : decode prog_5_method_5_code 14 = .ok (.istore_n 3, 1) := by decide +kernel
theorem d_Li_append_15 : decode prog_5_method_5_code 15 = .ok (.iload_n 3, 1) := by decide +kernel
theorem d_Li_append_16 : decode prog_5_method_5_code 16 = .ok (.iload_n 2, 1) := by decide +kernel
theorem d_Li_append_17 : decode prog_5_method_5_code 17 = .ok (.if_icmp .ge 26, 3) := by decide +kernel
theorem d_Li_append_20 : decode prog_5_method_5_code 20 = .ok (.aload_n 0, 1) := by decide +kernel
theorem d_Li_append_21 : decode prog_5_method_5_code 21 = .ok (.getfield 9, 3) := by decide +kernel
theorem d_Li_append_24 : decode prog_5_method_5_code 24 = .ok (.aload_n 0, 1) := by decide +kernel
theorem d_Li_append_25 : decode prog_5_method_5_code 25 = .ok (.getfield 15, 3) := by decide +kernel
theorem d_Li_append_28 : decode prog_5_method_5_code 28 = .ok (.iload_n 3, 1) := by decide +kernel
theorem d_Li_append_29 : decode prog_5_method_5_code 29 = .ok (.iadd, 1) := by decide +kernel
theorem d_Li_append_30 : decode prog_5_method_5_code 30 = .ok (.iload_n 1, 1) := by decide +kernel
theorem d_Li_append_31 : decode prog_5_method_5_code 31 = .ok (.iload_n 3, 1) := by decide +kernel
theorem d_Li_append_32 : decode prog_5_method_5_code 32 = .ok (.invokestatic 22, 3) := by decide +kernel
theorem d_Li_append_35 : decode prog_5_method_5_code 35 = .ok (.i2c, 1) := by decide +kernel
theorem d_Li_append_36 : decode prog_5_method_5_code 36 = .ok (.castore, 1) := by decide +kernel
theorem d_Li_append_37 : decode prog_5_method_5_code 37 = .ok (.iinc 3 1, 3) := by decide +kernel
theorem d_Li_append_40 : decode prog_5_method_5_code 40 = .ok (.goto (-25), 3) := by decide +kernel
theorem d_Li_append_43 : decode prog_5_method_5_code 43 = .ok (.aload_n 0, 1) := by decide +kernel
theorem d_Li_append_44 : decode prog_5_method_5_code 44 = .ok (.dup, 1) := by decide +kernel
theorem d_Li_append_45 : decode prog_5_method_5_code 45 = .ok (.getfield 15, 3) := by decide +kernel
theorem d_Li_append_48 : decode prog_5_method_5_code 48 = .ok (.iload_n 2, 1) := by decide +kernel
theorem d_Li_append_49 : decode prog_5_method_5_code 49 = .ok (.iadd, 1) := by decide +kernel
theorem d_Li_append_50 : decode prog_5_method_5_code 50 = .ok (.putfield 15, 3) := by decide +kernel
theorem d_Li_append_53 : decode prog_5_method_5_code 53 = .ok (.iconst 1, 1) := by decide +kernel
theorem d_Li_append_54 : decode prog_5_method_5_code 54 = .ok (.ireturn, 1) := by decide +kernel
theorem d_Li_clear_0 : decode prog_5_method_6_code 0 = .ok (.aload_n 0, 1) := by decide +kernel
theorem d_Li_clear_1 : decode prog_5_method_6_code 1 = .ok (.iconst 0, 1) := by decide +kernel
theorem d_Li_clear_2 : decode prog_5_method_6_code 2 = .ok (.putfield 15, 3) := by decide +kernel
theorem d_Li_clear_5 : decode prog_5_method_6_code 5 = .ok (.return_, 1) := by decide +kernel
theorem d_Li_signAt_0 : decode prog_5_method_7_code 0 = .ok (.iload_n 1, 1) := by decide +kernel
theorem d_Li_signAt_1 : decode prog_5_method_7_code 1 = .ok (.ifCond .lt 20, 3) := by decide +kernel
theorem d_Li_signAt_4 : decode prog_5_method_7_code 4 = .ok (.iload_n 1, 1) := by decide +kernel
theorem d_Li_signAt_5 : decode prog_5_method_7_code 5 = .ok (.aload_n 0, 1) := by decide +kernel
