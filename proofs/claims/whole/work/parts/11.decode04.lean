theorem d_Mo_isDue_21 : decode prog_8_method_23_code 21 = .ok (.ishr, 1) := by decide +kernel
theorem d_Mo_isDue_22 : decode prog_8_method_23_code 22 = .ok (.iconst 1, 1) := by decide +kernel
theorem d_Mo_isDue_23 : decode prog_8_method_23_code 23 = .ok (.iand, 1) := by decide +kernel
theorem d_Mo_isDue_24 : decode prog_8_method_23_code 24 = .ok (.ifCond .ne 7, 3) := by decide +kernel
theorem d_Mo_isDue_27 : decode prog_8_method_23_code 27 = .ok (.iconst 1, 1) := by decide +kernel
theorem d_Mo_isDue_28 : decode prog_8_method_23_code 28 = .ok (.goto 4, 3) := by decide +kernel
theorem d_Mo_isDue_31 : decode prog_8_method_23_code 31 = .ok (.iconst 0, 1) := by decide +kernel
theorem d_Mo_isDue_32 : decode prog_8_method_23_code 32 = .ok (.ireturn, 1) := by decide +kernel
theorem d_Mo_dutyAt_0 : decode prog_8_method_24_code 0 = .ok (.iconst 0, 1) := by decide +kernel
theorem d_Mo_dutyAt_1 : decode prog_8_method_24_code 1 = .ok (.istore_n 3, 1) := by decide +kernel
theorem d_Mo_dutyAt_2 : decode prog_8_method_24_code 2 = .ok (.iload_n 3, 1) := by decide +kernel
theorem d_Mo_dutyAt_3 : decode prog_8_method_24_code 3 = .ok (.aload_n 0, 1) := by decide +kernel
theorem d_Mo_dutyAt_4 : decode prog_8_method_24_code 4 = .ok (.getfield 156, 3) := by decide +kernel
theorem d_Mo_dutyAt_7 : decode prog_8_method_24_code 7 = .ok (.if_icmp .ge 32, 3) := by decide +kernel
theorem d_Mo_dutyAt_10 : decode prog_8_method_24_code 10 = .ok (.iload_n 2, 1) := by decide +kernel
theorem d_Mo_dutyAt_11 : decode prog_8_method_24_code 11 = .ok (.iload_n 3, 1) := by decide +kernel
theorem d_Mo_dutyAt_12 : decode prog_8_method_24_code 12 = .ok (.iadd, 1) := by decide +kernel
theorem d_Mo_dutyAt_13 : decode prog_8_method_24_code 13 = .ok (.aload_n 0, 1) := by decide +kernel
theorem d_Mo_dutyAt_14 : decode prog_8_method_24_code 14 = .ok (.getfield 156, 3) := by decide +kernel
theorem d_Mo_dutyAt_17 : decode prog_8_method_24_code 17 = .ok (.irem, 1) := by decide +kernel
theorem d_Mo_dutyAt_18 : decode prog_8_method_24_code 18 = .ok (.istore 4, 2) := by decide +kernel
theorem d_Mo_dutyAt_20 : decode prog_8_method_24_code 20 = .ok (.aload_n 0, 1) := by decide +kernel
theorem d_Mo_dutyAt_21 : decode prog_8_method_24_code 21 = .ok (.iload 4, 2) := by decide +kernel
theorem d_Mo_dutyAt_23 : decode prog_8_method_24_code 23 = .ok (.iload_n 1, 1) := by decide +kernel
theorem d_Mo_dutyAt_24 : decode prog_8_method_24_code 24 = .ok (.invokevirtual 184, 3) := by decide +kernel
theorem d_Mo_dutyAt_27 : decode prog_8_method_24_code 27 = .ok (.ifCond .eq 6, 3) := by decide +kernel
theorem d_Mo_dutyAt_30 : decode prog_8_method_24_code 30 = .ok (.iload 4, 2) := by decide +kernel
theorem d_Mo_dutyAt_32 : decode prog_8_method_24_code 32 = .ok (.ireturn, 1) := by decide +kernel
theorem d_Mo_dutyAt_33 : decode prog_8_method_24_code 33 = .ok (.iinc 3 1, 3) := by decide +kernel
theorem d_Mo_dutyAt_36 : decode prog_8_method_24_code 36 = .ok (.goto (-34), 3) := by decide +kernel
theorem d_Mo_dutyAt_39 : decode prog_8_method_24_code 39 = .ok (.iload_n 2, 1) := by decide +kernel
theorem d_Mo_dutyAt_40 : decode prog_8_method_24_code 40 = .ok (.ireturn, 1) := by decide +kernel
theorem d_Mo_nextOf_0 : decode prog_8_method_25_code 0 = .ok (.aload_n 0, 1) := by decide +kernel
theorem d_Mo_nextOf_1 : decode prog_8_method_25_code 1 = .ok (.getfield 156, 3) := by decide +kernel
theorem d_Mo_nextOf_4 : decode prog_8_method_25_code 4 = .ok (.ifCond .le 16, 3) := by decide +kernel
theorem d_Mo_nextOf_7 : decode prog_8_method_25_code 7 = .ok (.aload_n 0, 1) := by decide +kernel
theorem d_Mo_nextOf_8 : decode prog_8_method_25_code 8 = .ok (.iload_n 2, 1) := by decide +kernel
theorem d_Mo_nextOf_9 : decode prog_8_method_25_code 9 = .ok (.iload_n 1, 1) := by decide +kernel
theorem d_Mo_nextOf_10 : decode prog_8_method_25_code 10 = .ok (.invokevirtual 184, 3) := by decide +kernel
theorem d_Mo_nextOf_13 : decode prog_8_method_25_code 13 = .ok (.ifCond .eq 7, 3) := by decide +kernel
theorem d_Mo_nextOf_16 : decode prog_8_method_25_code 16 = .ok (.iconst 1, 1) := by decide +kernel
theorem d_Mo_nextOf_17 : decode prog_8_method_25_code 17 = .ok (.goto 4, 3) := by decide +kernel
theorem d_Mo_nextOf_20 : decode prog_8_method_25_code 20 = .ok (.iconst 0, 1) := by decide +kernel
theorem d_Mo_nextOf_21 : decode prog_8_method_25_code 21 = .ok (.istore_n 3, 1) := by decide +kernel
theorem d_Mo_nextOf_22 : decode prog_8_method_25_code 22 = .ok (.iconst (-1), 1) := by decide +kernel
theorem d_Mo_nextOf_23 : decode prog_8_method_25_code 23 = .ok (.istore 4, 2) := by decide +kernel
theorem d_Mo_nextOf_25 : decode prog_8_method_25_code 25 = .ok (.ldc 188, 2) := by decide +kernel
theorem d_Mo_nextOf_27 : decode prog_8_method_25_code 27 = .ok (.istore 5, 2) := by decide +kernel
theorem d_Mo_nextOf_29 : decode prog_8_method_25_code 29 = .ok (.iconst 0, 1) := by decide +kernel
theorem d_Mo_nextOf_30 : decode prog_8_method_25_code 30 = .ok (.istore 6, 2) := by decide +kernel
theorem d_Mo_nextOf_32 : decode prog_8_method_25_code 32 = .ok (.iload 6, 2) := by decide +kernel
theorem d_Mo_nextOf_34 : decode prog_8_method_25_code 34 = .ok (.aload_n 0, 1) := by decide +kernel
theorem d_Mo_nextOf_35 : decode prog_8_method_25_code 35 = .ok (.invokevirtual 159, 3) := by decide +kernel
theorem d_Mo_nextOf_38 : decode prog_8_method_25_code 38 = .ok (.if_icmp .ge 72, 3) := by decide +kernel
theorem d_Mo_nextOf_41 : decode prog_8_method_25_code 41 = .ok (.iload_n 3, 1) := by decide +kernel
theorem d_Mo_nextOf_42 : decode prog_8_method_25_code 42 = .ok (.ifCond .eq 19, 3) := by decide +kernel
theorem d_Mo_nextOf_45 : decode prog_8_method_25_code 45 = .ok (.aload_n 0, 1) := by decide +kernel
theorem d_Mo_nextOf_46 : decode prog_8_method_25_code 46 = .ok (.getfield 74, 3) := by decide +kernel
theorem d_Mo_nextOf_49 : decode prog_8_method_25_code 49 = .ok (.sipush 256, 3) := by decide +kernel
theorem d_Mo_nextOf_52 : decode prog_8_method_25_code 52 = .ok (.iload_n 2, 1) := by decide +kernel
theorem d_Mo_nextOf_53 : decode prog_8_method_25_code 53 = .ok (.imul, 1) := by decide +kernel
theorem d_Mo_nextOf_54 : decode prog_8_method_25_code 54 = .ok (.iload 6, 2) := by decide +kernel
theorem d_Mo_nextOf_56 : decode prog_8_method_25_code 56 = .ok (.iadd, 1) := by decide +kernel
theorem d_Mo_nextOf_57 : decode prog_8_method_25_code 57 = .ok (.iaload, 1) := by decide +kernel
theorem d_Mo_nextOf_58 : decode prog_8_method_25_code 58 = .ok (.goto 4, 3) := by decide +kernel
theorem d_Mo_nextOf_61 : decode prog_8_method_25_code 61 = .ok (.iconst 0, 1) := by decide +kernel
theorem d_Mo_nextOf_62 : decode prog_8_method_25_code 62 = .ok (.istore 7, 2) := by decide +kernel
theorem d_Mo_nextOf_64 : decode prog_8_method_25_code 64 = .ok (.aload_n 0, 1) := by decide +kernel
theorem d_Mo_nextOf_65 : decode prog_8_method_25_code 65 = .ok (.getfield 65, 3) := by decide +kernel
theorem d_Mo_nextOf_68 : decode prog_8_method_25_code 68 = .ok (.iload 6, 2) := by decide +kernel
theorem d_Mo_nextOf_70 : decode prog_8_method_25_code 70 = .ok (.baload, 1) := by decide +kernel
theorem d_Mo_nextOf_71 : decode prog_8_method_25_code 71 = .ok (.ifCond .eq 33, 3) := by decide +kernel
theorem d_Mo_nextOf_74 : decode prog_8_method_25_code 74 = .ok (.aload_n 0, 1) := by decide +kernel
theorem d_Mo_nextOf_75 : decode prog_8_method_25_code 75 = .ok (.iload_n 1, 1) := by decide +kernel
theorem d_Mo_nextOf_76 : decode prog_8_method_25_code 76 = .ok (.iload 6, 2) := by decide +kernel
theorem d_Mo_nextOf_78 : decode prog_8_method_25_code 78 = .ok (.invokevirtual 189, 3) := by decide +kernel
theorem d_Mo_nextOf_81 : decode prog_8_method_25_code 81 = .ok (.ifCond .eq 23, 3) := by decide +kernel
theorem d_Mo_nextOf_84 : decode prog_8_method_25_code 84 = .ok (.iload 7, 2) := by decide +kernel
theorem d_Mo_nextOf_86 : decode prog_8_method_25_code 86 = .ok (.ifCond .lt 18, 3) := by decide +kernel
theorem d_Mo_nextOf_89 : decode prog_8_method_25_code 89 = .ok (.iload 7, 2) := by decide +kernel
theorem d_Mo_nextOf_91 : decode prog_8_method_25_code 91 = .ok (.iload 5, 2) := by decide +kernel
theorem d_Mo_nextOf_93 : decode prog_8_method_25_code 93 = .ok (.if_icmp .ge 11, 3) := by decide +kernel
theorem d_Mo_nextOf_96 : decode prog_8_method_25_code 96 = .ok (.iload 6, 2) := by decide +kernel
theorem d_Mo_nextOf_98 : decode prog_8_method_25_code 98 = .ok (.istore 4, 2) := by decide +kernel
theorem d_Mo_nextOf_100 : decode prog_8_method_25_code 100 = .ok (.iload 7, 2) := by decide +kernel
theorem d_Mo_nextOf_102 : decode prog_8_method_25_code 102 = .ok (.istore 5, 2) := by decide +kernel
theorem d_Mo_nextOf_104 : decode prog_8_method_25_code 104 = .ok (.iinc 6 1, 3) := by decide +kernel
theorem d_Mo_nextOf_107 : decode prog_8_method_25_code 107 = .ok (.goto (-75), 3) := by decide +kernel
theorem d_Mo_nextOf_110 : decode prog_8_method_25_code 110 = .ok (.iload 4, 2) := by decide +kernel
theorem d_Mo_nextOf_112 : decode prog_8_method_25_code 112 = .ok (.ireturn, 1) := by decide +kernel
theorem d_Mo_firstState_0 : decode prog_8_method_26_code 0 = .ok (.iconst 0, 1) := by decide +kernel
theorem d_Mo_firstState_1 : decode prog_8_method_26_code 1 = .ok (.istore_n 1, 1) := by decide +kernel
theorem d_Mo_firstState_2 : decode prog_8_method_26_code 2 = .ok (.iload_n 1, 1) := by decide +kernel
theorem d_Mo_firstState_3 : decode prog_8_method_26_code 3 = .ok (.aload_n 0, 1) := by decide +kernel
theorem d_Mo_firstState_4 : decode prog_8_method_26_code 4 = .ok (.invokevirtual 159, 3) := by decide +kernel
theorem d_Mo_firstState_7 : decode prog_8_method_26_code 7 = .ok (.if_icmp .ge 29, 3) := by decide +kernel
theorem d_Mo_firstState_10 : decode prog_8_method_26_code 10 = .ok (.aload_n 0, 1) := by decide +kernel
theorem d_Mo_firstState_11 : decode prog_8_method_26_code 11 = .ok (.getfield 65, 3) := by decide +kernel
theorem d_Mo_firstState_14 : decode prog_8_method_26_code 14 = .ok (.iload_n 1, 1) := by decide +kernel
theorem d_Mo_firstState_15 : decode prog_8_method_26_code 15 = .ok (.baload, 1) := by decide +kernel
theorem d_Mo_firstState_16 : decode prog_8_method_26_code 16 = .ok (.ifCond .eq 14, 3) := by decide +kernel
theorem d_Mo_firstState_19 : decode prog_8_method_26_code 19 = .ok (.aload_n 0, 1) := by decide +kernel
theorem d_Mo_firstState_20 : decode prog_8_method_26_code 20 = .ok (.getfield 52, 3) := by decide +kernel
theorem d_Mo_firstState_23 : decode prog_8_method_26_code 23 = .ok (.iload_n 1, 1) := by decide +kernel
theorem d_Mo_firstState_24 : decode prog_8_method_26_code 24 = .ok (.baload, 1) := by decide +kernel
theorem d_Mo_firstState_25 : decode prog_8_method_26_code 25 = .ok (.ifCond .eq 5, 3) := by decide +kernel
theorem d_Mo_firstState_28 : decode prog_8_method_26_code 28 = .ok (.iload_n 1, 1) := by decide +kernel
theorem d_Mo_firstState_29 : decode prog_8_method_26_code 29 = .ok (.ireturn, 1) := by decide +kernel
theorem d_Mo_firstState_30 : decode prog_8_method_26_code 30 = .ok (.iinc 1 1, 3) := by decide +kernel
theorem d_Mo_firstState_33 : decode prog_8_method_26_code 33 = .ok (.goto (-31), 3) := by decide +kernel
theorem d_Mo_firstState_36 : decode prog_8_method_26_code 36 = .ok (.iconst (-1), 1) := by decide +kernel
theorem d_Mo_firstState_37 : decode prog_8_method_26_code 37 = .ok (.ireturn, 1) := by decide +kernel
theorem d_Mo_goWalk_0 : decode prog_8_method_27_code 0 = .ok (.aload_n 0, 1) := by decide +kernel
theorem d_Mo_goWalk_1 : decode prog_8_method_27_code 1 = .ok (.iconst (-1), 1) := by decide +kernel
theorem d_Mo_goWalk_2 : decode prog_8_method_27_code 2 = .ok (.putfield 192, 3) := by decide +kernel
theorem d_Mo_goWalk_5 : decode prog_8_method_27_code 5 = .ok (.aload_n 0, 1) := by decide +kernel
theorem d_Mo_goWalk_6 : decode prog_8_method_27_code 6 = .ok (.iconst (-1), 1) := by decide +kernel
theorem d_Mo_goWalk_7 : decode prog_8_method_27_code 7 = .ok (.putfield 195, 3) := by decide +kernel
theorem d_Mo_goWalk_10 : decode prog_8_method_27_code 10 = .ok (.iconst 0, 1) := by decide +kernel
theorem d_Mo_goWalk_11 : decode prog_8_method_27_code 11 = .ok (.istore_n 1, 1) := by decide +kernel
theorem d_Mo_goWalk_12 : decode prog_8_method_27_code 12 = .ok (.iload_n 1, 1) := by decide +kernel
theorem d_Mo_goWalk_13 : decode prog_8_method_27_code 13 = .ok (.aload_n 0, 1) := by decide +kernel
theorem d_Mo_goWalk_14 : decode prog_8_method_27_code 14 = .ok (.getfield 156, 3) := by decide +kernel
theorem d_Mo_goWalk_17 : decode prog_8_method_27_code 17 = .ok (.if_icmp .ge 14, 3) := by decide +kernel
theorem d_Mo_goWalk_20 : decode prog_8_method_27_code 20 = .ok (.aload_n 0, 1) := by decide +kernel
theorem d_Mo_goWalk_21 : decode prog_8_method_27_code 21 = .ok (.iload_n 1, 1) := by decide +kernel
theorem d_Mo_goWalk_22 : decode prog_8_method_27_code 22 = .ok (.invokevirtual 181, 3) := by decide +kernel
theorem d_Mo_goWalk_25 : decode prog_8_method_27_code 25 = .ok (.iinc 1 1, 3) := by decide +kernel
theorem d_Mo_goWalk_28 : decode prog_8_method_27_code 28 = .ok (.goto (-16), 3) := by decide +kernel
theorem d_Mo_goWalk_31 : decode prog_8_method_27_code 31 = .ok (.iconst 0, 1) := by decide +kernel
theorem d_Mo_goWalk_32 : decode prog_8_method_27_code 32 = .ok (.istore_n 1, 1) := by decide +kernel
theorem d_Mo_goWalk_33 : decode prog_8_method_27_code 33 = .ok (.iload_n 1, 1) := by decide +kernel
theorem d_Mo_goWalk_34 : decode prog_8_method_27_code 34 = .ok (.sipush 1280, 3) := by decide +kernel
theorem d_Mo_goWalk_37 : decode prog_8_method_27_code 37 = .ok (.if_icmp .ge 16, 3) := by decide +kernel
theorem d_Mo_goWalk_40 : decode prog_8_method_27_code 40 = .ok (.aload_n 0, 1) := by decide +kernel
theorem d_Mo_goWalk_41 : decode prog_8_method_27_code 41 = .ok (.getfield 80, 3) := by decide +kernel
theorem d_Mo_goWalk_44 : decode prog_8_method_27_code 44 = .ok (.iload_n 1, 1) := by decide +kernel
theorem d_Mo_goWalk_45 : decode prog_8_method_27_code 45 = .ok (.iconst (-1), 1) := by decide +kernel
theorem d_Mo_goWalk_46 : decode prog_8_method_27_code 46 = .ok (.iastore, 1) := by decide +kernel
theorem d_Mo_goWalk_47 : decode prog_8_method_27_code 47 = .ok (.iinc 1 1, 3) := by decide +kernel
theorem d_Mo_goWalk_50 : decode prog_8_method_27_code 50 = .ok (.goto (-17), 3) := by decide +kernel
theorem d_Mo_goWalk_53 : decode prog_8_method_27_code 53 = .ok (.aload_n 0, 1) := by decide +kernel
theorem d_Mo_goWalk_54 : decode prog_8_method_27_code 54 = .ok (.invokevirtual 198, 3) := by decide +kernel
theorem d_Mo_goWalk_57 : decode prog_8_method_27_code 57 = .ok (.istore_n 1, 1) := by decide +kernel
theorem d_Mo_goWalk_58 : decode prog_8_method_27_code 58 = .ok (.iconst 0, 1) := by decide +kernel
theorem d_Mo_goWalk_59 : decode prog_8_method_27_code 59 = .ok (.istore_n 2, 1) := by decide +kernel
theorem d_Mo_goWalk_60 : decode prog_8_method_27_code 60 = .ok (.iconst 0, 1) := by decide +kernel
theorem d_Mo_goWalk_61 : decode prog_8_method_27_code 61 = .ok (.istore_n 3, 1) := by decide +kernel
theorem d_Mo_goWalk_62 : decode prog_8_method_27_code 62 = .ok (.iload_n 1, 1) := by decide +kernel
theorem d_Mo_goWalk_63 : decode prog_8_method_27_code 63 = .ok (.ifCond .lt 89, 3) := by decide +kernel
theorem d_Mo_goWalk_66 : decode prog_8_method_27_code 66 = .ok (.aload_n 0, 1) := by decide +kernel
theorem d_Mo_goWalk_67 : decode prog_8_method_27_code 67 = .ok (.getfield 192, 3) := by decide +kernel
theorem d_Mo_goWalk_70 : decode prog_8_method_27_code 70 = .ok (.ifCond .ge 82, 3) := by decide +kernel
theorem d_Mo_goWalk_73 : decode prog_8_method_27_code 73 = .ok (.aload_n 0, 1) := by decide +kernel
theorem d_Mo_goWalk_74 : decode prog_8_method_27_code 74 = .ok (.iload_n 1, 1) := by decide +kernel
theorem d_Mo_goWalk_75 : decode prog_8_method_27_code 75 = .ok (.iload_n 3, 1) := by decide +kernel
theorem d_Mo_goWalk_76 : decode prog_8_method_27_code 76 = .ok (.invokevirtual 201, 3) := by decide +kernel
theorem d_Mo_goWalk_79 : decode prog_8_method_27_code 79 = .ok (.istore_n 3, 1) := by decide +kernel
theorem d_Mo_goWalk_80 : decode prog_8_method_27_code 80 = .ok (.iconst 5, 1) := by decide +kernel
theorem d_Mo_goWalk_81 : decode prog_8_method_27_code 81 = .ok (.iload_n 1, 1) := by decide +kernel
theorem d_Mo_goWalk_82 : decode prog_8_method_27_code 82 = .ok (.imul, 1) := by decide +kernel
theorem d_Mo_goWalk_83 : decode prog_8_method_27_code 83 = .ok (.iload_n 3, 1) := by decide +kernel
theorem d_Mo_goWalk_84 : decode prog_8_method_27_code 84 = .ok (.iadd, 1) := by decide +kernel
theorem d_Mo_goWalk_85 : decode prog_8_method_27_code 85 = .ok (.istore 4, 2) := by decide +kernel
theorem d_Mo_goWalk_87 : decode prog_8_method_27_code 87 = .ok (.aload_n 0, 1) := by decide +kernel
theorem d_Mo_goWalk_88 : decode prog_8_method_27_code 88 = .ok (.getfield 80, 3) := by decide +kernel
theorem d_Mo_goWalk_91 : decode prog_8_method_27_code 91 = .ok (.iload 4, 2) := by decide +kernel
theorem d_Mo_goWalk_93 : decode prog_8_method_27_code 93 = .ok (.iaload, 1) := by decide +kernel
theorem d_Mo_goWalk_94 : decode prog_8_method_27_code 94 = .ok (.ifCond .lt 30, 3) := by decide +kernel
theorem d_Mo_goWalk_97 : decode prog_8_method_27_code 97 = .ok (.aload_n 0, 1) := by decide +kernel
theorem d_Mo_goWalk_98 : decode prog_8_method_27_code 98 = .ok (.aload_n 0, 1) := by decide +kernel
theorem d_Mo_goWalk_99 : decode prog_8_method_27_code 99 = .ok (.getfield 80, 3) := by decide +kernel
theorem d_Mo_goWalk_102 : decode prog_8_method_27_code 102 = .ok (.iload 4, 2) := by decide +kernel
theorem d_Mo_goWalk_104 : decode prog_8_method_27_code 104 = .ok (.iaload, 1) := by decide +kernel
theorem d_Mo_goWalk_105 : decode prog_8_method_27_code 105 = .ok (.putfield 192, 3) := by decide +kernel
theorem d_Mo_goWalk_108 : decode prog_8_method_27_code 108 = .ok (.aload_n 0, 1) := by decide +kernel
theorem d_Mo_goWalk_109 : decode prog_8_method_27_code 109 = .ok (.iload_n 2, 1) := by decide +kernel
theorem d_Mo_goWalk_110 : decode prog_8_method_27_code 110 = .ok (.aload_n 0, 1) := by decide +kernel
theorem d_Mo_goWalk_111 : decode prog_8_method_27_code 111 = .ok (.getfield 80, 3) := by decide +kernel
theorem d_Mo_goWalk_114 : decode prog_8_method_27_code 114 = .ok (.iload 4, 2) := by decide +kernel
theorem d_Mo_goWalk_116 : decode prog_8_method_27_code 116 = .ok (.iaload, 1) := by decide +kernel
theorem d_Mo_goWalk_117 : decode prog_8_method_27_code 117 = .ok (.isub, 1) := by decide +kernel
theorem d_Mo_goWalk_118 : decode prog_8_method_27_code 118 = .ok (.putfield 195, 3) := by decide +kernel
theorem d_Mo_goWalk_121 : decode prog_8_method_27_code 121 = .ok (.goto 28, 3) := by decide +kernel
theorem d_Mo_goWalk_124 : decode prog_8_method_27_code 124 = .ok (.aload_n 0, 1) := by decide +kernel
theorem d_Mo_goWalk_125 : decode prog_8_method_27_code 125 = .ok (.getfield 80, 3) := by decide +kernel
theorem d_Mo_goWalk_128 : decode prog_8_method_27_code 128 = .ok (.iload 4, 2) := by decide +kernel
theorem d_Mo_goWalk_130 : decode prog_8_method_27_code 130 = .ok (.iload_n 2, 1) := by decide +kernel
theorem d_Mo_goWalk_131 : decode prog_8_method_27_code 131 = .ok (.iastore, 1) := by decide +kernel
theorem d_Mo_goWalk_132 : decode prog_8_method_27_code 132 = .ok (.aload_n 0, 1) := by decide +kernel
theorem d_Mo_goWalk_133 : decode prog_8_method_27_code 133 = .ok (.getfield 77, 3) := by decide +kernel
theorem d_Mo_goWalk_136 : decode prog_8_method_27_code 136 = .ok (.iload_n 2, 1) := by decide +kernel
theorem d_Mo_goWalk_137 : decode prog_8_method_27_code 137 = .ok (.iload_n 1, 1) := by decide +kernel
theorem d_Mo_goWalk_138 : decode prog_8_method_27_code 138 = .ok (.iastore, 1) := by decide +kernel
theorem d_Mo_goWalk_139 : decode prog_8_method_27_code 139 = .ok (.iinc 2 1, 3) := by decide +kernel
theorem d_Mo_goWalk_142 : decode prog_8_method_27_code 142 = .ok (.aload_n 0, 1) := by decide +kernel
theorem d_Mo_goWalk_143 : decode prog_8_method_27_code 143 = .ok (.iload_n 1, 1) := by decide +kernel
theorem d_Mo_goWalk_144 : decode prog_8_method_27_code 144 = .ok (.iload_n 3, 1) := by decide +kernel
theorem d_Mo_goWalk_145 : decode prog_8_method_27_code 145 = .ok (.invokevirtual 205, 3) := by decide +kernel
theorem d_Mo_goWalk_148 : decode prog_8_method_27_code 148 = .ok (.istore_n 1, 1) := by decide +kernel
theorem d_Mo_goWalk_149 : decode prog_8_method_27_code 149 = .ok (.goto (-87), 3) := by decide +kernel
theorem d_Mo_goWalk_152 : decode prog_8_method_27_code 152 = .ok (.return_, 1) := by decide +kernel
theorem d_Mo_refused_0 : decode prog_8_method_28_code 0 = .ok (.aload_n 0, 1) := by decide +kernel
theorem d_Mo_refused_1 : decode prog_8_method_28_code 1 = .ok (.aload_n 0, 1) := by decide +kernel
theorem d_Mo_refused_2 : decode prog_8_method_28_code 2 = .ok (.getfield 146, 3) := by decide +kernel
theorem d_Mo_refused_5 : decode prog_8_method_28_code 5 = .ok (.ifCond .ne 7, 3) := by decide +kernel
theorem d_Mo_refused_8 : decode prog_8_method_28_code 8 = .ok (.iconst 1, 1) := by decide +kernel
theorem d_Mo_refused_9 : decode prog_8_method_28_code 9 = .ok (.goto 12, 3) := by decide +kernel
theorem d_Mo_refused_12 : decode prog_8_method_28_code 12 = .ok (.iload_n 1, 1) := by decide +kernel
theorem d_Mo_refused_13 : decode prog_8_method_28_code 13 = .ok (.ifCond .eq 7, 3) := by decide +kernel
theorem d_Mo_refused_16 : decode prog_8_method_28_code 16 = .ok (.iconst 0, 1) := by decide +kernel
theorem d_Mo_refused_17 : decode prog_8_method_28_code 17 = .ok (.goto 4, 3) := by decide +kernel
theorem d_Mo_refused_20 : decode prog_8_method_28_code 20 = .ok (.iconst 2, 1) := by decide +kernel
theorem d_Mo_refused_21 : decode prog_8_method_28_code 21 = .ok (.putfield 93, 3) := by decide +kernel
theorem d_Mo_refused_24 : decode prog_8_method_28_code 24 = .ok (.aload_n 0, 1) := by decide +kernel
theorem d_Mo_refused_25 : decode prog_8_method_28_code 25 = .ok (.getfield 93, 3) := by decide +kernel
theorem d_Mo_refused_28 : decode prog_8_method_28_code 28 = .ok (.ifCond .le 7, 3) := by decide +kernel
theorem d_Mo_refused_31 : decode prog_8_method_28_code 31 = .ok (.iconst 1, 1) := by decide +kernel
theorem d_Mo_refused_32 : decode prog_8_method_28_code 32 = .ok (.goto 4, 3) := by decide +kernel
theorem d_Mo_refused_35 : decode prog_8_method_28_code 35 = .ok (.iconst 0, 1) := by decide +kernel
theorem d_Mo_refused_36 : decode prog_8_method_28_code 36 = .ok (.ireturn, 1) := by decide +kernel
theorem d_Mo_isState_0 : decode prog_8_method_29_code 0 = .ok (.iload_n 1, 1) := by decide +kernel
theorem d_Mo_isState_1 : decode prog_8_method_29_code 1 = .ok (.ifCond .lt 22, 3) := by decide +kernel
theorem d_Mo_isState_4 : decode prog_8_method_29_code 4 = .ok (.aload_n 0, 1) := by decide +kernel
theorem d_Mo_isState_5 : decode prog_8_method_29_code 5 = .ok (.getfield 146, 3) := by decide +kernel
theorem d_Mo_isState_8 : decode prog_8_method_29_code 8 = .ok (.ifCond .eq 15, 3) := by decide +kernel
theorem d_Mo_isState_11 : decode prog_8_method_29_code 11 = .ok (.iload_n 1, 1) := by decide +kernel
theorem d_Mo_isState_12 : decode prog_8_method_29_code 12 = .ok (.aload_n 0, 1) := by decide +kernel
theorem d_Mo_isState_13 : decode prog_8_method_29_code 13 = .ok (.invokevirtual 159, 3) := by decide +kernel
theorem d_Mo_isState_16 : decode prog_8_method_29_code 16 = .ok (.if_icmp .ge 7, 3) := by decide +kernel
theorem d_Mo_isState_19 : decode prog_8_method_29_code 19 = .ok (.iconst 1, 1) := by decide +kernel
theorem d_Mo_isState_20 : decode prog_8_method_29_code 20 = .ok (.goto 4, 3) := by decide +kernel
theorem d_Mo_isState_23 : decode prog_8_method_29_code 23 = .ok (.iconst 0, 1) := by decide +kernel
theorem d_Mo_isState_24 : decode prog_8_method_29_code 24 = .ok (.ireturn, 1) := by decide +kernel
theorem d_Mo_states_0 : decode prog_8_method_30_code 0 = .ok (.aload_n 0, 1) := by decide +kernel
theorem d_Mo_states_1 : decode prog_8_method_30_code 1 = .ok (.iconst 1, 1) := by decide +kernel
theorem d_Mo_states_2 : decode prog_8_method_30_code 2 = .ok (.invokevirtual 208, 3) := by decide +kernel
theorem d_Mo_states_5 : decode prog_8_method_30_code 5 = .ok (.ifCond .eq 7, 3) := by decide +kernel
theorem d_Mo_states_8 : decode prog_8_method_30_code 8 = .ok (.iconst 0, 1) := by decide +kernel
theorem d_Mo_states_9 : decode prog_8_method_30_code 9 = .ok (.goto 7, 3) := by decide +kernel
theorem d_Mo_states_12 : decode prog_8_method_30_code 12 = .ok (.aload_n 0, 1) := by decide +kernel
theorem d_Mo_states_13 : decode prog_8_method_30_code 13 = .ok (.invokevirtual 159, 3) := by decide +kernel
theorem d_Mo_states_16 : decode prog_8_method_30_code 16 = .ok (.ireturn, 1) := by decide +kernel
theorem d_Mo_isAt_0 : decode prog_8_method_31_code 0 = .ok (.aload_n 0, 1) := by decide +kernel
theorem d_Mo_isAt_1 : decode prog_8_method_31_code 1 = .ok (.aload_n 0, 1) := by decide +kernel
theorem d_Mo_isAt_2 : decode prog_8_method_31_code 2 = .ok (.iload_n 1, 1) := by decide +kernel
theorem d_Mo_isAt_3 : decode prog_8_method_31_code 3 = .ok (.invokevirtual 212, 3) := by decide +kernel
theorem d_Mo_isAt_6 : decode prog_8_method_31_code 6 = .ok (.invokevirtual 208, 3) := by decide +kernel
theorem d_Mo_isAt_9 : decode prog_8_method_31_code 9 = .ok (.ifCond .ne 16, 3) := by decide +kernel
theorem d_Mo_isAt_12 : decode prog_8_method_31_code 12 = .ok (.aload_n 0, 1) := by decide +kernel
theorem d_Mo_isAt_13 : decode prog_8_method_31_code 13 = .ok (.getfield 52, 3) := by decide +kernel
theorem d_Mo_isAt_16 : decode prog_8_method_31_code 16 = .ok (.iload_n 1, 1) := by decide +kernel
theorem d_Mo_isAt_17 : decode prog_8_method_31_code 17 = .ok (.baload, 1) := by decide +kernel
theorem d_Mo_isAt_18 : decode prog_8_method_31_code 18 = .ok (.ifCond .eq 7, 3) := by decide +kernel
theorem d_Mo_isAt_21 : decode prog_8_method_31_code 21 = .ok (.iconst 1, 1) := by decide +kernel
theorem d_Mo_isAt_22 : decode prog_8_method_31_code 22 = .ok (.goto 4, 3) := by decide +kernel
theorem d_Mo_isAt_25 : decode prog_8_method_31_code 25 = .ok (.iconst 0, 1) := by decide +kernel
theorem d_Mo_isAt_26 : decode prog_8_method_31_code 26 = .ok (.ireturn, 1) := by decide +kernel
theorem d_Mo_leads_0 : decode prog_8_method_32_code 0 = .ok (.aload_n 0, 1) := by decide +kernel
theorem d_Mo_leads_1 : decode prog_8_method_32_code 1 = .ok (.aload_n 0, 1) := by decide +kernel
theorem d_Mo_leads_2 : decode prog_8_method_32_code 2 = .ok (.iload_n 1, 1) := by decide +kernel
theorem d_Mo_leads_3 : decode prog_8_method_32_code 3 = .ok (.invokevirtual 212, 3) := by decide +kernel
theorem d_Mo_leads_6 : decode prog_8_method_32_code 6 = .ok (.ifCond .eq 15, 3) := by decide +kernel
theorem d_Mo_leads_9 : decode prog_8_method_32_code 9 = .ok (.aload_n 0, 1) := by decide +kernel
theorem d_Mo_leads_10 : decode prog_8_method_32_code 10 = .ok (.iload_n 2, 1) := by decide +kernel
theorem d_Mo_leads_11 : decode prog_8_method_32_code 11 = .ok (.invokevirtual 212, 3) := by decide +kernel
theorem d_Mo_leads_14 : decode prog_8_method_32_code 14 = .ok (.ifCond .eq 7, 3) := by decide +kernel
theorem d_Mo_leads_17 : decode prog_8_method_32_code 17 = .ok (.iconst 1, 1) := by decide +kernel
theorem d_Mo_leads_18 : decode prog_8_method_32_code 18 = .ok (.goto 4, 3) := by decide +kernel
theorem d_Mo_leads_21 : decode prog_8_method_32_code 21 = .ok (.iconst 0, 1) := by decide +kernel
theorem d_Mo_leads_22 : decode prog_8_method_32_code 22 = .ok (.invokevirtual 208, 3) := by decide +kernel
theorem d_Mo_leads_25 : decode prog_8_method_32_code 25 = .ok (.ifCond .ne 16, 3) := by decide +kernel
theorem d_Mo_leads_28 : decode prog_8_method_32_code 28 = .ok (.aload_n 0, 1) := by decide +kernel
theorem d_Mo_leads_29 : decode prog_8_method_32_code 29 = .ok (.iload_n 1, 1) := by decide +kernel
theorem d_Mo_leads_30 : decode prog_8_method_32_code 30 = .ok (.iload_n 2, 1) := by decide +kernel
theorem d_Mo_leads_31 : decode prog_8_method_32_code 31 = .ok (.invokevirtual 189, 3) := by decide +kernel
theorem d_Mo_leads_34 : decode prog_8_method_32_code 34 = .ok (.ifCond .eq 7, 3) := by decide +kernel
theorem d_Mo_leads_37 : decode prog_8_method_32_code 37 = .ok (.iconst 1, 1) := by decide +kernel
theorem d_Mo_leads_38 : decode prog_8_method_32_code 38 = .ok (.goto 4, 3) := by decide +kernel
theorem d_Mo_leads_41 : decode prog_8_method_32_code 41 = .ok (.iconst 0, 1) := by decide +kernel
theorem d_Mo_leads_42 : decode prog_8_method_32_code 42 = .ok (.ireturn, 1) := by decide +kernel
theorem d_Mo_lasts_0 : decode prog_8_method_33_code 0 = .ok (.aload_n 0, 1) := by decide +kernel
theorem d_Mo_lasts_1 : decode prog_8_method_33_code 1 = .ok (.aload_n 0, 1) := by decide +kernel
theorem d_Mo_lasts_2 : decode prog_8_method_33_code 2 = .ok (.iload_n 1, 1) := by decide +kernel
theorem d_Mo_lasts_3 : decode prog_8_method_33_code 3 = .ok (.invokevirtual 212, 3) := by decide +kernel
theorem d_Mo_lasts_6 : decode prog_8_method_33_code 6 = .ok (.invokevirtual 208, 3) := by decide +kernel
theorem d_Mo_lasts_9 : decode prog_8_method_33_code 9 = .ok (.ifCond .ne 16, 3) := by decide +kernel
theorem d_Mo_lasts_12 : decode prog_8_method_33_code 12 = .ok (.aload_n 0, 1) := by decide +kernel
theorem d_Mo_lasts_13 : decode prog_8_method_33_code 13 = .ok (.getfield 65, 3) := by decide +kernel
theorem d_Mo_lasts_16 : decode prog_8_method_33_code 16 = .ok (.iload_n 1, 1) := by decide +kernel
theorem d_Mo_lasts_17 : decode prog_8_method_33_code 17 = .ok (.baload, 1) := by decide +kernel
theorem d_Mo_lasts_18 : decode prog_8_method_33_code 18 = .ok (.ifCond .eq 7, 3) := by decide +kernel
theorem d_Mo_lasts_21 : decode prog_8_method_33_code 21 = .ok (.iconst 1, 1) := by decide +kernel
theorem d_Mo_lasts_22 : decode prog_8_method_33_code 22 = .ok (.goto 4, 3) := by decide +kernel
theorem d_Mo_lasts_25 : decode prog_8_method_33_code 25 = .ok (.iconst 0, 1) := by decide +kernel
theorem d_Mo_lasts_26 : decode prog_8_method_33_code 26 = .ok (.ireturn, 1) := by decide +kernel
theorem d_Mo_lasting_0 : decode prog_8_method_34_code 0 = .ok (.aload_n 0, 1) := by decide +kernel
theorem d_Mo_lasting_1 : decode prog_8_method_34_code 1 = .ok (.iconst 1, 1) := by decide +kernel
theorem d_Mo_lasting_2 : decode prog_8_method_34_code 2 = .ok (.invokevirtual 208, 3) := by decide +kernel
theorem d_Mo_lasting_5 : decode prog_8_method_34_code 5 = .ok (.ifCond .eq 5, 3) := by decide +kernel
theorem d_Mo_lasting_8 : decode prog_8_method_34_code 8 = .ok (.iconst 0, 1) := by decide +kernel
theorem d_Mo_lasting_9 : decode prog_8_method_34_code 9 = .ok (.ireturn, 1) := by decide +kernel
theorem d_Mo_lasting_10 : decode prog_8_method_34_code 10 = .ok (.iconst 0, 1) := by decide +kernel
theorem d_Mo_lasting_11 : decode prog_8_method_34_code 11 = .ok (.istore_n 1, 1) := by decide +kernel
theorem d_Mo_lasting_12 : decode prog_8_method_34_code 12 = .ok (.iconst 0, 1) := by decide +kernel
theorem d_Mo_lasting_13 : decode prog_8_method_34_code 13 = .ok (.istore_n 2, 1) := by decide +kernel
theorem d_Mo_lasting_14 : decode prog_8_method_34_code 14 = .ok (.iload_n 2, 1) := by decide +kernel
theorem d_Mo_lasting_15 : decode prog_8_method_34_code 15 = .ok (.aload_n 0, 1) := by decide +kernel
theorem d_Mo_lasting_16 : decode prog_8_method_34_code 16 = .ok (.invokevirtual 159, 3) := by decide +kernel
theorem d_Mo_lasting_19 : decode prog_8_method_34_code 19 = .ok (.if_icmp .ge 26, 3) := by decide +kernel
theorem d_Mo_lasting_22 : decode prog_8_method_34_code 22 = .ok (.aload_n 0, 1) := by decide +kernel
theorem d_Mo_lasting_23 : decode prog_8_method_34_code 23 = .ok (.getfield 65, 3) := by decide +kernel
theorem d_Mo_lasting_26 : decode prog_8_method_34_code 26 = .ok (.iload_n 2, 1) := by decide +kernel
theorem d_Mo_lasting_27 : decode prog_8_method_34_code 27 = .ok (.baload, 1) := by decide +kernel
theorem d_Mo_lasting_28 : decode prog_8_method_34_code 28 = .ok (.ifCond .eq 9, 3) := by decide +kernel
theorem d_Mo_lasting_31 : decode prog_8_method_34_code 31 = .ok (.iload_n 1, 1) := by decide +kernel
theorem d_Mo_lasting_32 : decode prog_8_method_34_code 32 = .ok (.iconst 1, 1) := by decide +kernel
theorem d_Mo_lasting_33 : decode prog_8_method_34_code 33 = .ok (.iadd, 1) := by decide +kernel
theorem d_Mo_lasting_34 : decode prog_8_method_34_code 34 = .ok (.goto 4, 3) := by decide +kernel
theorem d_Mo_lasting_37 : decode prog_8_method_34_code 37 = .ok (.iload_n 1, 1) := by decide +kernel
theorem d_Mo_lasting_38 : decode prog_8_method_34_code 38 = .ok (.istore_n 1, 1) := by decide +kernel
theorem d_Mo_lasting_39 : decode prog_8_method_34_code 39 = .ok (.iinc 2 1, 3) := by decide +kernel
theorem d_Mo_lasting_42 : decode prog_8_method_34_code 42 = .ok (.goto (-28), 3) := by decide +kernel
theorem d_Mo_lasting_45 : decode prog_8_method_34_code 45 = .ok (.iload_n 1, 1) := by decide +kernel
theorem d_Mo_lasting_46 : decode prog_8_method_34_code 46 = .ok (.ireturn, 1) := by decide +kernel
theorem d_Mo_promises_0 : decode prog_8_method_35_code 0 = .ok (.aload_n 0, 1) := by decide +kernel
theorem d_Mo_promises_1 : decode prog_8_method_35_code 1 = .ok (.iconst 1, 1) := by decide +kernel
theorem d_Mo_promises_2 : decode prog_8_method_35_code 2 = .ok (.invokevirtual 208, 3) := by decide +kernel
theorem d_Mo_promises_5 : decode prog_8_method_35_code 5 = .ok (.ifCond .eq 7, 3) := by decide +kernel
theorem d_Mo_promises_8 : decode prog_8_method_35_code 8 = .ok (.iconst 0, 1) := by decide +kernel
theorem d_Mo_promises_9 : decode prog_8_method_35_code 9 = .ok (.goto 7, 3) := by decide +kernel
theorem d_Mo_promises_12 : decode prog_8_method_35_code 12 = .ok (.aload_n 0, 1) := by decide +kernel
theorem d_Mo_promises_13 : decode prog_8_method_35_code 13 = .ok (.getfield 156, 3) := by decide +kernel
theorem d_Mo_promises_16 : decode prog_8_method_35_code 16 = .ok (.ireturn, 1) := by decide +kernel
theorem d_Mo_can_0 : decode prog_8_method_36_code 0 = .ok (.aload_n 0, 1) := by decide +kernel
theorem d_Mo_can_1 : decode prog_8_method_36_code 1 = .ok (.iconst 1, 1) := by decide +kernel
theorem d_Mo_can_2 : decode prog_8_method_36_code 2 = .ok (.invokevirtual 208, 3) := by decide +kernel
theorem d_Mo_can_5 : decode prog_8_method_36_code 5 = .ok (.ifCond .ne 14, 3) := by decide +kernel
theorem d_Mo_can_8 : decode prog_8_method_36_code 8 = .ok (.aload_n 0, 1) := by decide +kernel
theorem d_Mo_can_9 : decode prog_8_method_36_code 9 = .ok (.getfield 192, 3) := by decide +kernel
theorem d_Mo_can_12 : decode prog_8_method_36_code 12 = .ok (.ifCond .lt 7, 3) := by decide +kernel
theorem d_Mo_can_15 : decode prog_8_method_36_code 15 = .ok (.iconst 1, 1) := by decide +kernel
theorem d_Mo_can_16 : decode prog_8_method_36_code 16 = .ok (.goto 4, 3) := by decide +kernel
theorem d_Mo_can_19 : decode prog_8_method_36_code 19 = .ok (.iconst 0, 1) := by decide +kernel
theorem d_Mo_can_20 : decode prog_8_method_36_code 20 = .ok (.ireturn, 1) := by decide +kernel
theorem d_Mo_stem_0 : decode prog_8_method_37_code 0 = .ok (.aload_n 0, 1) := by decide +kernel
theorem d_Mo_stem_1 : decode prog_8_method_37_code 1 = .ok (.iconst 1, 1) := by decide +kernel
theorem d_Mo_stem_2 : decode prog_8_method_37_code 2 = .ok (.invokevirtual 208, 3) := by decide +kernel
theorem d_Mo_stem_5 : decode prog_8_method_37_code 5 = .ok (.ifCond .eq 7, 3) := by decide +kernel
theorem d_Mo_stem_8 : decode prog_8_method_37_code 8 = .ok (.iconst 0, 1) := by decide +kernel
theorem d_Mo_stem_9 : decode prog_8_method_37_code 9 = .ok (.goto 7, 3) := by decide +kernel
theorem d_Mo_stem_12 : decode prog_8_method_37_code 12 = .ok (.aload_n 0, 1) := by decide +kernel
theorem d_Mo_stem_13 : decode prog_8_method_37_code 13 = .ok (.getfield 192, 3) := by decide +kernel
theorem d_Mo_stem_16 : decode prog_8_method_37_code 16 = .ok (.ireturn, 1) := by decide +kernel
theorem d_Mo_loop_0 : decode prog_8_method_38_code 0 = .ok (.aload_n 0, 1) := by decide +kernel
theorem d_Mo_loop_1 : decode prog_8_method_38_code 1 = .ok (.iconst 1, 1) := by decide +kernel
theorem d_Mo_loop_2 : decode prog_8_method_38_code 2 = .ok (.invokevirtual 208, 3) := by decide +kernel
theorem d_Mo_loop_5 : decode prog_8_method_38_code 5 = .ok (.ifCond .eq 7, 3) := by decide +kernel
theorem d_Mo_loop_8 : decode prog_8_method_38_code 8 = .ok (.iconst 0, 1) := by decide +kernel
theorem d_Mo_loop_9 : decode prog_8_method_38_code 9 = .ok (.goto 7, 3) := by decide +kernel
theorem d_Mo_loop_12 : decode prog_8_method_38_code 12 = .ok (.aload_n 0, 1) := by decide +kernel
theorem d_Mo_loop_13 : decode prog_8_method_38_code 13 = .ok (.getfield 195, 3) := by decide +kernel
theorem d_Mo_loop_16 : decode prog_8_method_38_code 16 = .ok (.ireturn, 1) := by decide +kernel
theorem d_Mo_step_0 : decode prog_8_method_39_code 0 = .ok (.aload_n 0, 1) := by decide +kernel
theorem d_Mo_step_1 : decode prog_8_method_39_code 1 = .ok (.aload_n 0, 1) := by decide +kernel
theorem d_Mo_step_2 : decode prog_8_method_39_code 2 = .ok (.getfield 146, 3) := by decide +kernel
theorem d_Mo_step_5 : decode prog_8_method_39_code 5 = .ok (.ifCond .eq 10, 3) := by decide +kernel
theorem d_Mo_step_8 : decode prog_8_method_39_code 8 = .ok (.aload_n 0, 1) := by decide +kernel
theorem d_Mo_step_9 : decode prog_8_method_39_code 9 = .ok (.getfield 192, 3) := by decide +kernel
theorem d_Mo_step_12 : decode prog_8_method_39_code 12 = .ok (.ifCond .ge 7, 3) := by decide +kernel
theorem d_Mo_step_15 : decode prog_8_method_39_code 15 = .ok (.iconst 1, 1) := by decide +kernel
theorem d_Mo_step_16 : decode prog_8_method_39_code 16 = .ok (.goto 25, 3) := by decide +kernel
theorem d_Mo_step_19 : decode prog_8_method_39_code 19 = .ok (.iload_n 1, 1) := by decide +kernel
theorem d_Mo_step_20 : decode prog_8_method_39_code 20 = .ok (.ifCond .lt 16, 3) := by decide +kernel
theorem d_Mo_step_23 : decode prog_8_method_39_code 23 = .ok (.iload_n 1, 1) := by decide +kernel
theorem d_Mo_step_24 : decode prog_8_method_39_code 24 = .ok (.aload_n 0, 1) := by decide +kernel
theorem d_Mo_step_25 : decode prog_8_method_39_code 25 = .ok (.getfield 192, 3) := by decide +kernel
theorem d_Mo_step_28 : decode prog_8_method_39_code 28 = .ok (.aload_n 0, 1) := by decide +kernel
theorem d_Mo_step_29 : decode prog_8_method_39_code 29 = .ok (.getfield 195, 3) := by decide +kernel
theorem d_Mo_step_32 : decode prog_8_method_39_code 32 = .ok (.iadd, 1) := by decide +kernel
theorem d_Mo_step_33 : decode prog_8_method_39_code 33 = .ok (.if_icmp .lt 7, 3) := by decide +kernel
theorem d_Mo_step_36 : decode prog_8_method_39_code 36 = .ok (.iconst 2, 1) := by decide +kernel
theorem d_Mo_step_37 : decode prog_8_method_39_code 37 = .ok (.goto 4, 3) := by decide +kernel
theorem d_Mo_step_40 : decode prog_8_method_39_code 40 = .ok (.iconst 0, 1) := by decide +kernel
theorem d_Mo_step_41 : decode prog_8_method_39_code 41 = .ok (.putfield 93, 3) := by decide +kernel
theorem d_Mo_step_44 : decode prog_8_method_39_code 44 = .ok (.aload_n 0, 1) := by decide +kernel
theorem d_Mo_step_45 : decode prog_8_method_39_code 45 = .ok (.getfield 93, 3) := by decide +kernel
theorem d_Mo_step_48 : decode prog_8_method_39_code 48 = .ok (.ifCond .le 7, 3) := by decide +kernel
theorem d_Mo_step_51 : decode prog_8_method_39_code 51 = .ok (.iconst 0, 1) := by decide +kernel
theorem d_Mo_step_52 : decode prog_8_method_39_code 52 = .ok (.goto 9, 3) := by decide +kernel
theorem d_Mo_step_55 : decode prog_8_method_39_code 55 = .ok (.aload_n 0, 1) := by decide +kernel
theorem d_Mo_step_56 : decode prog_8_method_39_code 56 = .ok (.getfield 77, 3) := by decide +kernel
theorem d_Mo_step_59 : decode prog_8_method_39_code 59 = .ok (.iload_n 1, 1) := by decide +kernel
theorem d_Mo_step_60 : decode prog_8_method_39_code 60 = .ok (.iaload, 1) := by decide +kernel
theorem d_Mo_step_61 : decode prog_8_method_39_code 61 = .ok (.ireturn, 1) := by decide +kernel
theorem d_Mo_shape_0 : decode prog_8_method_40_code 0 = .ok (.aload_n 0, 1) := by decide +kernel
theorem d_Mo_shape_1 : decode prog_8_method_40_code 1 = .ok (.iload_n 1, 1) := by decide +kernel
theorem d_Mo_shape_2 : decode prog_8_method_40_code 2 = .ok (.ifCond .lt 20, 3) := by decide +kernel
theorem d_Mo_shape_5 : decode prog_8_method_40_code 5 = .ok (.iload_n 1, 1) := by decide +kernel
theorem d_Mo_shape_6 : decode prog_8_method_40_code 6 = .ok (.bipush 8, 2) := by decide +kernel
