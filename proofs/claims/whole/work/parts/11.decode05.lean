theorem d_Mo_shape_8 : decode prog_8_method_40_code 8 = .ok (.if_icmp .gt 14, 3) := by decide +kernel
theorem d_Mo_shape_11 : decode prog_8_method_40_code 11 = .ok (.iload_n 2, 1) := by decide +kernel
theorem d_Mo_shape_12 : decode prog_8_method_40_code 12 = .ok (.iconst 1, 1) := by decide +kernel
theorem d_Mo_shape_13 : decode prog_8_method_40_code 13 = .ok (.if_icmp .lt 9, 3) := by decide +kernel
theorem d_Mo_shape_16 : decode prog_8_method_40_code 16 = .ok (.iload_n 2, 1) := by decide +kernel
theorem d_Mo_shape_17 : decode prog_8_method_40_code 17 = .ok (.bipush 8, 2) := by decide +kernel
theorem d_Mo_shape_19 : decode prog_8_method_40_code 19 = .ok (.if_icmp .le 7, 3) := by decide +kernel
theorem d_Mo_shape_22 : decode prog_8_method_40_code 22 = .ok (.iconst 1, 1) := by decide +kernel
theorem d_Mo_shape_23 : decode prog_8_method_40_code 23 = .ok (.goto 4, 3) := by decide +kernel
theorem d_Mo_shape_26 : decode prog_8_method_40_code 26 = .ok (.iconst 0, 1) := by decide +kernel
theorem d_Mo_shape_27 : decode prog_8_method_40_code 27 = .ok (.putfield 93, 3) := by decide +kernel
theorem d_Mo_shape_30 : decode prog_8_method_40_code 30 = .ok (.aload_n 0, 1) := by decide +kernel
theorem d_Mo_shape_31 : decode prog_8_method_40_code 31 = .ok (.getfield 93, 3) := by decide +kernel
theorem d_Mo_shape_34 : decode prog_8_method_40_code 34 = .ok (.ifCond .le 4, 3) := by decide +kernel
theorem d_Mo_shape_37 : decode prog_8_method_40_code 37 = .ok (.return_, 1) := by decide +kernel
theorem d_Mo_shape_38 : decode prog_8_method_40_code 38 = .ok (.aload_n 0, 1) := by decide +kernel
theorem d_Mo_shape_39 : decode prog_8_method_40_code 39 = .ok (.getfield 215, 3) := by decide +kernel
theorem d_Mo_shape_42 : decode prog_8_method_40_code 42 = .ok (.aload_n 0, 1) := by decide +kernel
theorem d_Mo_shape_43 : decode prog_8_method_40_code 43 = .ok (.getfield 89, 3) := by decide +kernel
theorem d_Mo_shape_46 : decode prog_8_method_40_code 46 = .ok (.iadd, 1) := by decide +kernel
theorem d_Mo_shape_47 : decode prog_8_method_40_code 47 = .ok (.istore_n 3, 1) := by decide +kernel
theorem d_Mo_shape_48 : decode prog_8_method_40_code 48 = .ok (.iload_n 3, 1) := by decide +kernel
theorem d_Mo_shape_49 : decode prog_8_method_40_code 49 = .ok (.bipush 16, 2) := by decide +kernel
theorem d_Mo_shape_51 : decode prog_8_method_40_code 51 = .ok (.if_icmp .ge 16, 3) := by decide +kernel
theorem d_Mo_shape_54 : decode prog_8_method_40_code 54 = .ok (.aload_n 0, 1) := by decide +kernel
theorem d_Mo_shape_55 : decode prog_8_method_40_code 55 = .ok (.getfield 83, 3) := by decide +kernel
theorem d_Mo_shape_58 : decode prog_8_method_40_code 58 = .ok (.iload_n 3, 1) := by decide +kernel
theorem d_Mo_shape_59 : decode prog_8_method_40_code 59 = .ok (.iconst 0, 1) := by decide +kernel
theorem d_Mo_shape_60 : decode prog_8_method_40_code 60 = .ok (.iastore, 1) := by decide +kernel
theorem d_Mo_shape_61 : decode prog_8_method_40_code 61 = .ok (.iinc 3 1, 3) := by decide +kernel
theorem d_Mo_shape_64 : decode prog_8_method_40_code 64 = .ok (.goto (-16), 3) := by decide +kernel
theorem d_Mo_shape_67 : decode prog_8_method_40_code 67 = .ok (.iload_n 1, 1) := by decide +kernel
theorem d_Mo_shape_68 : decode prog_8_method_40_code 68 = .ok (.iload_n 2, 1) := by decide +kernel
theorem d_Mo_shape_69 : decode prog_8_method_40_code 69 = .ok (.iadd, 1) := by decide +kernel
theorem d_Mo_shape_70 : decode prog_8_method_40_code 70 = .ok (.istore_n 3, 1) := by decide +kernel
theorem d_Mo_shape_71 : decode prog_8_method_40_code 71 = .ok (.iload_n 3, 1) := by decide +kernel
theorem d_Mo_shape_72 : decode prog_8_method_40_code 72 = .ok (.bipush 16, 2) := by decide +kernel
theorem d_Mo_shape_74 : decode prog_8_method_40_code 74 = .ok (.if_icmp .ge 16, 3) := by decide +kernel
theorem d_Mo_shape_77 : decode prog_8_method_40_code 77 = .ok (.aload_n 0, 1) := by decide +kernel
theorem d_Mo_shape_78 : decode prog_8_method_40_code 78 = .ok (.getfield 83, 3) := by decide +kernel
theorem d_Mo_shape_81 : decode prog_8_method_40_code 81 = .ok (.iload_n 3, 1) := by decide +kernel
theorem d_Mo_shape_82 : decode prog_8_method_40_code 82 = .ok (.iconst 0, 1) := by decide +kernel
theorem d_Mo_shape_83 : decode prog_8_method_40_code 83 = .ok (.iastore, 1) := by decide +kernel
theorem d_Mo_shape_84 : decode prog_8_method_40_code 84 = .ok (.iinc 3 1, 3) := by decide +kernel
theorem d_Mo_shape_87 : decode prog_8_method_40_code 87 = .ok (.goto (-16), 3) := by decide +kernel
theorem d_Mo_shape_90 : decode prog_8_method_40_code 90 = .ok (.aload_n 0, 1) := by decide +kernel
theorem d_Mo_shape_91 : decode prog_8_method_40_code 91 = .ok (.iload_n 1, 1) := by decide +kernel
theorem d_Mo_shape_92 : decode prog_8_method_40_code 92 = .ok (.putfield 215, 3) := by decide +kernel
theorem d_Mo_shape_95 : decode prog_8_method_40_code 95 = .ok (.aload_n 0, 1) := by decide +kernel
theorem d_Mo_shape_96 : decode prog_8_method_40_code 96 = .ok (.iload_n 2, 1) := by decide +kernel
theorem d_Mo_shape_97 : decode prog_8_method_40_code 97 = .ok (.putfield 89, 3) := by decide +kernel
theorem d_Mo_shape_100 : decode prog_8_method_40_code 100 = .ok (.return_, 1) := by decide +kernel
theorem d_Mo_set_0 : decode prog_8_method_41_code 0 = .ok (.aload_n 0, 1) := by decide +kernel
theorem d_Mo_set_1 : decode prog_8_method_41_code 1 = .ok (.iload_n 1, 1) := by decide +kernel
theorem d_Mo_set_2 : decode prog_8_method_41_code 2 = .ok (.ifCond .lt 16, 3) := by decide +kernel
theorem d_Mo_set_5 : decode prog_8_method_41_code 5 = .ok (.iload_n 1, 1) := by decide +kernel
theorem d_Mo_set_6 : decode prog_8_method_41_code 6 = .ok (.aload_n 0, 1) := by decide +kernel
theorem d_Mo_set_7 : decode prog_8_method_41_code 7 = .ok (.getfield 215, 3) := by decide +kernel
theorem d_Mo_set_10 : decode prog_8_method_41_code 10 = .ok (.aload_n 0, 1) := by decide +kernel
theorem d_Mo_set_11 : decode prog_8_method_41_code 11 = .ok (.getfield 89, 3) := by decide +kernel
theorem d_Mo_set_14 : decode prog_8_method_41_code 14 = .ok (.iadd, 1) := by decide +kernel
theorem d_Mo_set_15 : decode prog_8_method_41_code 15 = .ok (.if_icmp .lt 7, 3) := by decide +kernel
theorem d_Mo_set_18 : decode prog_8_method_41_code 18 = .ok (.iconst 1, 1) := by decide +kernel
theorem d_Mo_set_19 : decode prog_8_method_41_code 19 = .ok (.goto 4, 3) := by decide +kernel
theorem d_Mo_set_22 : decode prog_8_method_41_code 22 = .ok (.iconst 0, 1) := by decide +kernel
theorem d_Mo_set_23 : decode prog_8_method_41_code 23 = .ok (.putfield 93, 3) := by decide +kernel
theorem d_Mo_set_26 : decode prog_8_method_41_code 26 = .ok (.aload_n 0, 1) := by decide +kernel
theorem d_Mo_set_27 : decode prog_8_method_41_code 27 = .ok (.getfield 93, 3) := by decide +kernel
theorem d_Mo_set_30 : decode prog_8_method_41_code 30 = .ok (.ifCond .le 5, 3) := by decide +kernel
theorem d_Mo_set_33 : decode prog_8_method_41_code 33 = .ok (.iconst 0, 1) := by decide +kernel
theorem d_Mo_set_34 : decode prog_8_method_41_code 34 = .ok (.ireturn, 1) := by decide +kernel
theorem d_Mo_set_35 : decode prog_8_method_41_code 35 = .ok (.aload_n 0, 1) := by decide +kernel
theorem d_Mo_set_36 : decode prog_8_method_41_code 36 = .ok (.getfield 83, 3) := by decide +kernel
theorem d_Mo_set_39 : decode prog_8_method_41_code 39 = .ok (.iload_n 1, 1) := by decide +kernel
theorem d_Mo_set_40 : decode prog_8_method_41_code 40 = .ok (.iaload, 1) := by decide +kernel
theorem d_Mo_set_41 : decode prog_8_method_41_code 41 = .ok (.istore_n 3, 1) := by decide +kernel
theorem d_Mo_set_42 : decode prog_8_method_41_code 42 = .ok (.aload_n 0, 1) := by decide +kernel
theorem d_Mo_set_43 : decode prog_8_method_41_code 43 = .ok (.getfield 83, 3) := by decide +kernel
theorem d_Mo_set_46 : decode prog_8_method_41_code 46 = .ok (.iload_n 1, 1) := by decide +kernel
theorem d_Mo_set_47 : decode prog_8_method_41_code 47 = .ok (.iload_n 2, 1) := by decide +kernel
theorem d_Mo_set_48 : decode prog_8_method_41_code 48 = .ok (.bipush 7, 2) := by decide +kernel
theorem d_Mo_set_50 : decode prog_8_method_41_code 50 = .ok (.iand, 1) := by decide +kernel
theorem d_Mo_set_51 : decode prog_8_method_41_code 51 = .ok (.iastore, 1) := by decide +kernel
theorem d_Mo_set_52 : decode prog_8_method_41_code 52 = .ok (.iload_n 3, 1) := by decide +kernel
theorem d_Mo_set_53 : decode prog_8_method_41_code 53 = .ok (.ireturn, 1) := by decide +kernel
theorem d_Mo_adopt_0 : decode prog_8_method_42_code 0 = .ok (.aload_n 0, 1) := by decide +kernel
theorem d_Mo_adopt_1 : decode prog_8_method_42_code 1 = .ok (.iconst 1, 1) := by decide +kernel
theorem d_Mo_adopt_2 : decode prog_8_method_42_code 2 = .ok (.invokevirtual 208, 3) := by decide +kernel
theorem d_Mo_adopt_5 : decode prog_8_method_42_code 5 = .ok (.ifCond .ne 28, 3) := by decide +kernel
theorem d_Mo_adopt_8 : decode prog_8_method_42_code 8 = .ok (.aload_n 0, 1) := by decide +kernel
theorem d_Mo_adopt_9 : decode prog_8_method_42_code 9 = .ok (.getfield 192, 3) := by decide +kernel
theorem d_Mo_adopt_12 : decode prog_8_method_42_code 12 = .ok (.ifCond .lt 21, 3) := by decide +kernel
theorem d_Mo_adopt_15 : decode prog_8_method_42_code 15 = .ok (.aload_n 0, 1) := by decide +kernel
theorem d_Mo_adopt_16 : decode prog_8_method_42_code 16 = .ok (.getfield 192, 3) := by decide +kernel
theorem d_Mo_adopt_19 : decode prog_8_method_42_code 19 = .ok (.bipush 8, 2) := by decide +kernel
theorem d_Mo_adopt_21 : decode prog_8_method_42_code 21 = .ok (.if_icmp .gt 12, 3) := by decide +kernel
theorem d_Mo_adopt_24 : decode prog_8_method_42_code 24 = .ok (.aload_n 0, 1) := by decide +kernel
theorem d_Mo_adopt_25 : decode prog_8_method_42_code 25 = .ok (.getfield 195, 3) := by decide +kernel
theorem d_Mo_adopt_28 : decode prog_8_method_42_code 28 = .ok (.bipush 8, 2) := by decide +kernel
theorem d_Mo_adopt_30 : decode prog_8_method_42_code 30 = .ok (.if_icmp .le 5, 3) := by decide +kernel
theorem d_Mo_adopt_33 : decode prog_8_method_42_code 33 = .ok (.iconst 0, 1) := by decide +kernel
theorem d_Mo_adopt_34 : decode prog_8_method_42_code 34 = .ok (.ireturn, 1) := by decide +kernel
theorem d_Mo_adopt_35 : decode prog_8_method_42_code 35 = .ok (.aload_n 0, 1) := by decide +kernel
theorem d_Mo_adopt_36 : decode prog_8_method_42_code 36 = .ok (.aload_n 0, 1) := by decide +kernel
theorem d_Mo_adopt_37 : decode prog_8_method_42_code 37 = .ok (.getfield 192, 3) := by decide +kernel
theorem d_Mo_adopt_40 : decode prog_8_method_42_code 40 = .ok (.putfield 215, 3) := by decide +kernel
theorem d_Mo_adopt_43 : decode prog_8_method_42_code 43 = .ok (.aload_n 0, 1) := by decide +kernel
theorem d_Mo_adopt_44 : decode prog_8_method_42_code 44 = .ok (.aload_n 0, 1) := by decide +kernel
theorem d_Mo_adopt_45 : decode prog_8_method_42_code 45 = .ok (.getfield 195, 3) := by decide +kernel
theorem d_Mo_adopt_48 : decode prog_8_method_42_code 48 = .ok (.putfield 89, 3) := by decide +kernel
theorem d_Mo_adopt_51 : decode prog_8_method_42_code 51 = .ok (.iconst 0, 1) := by decide +kernel
theorem d_Mo_adopt_52 : decode prog_8_method_42_code 52 = .ok (.istore_n 1, 1) := by decide +kernel
theorem d_Mo_adopt_53 : decode prog_8_method_42_code 53 = .ok (.iload_n 1, 1) := by decide +kernel
theorem d_Mo_adopt_54 : decode prog_8_method_42_code 54 = .ok (.bipush 16, 2) := by decide +kernel
theorem d_Mo_adopt_56 : decode prog_8_method_42_code 56 = .ok (.if_icmp .ge 41, 3) := by decide +kernel
theorem d_Mo_adopt_59 : decode prog_8_method_42_code 59 = .ok (.aload_n 0, 1) := by decide +kernel
theorem d_Mo_adopt_60 : decode prog_8_method_42_code 60 = .ok (.getfield 83, 3) := by decide +kernel
theorem d_Mo_adopt_63 : decode prog_8_method_42_code 63 = .ok (.iload_n 1, 1) := by decide +kernel
theorem d_Mo_adopt_64 : decode prog_8_method_42_code 64 = .ok (.iload_n 1, 1) := by decide +kernel
theorem d_Mo_adopt_65 : decode prog_8_method_42_code 65 = .ok (.aload_n 0, 1) := by decide +kernel
theorem d_Mo_adopt_66 : decode prog_8_method_42_code 66 = .ok (.getfield 192, 3) := by decide +kernel
theorem d_Mo_adopt_69 : decode prog_8_method_42_code 69 = .ok (.aload_n 0, 1) := by decide +kernel
theorem d_Mo_adopt_70 : decode prog_8_method_42_code 70 = .ok (.getfield 195, 3) := by decide +kernel
theorem d_Mo_adopt_73 : decode prog_8_method_42_code 73 = .ok (.iadd, 1) := by decide +kernel
theorem d_Mo_adopt_74 : decode prog_8_method_42_code 74 = .ok (.if_icmp .ge 15, 3) := by decide +kernel
theorem d_Mo_adopt_77 : decode prog_8_method_42_code 77 = .ok (.aload_n 0, 1) := by decide +kernel
theorem d_Mo_adopt_78 : decode prog_8_method_42_code 78 = .ok (.getfield 77, 3) := by decide +kernel
theorem d_Mo_adopt_81 : decode prog_8_method_42_code 81 = .ok (.iload_n 1, 1) := by decide +kernel
theorem d_Mo_adopt_82 : decode prog_8_method_42_code 82 = .ok (.iaload, 1) := by decide +kernel
theorem d_Mo_adopt_83 : decode prog_8_method_42_code 83 = .ok (.bipush 7, 2) := by decide +kernel
theorem d_Mo_adopt_85 : decode prog_8_method_42_code 85 = .ok (.iand, 1) := by decide +kernel
theorem d_Mo_adopt_86 : decode prog_8_method_42_code 86 = .ok (.goto 4, 3) := by decide +kernel
theorem d_Mo_adopt_89 : decode prog_8_method_42_code 89 = .ok (.iconst 0, 1) := by decide +kernel
theorem d_Mo_adopt_90 : decode prog_8_method_42_code 90 = .ok (.iastore, 1) := by decide +kernel
theorem d_Mo_adopt_91 : decode prog_8_method_42_code 91 = .ok (.iinc 1 1, 3) := by decide +kernel
theorem d_Mo_adopt_94 : decode prog_8_method_42_code 94 = .ok (.goto (-41), 3) := by decide +kernel
theorem d_Mo_adopt_97 : decode prog_8_method_42_code 97 = .ok (.iconst 1, 1) := by decide +kernel
theorem d_Mo_adopt_98 : decode prog_8_method_42_code 98 = .ok (.ireturn, 1) := by decide +kernel
theorem d_Mo_placeOf_0 : decode prog_8_method_43_code 0 = .ok (.iload_n 1, 1) := by decide +kernel
theorem d_Mo_placeOf_1 : decode prog_8_method_43_code 1 = .ok (.aload_n 0, 1) := by decide +kernel
theorem d_Mo_placeOf_2 : decode prog_8_method_43_code 2 = .ok (.getfield 215, 3) := by decide +kernel
theorem d_Mo_placeOf_5 : decode prog_8_method_43_code 5 = .ok (.if_icmp .ge 7, 3) := by decide +kernel
theorem d_Mo_placeOf_8 : decode prog_8_method_43_code 8 = .ok (.iload_n 1, 1) := by decide +kernel
theorem d_Mo_placeOf_9 : decode prog_8_method_43_code 9 = .ok (.goto 19, 3) := by decide +kernel
theorem d_Mo_placeOf_12 : decode prog_8_method_43_code 12 = .ok (.aload_n 0, 1) := by decide +kernel
theorem d_Mo_placeOf_13 : decode prog_8_method_43_code 13 = .ok (.getfield 215, 3) := by decide +kernel
theorem d_Mo_placeOf_16 : decode prog_8_method_43_code 16 = .ok (.iload_n 1, 1) := by decide +kernel
theorem d_Mo_placeOf_17 : decode prog_8_method_43_code 17 = .ok (.aload_n 0, 1) := by decide +kernel
theorem d_Mo_placeOf_18 : decode prog_8_method_43_code 18 = .ok (.getfield 215, 3) := by decide +kernel
theorem d_Mo_placeOf_21 : decode prog_8_method_43_code 21 = .ok (.isub, 1) := by decide +kernel
theorem d_Mo_placeOf_22 : decode prog_8_method_43_code 22 = .ok (.aload_n 0, 1) := by decide +kernel
theorem d_Mo_placeOf_23 : decode prog_8_method_43_code 23 = .ok (.getfield 89, 3) := by decide +kernel
theorem d_Mo_placeOf_26 : decode prog_8_method_43_code 26 = .ok (.irem, 1) := by decide +kernel
theorem d_Mo_placeOf_27 : decode prog_8_method_43_code 27 = .ok (.iadd, 1) := by decide +kernel
theorem d_Mo_placeOf_28 : decode prog_8_method_43_code 28 = .ok (.ireturn, 1) := by decide +kernel
theorem d_Mo_letter_0 : decode prog_8_method_44_code 0 = .ok (.aload_n 0, 1) := by decide +kernel
theorem d_Mo_letter_1 : decode prog_8_method_44_code 1 = .ok (.iload_n 1, 1) := by decide +kernel
theorem d_Mo_letter_2 : decode prog_8_method_44_code 2 = .ok (.ifCond .ge 7, 3) := by decide +kernel
theorem d_Mo_letter_5 : decode prog_8_method_44_code 5 = .ok (.iconst 1, 1) := by decide +kernel
theorem d_Mo_letter_6 : decode prog_8_method_44_code 6 = .ok (.goto 4, 3) := by decide +kernel
theorem d_Mo_letter_9 : decode prog_8_method_44_code 9 = .ok (.iconst 0, 1) := by decide +kernel
theorem d_Mo_letter_10 : decode prog_8_method_44_code 10 = .ok (.putfield 93, 3) := by decide +kernel
theorem d_Mo_letter_13 : decode prog_8_method_44_code 13 = .ok (.aload_n 0, 1) := by decide +kernel
theorem d_Mo_letter_14 : decode prog_8_method_44_code 14 = .ok (.getfield 93, 3) := by decide +kernel
theorem d_Mo_letter_17 : decode prog_8_method_44_code 17 = .ok (.ifCond .le 7, 3) := by decide +kernel
theorem d_Mo_letter_20 : decode prog_8_method_44_code 20 = .ok (.iconst 0, 1) := by decide +kernel
theorem d_Mo_letter_21 : decode prog_8_method_44_code 21 = .ok (.goto 13, 3) := by decide +kernel
theorem d_Mo_letter_24 : decode prog_8_method_44_code 24 = .ok (.aload_n 0, 1) := by decide +kernel
theorem d_Mo_letter_25 : decode prog_8_method_44_code 25 = .ok (.getfield 83, 3) := by decide +kernel
theorem d_Mo_letter_28 : decode prog_8_method_44_code 28 = .ok (.aload_n 0, 1) := by decide +kernel
theorem d_Mo_letter_29 : decode prog_8_method_44_code 29 = .ok (.iload_n 1, 1) := by decide +kernel
theorem d_Mo_letter_30 : decode prog_8_method_44_code 30 = .ok (.invokevirtual 218, 3) := by decide +kernel
theorem d_Mo_letter_33 : decode prog_8_method_44_code 33 = .ok (.iaload, 1) := by decide +kernel
theorem d_Mo_letter_34 : decode prog_8_method_44_code 34 = .ok (.ireturn, 1) := by decide +kernel
theorem d_Mo_spread_0 : decode prog_8_method_45_code 0 = .ok (.aload_n 0, 1) := by decide +kernel
theorem d_Mo_spread_1 : decode prog_8_method_45_code 1 = .ok (.getfield 215, 3) := by decide +kernel
theorem d_Mo_spread_4 : decode prog_8_method_45_code 4 = .ok (.aload_n 0, 1) := by decide +kernel
theorem d_Mo_spread_5 : decode prog_8_method_45_code 5 = .ok (.getfield 89, 3) := by decide +kernel
theorem d_Mo_spread_8 : decode prog_8_method_45_code 8 = .ok (.iadd, 1) := by decide +kernel
theorem d_Mo_spread_9 : decode prog_8_method_45_code 9 = .ok (.istore_n 2, 1) := by decide +kernel
theorem d_Mo_spread_10 : decode prog_8_method_45_code 10 = .ok (.iconst 0, 1) := by decide +kernel
theorem d_Mo_spread_11 : decode prog_8_method_45_code 11 = .ok (.istore_n 3, 1) := by decide +kernel
theorem d_Mo_spread_12 : decode prog_8_method_45_code 12 = .ok (.iload_n 3, 1) := by decide +kernel
theorem d_Mo_spread_13 : decode prog_8_method_45_code 13 = .ok (.iload_n 2, 1) := by decide +kernel
theorem d_Mo_spread_14 : decode prog_8_method_45_code 14 = .ok (.if_icmp .ge 47, 3) := by decide +kernel
theorem d_Mo_spread_17 : decode prog_8_method_45_code 17 = .ok (.aload_n 0, 1) := by decide +kernel
theorem d_Mo_spread_18 : decode prog_8_method_45_code 18 = .ok (.getfield 86, 3) := by decide +kernel
theorem d_Mo_spread_21 : decode prog_8_method_45_code 21 = .ok (.bipush 16, 2) := by decide +kernel
theorem d_Mo_spread_23 : decode prog_8_method_45_code 23 = .ok (.iload_n 1, 1) := by decide +kernel
theorem d_Mo_spread_24 : decode prog_8_method_45_code 24 = .ok (.imul, 1) := by decide +kernel
theorem d_Mo_spread_25 : decode prog_8_method_45_code 25 = .ok (.iload_n 3, 1) := by decide +kernel
theorem d_Mo_spread_26 : decode prog_8_method_45_code 26 = .ok (.iadd, 1) := by decide +kernel
theorem d_Mo_spread_27 : decode prog_8_method_45_code 27 = .ok (.aload_n 0, 1) := by decide +kernel
theorem d_Mo_spread_28 : decode prog_8_method_45_code 28 = .ok (.getfield 13, 3) := by decide +kernel
theorem d_Mo_spread_31 : decode prog_8_method_45_code 31 = .ok (.iload_n 1, 1) := by decide +kernel
theorem d_Mo_spread_32 : decode prog_8_method_45_code 32 = .ok (.iaload, 1) := by decide +kernel
theorem d_Mo_spread_33 : decode prog_8_method_45_code 33 = .ok (.bipush 8, 2) := by decide +kernel
theorem d_Mo_spread_35 : decode prog_8_method_45_code 35 = .ok (.if_icmp .eq 14, 3) := by decide +kernel
theorem d_Mo_spread_38 : decode prog_8_method_45_code 38 = .ok (.aload_n 0, 1) := by decide +kernel
theorem d_Mo_spread_39 : decode prog_8_method_45_code 39 = .ok (.getfield 13, 3) := by decide +kernel
theorem d_Mo_spread_42 : decode prog_8_method_45_code 42 = .ok (.iload_n 1, 1) := by decide +kernel
theorem d_Mo_spread_43 : decode prog_8_method_45_code 43 = .ok (.iaload, 1) := by decide +kernel
theorem d_Mo_spread_44 : decode prog_8_method_45_code 44 = .ok (.bipush 10, 2) := by decide +kernel
theorem d_Mo_spread_46 : decode prog_8_method_45_code 46 = .ok (.if_icmp .ne 7, 3) := by decide +kernel
theorem d_Mo_spread_49 : decode prog_8_method_45_code 49 = .ok (.iconst 1, 1) := by decide +kernel
theorem d_Mo_spread_50 : decode prog_8_method_45_code 50 = .ok (.goto 4, 3) := by decide +kernel
theorem d_Mo_spread_53 : decode prog_8_method_45_code 53 = .ok (.iconst 0, 1) := by decide +kernel
theorem d_Mo_spread_54 : decode prog_8_method_45_code 54 = .ok (.bastore, 1) := by decide +kernel
theorem d_Mo_spread_55 : decode prog_8_method_45_code 55 = .ok (.iinc 3 1, 3) := by decide +kernel
theorem d_Mo_spread_58 : decode prog_8_method_45_code 58 = .ok (.goto (-46), 3) := by decide +kernel
theorem d_Mo_spread_61 : decode prog_8_method_45_code 61 = .ok (.iconst 0, 1) := by decide +kernel
theorem d_Mo_spread_62 : decode prog_8_method_45_code 62 = .ok (.istore_n 3, 1) := by decide +kernel
theorem d_Mo_spread_63 : decode prog_8_method_45_code 63 = .ok (.iload_n 3, 1) := by decide +kernel
theorem d_Mo_spread_64 : decode prog_8_method_45_code 64 = .ok (.bipush 18, 2) := by decide +kernel
theorem d_Mo_spread_66 : decode prog_8_method_45_code 66 = .ok (.if_icmp .ge 181, 3) := by decide +kernel
theorem d_Mo_spread_69 : decode prog_8_method_45_code 69 = .ok (.iconst 0, 1) := by decide +kernel
theorem d_Mo_spread_70 : decode prog_8_method_45_code 70 = .ok (.istore 4, 2) := by decide +kernel
theorem d_Mo_spread_72 : decode prog_8_method_45_code 72 = .ok (.iload 4, 2) := by decide +kernel
theorem d_Mo_spread_74 : decode prog_8_method_45_code 74 = .ok (.iload_n 2, 1) := by decide +kernel
theorem d_Mo_spread_75 : decode prog_8_method_45_code 75 = .ok (.if_icmp .ge 166, 3) := by decide +kernel
theorem d_Mo_spread_78 : decode prog_8_method_45_code 78 = .ok (.iload 4, 2) := by decide +kernel
theorem d_Mo_spread_80 : decode prog_8_method_45_code 80 = .ok (.iconst 1, 1) := by decide +kernel
theorem d_Mo_spread_81 : decode prog_8_method_45_code 81 = .ok (.iadd, 1) := by decide +kernel
theorem d_Mo_spread_82 : decode prog_8_method_45_code 82 = .ok (.iload_n 2, 1) := by decide +kernel
theorem d_Mo_spread_83 : decode prog_8_method_45_code 83 = .ok (.if_icmp .ge 10, 3) := by decide +kernel
theorem d_Mo_spread_86 : decode prog_8_method_45_code 86 = .ok (.iload 4, 2) := by decide +kernel
theorem d_Mo_spread_88 : decode prog_8_method_45_code 88 = .ok (.iconst 1, 1) := by decide +kernel
theorem d_Mo_spread_89 : decode prog_8_method_45_code 89 = .ok (.iadd, 1) := by decide +kernel
theorem d_Mo_spread_90 : decode prog_8_method_45_code 90 = .ok (.goto 7, 3) := by decide +kernel
theorem d_Mo_spread_93 : decode prog_8_method_45_code 93 = .ok (.aload_n 0, 1) := by decide +kernel
theorem d_Mo_spread_94 : decode prog_8_method_45_code 94 = .ok (.getfield 215, 3) := by decide +kernel
theorem d_Mo_spread_97 : decode prog_8_method_45_code 97 = .ok (.istore 5, 2) := by decide +kernel
theorem d_Mo_spread_99 : decode prog_8_method_45_code 99 = .ok (.aload_n 0, 1) := by decide +kernel
theorem d_Mo_spread_100 : decode prog_8_method_45_code 100 = .ok (.getfield 16, 3) := by decide +kernel
theorem d_Mo_spread_103 : decode prog_8_method_45_code 103 = .ok (.iload_n 1, 1) := by decide +kernel
theorem d_Mo_spread_104 : decode prog_8_method_45_code 104 = .ok (.iaload, 1) := by decide +kernel
theorem d_Mo_spread_105 : decode prog_8_method_45_code 105 = .ok (.ifCond .lt 59, 3) := by decide +kernel
theorem d_Mo_spread_108 : decode prog_8_method_45_code 108 = .ok (.aload_n 0, 1) := by decide +kernel
theorem d_Mo_spread_109 : decode prog_8_method_45_code 109 = .ok (.getfield 62, 3) := by decide +kernel
theorem d_Mo_spread_112 : decode prog_8_method_45_code 112 = .ok (.aload_n 0, 1) := by decide +kernel
theorem d_Mo_spread_113 : decode prog_8_method_45_code 113 = .ok (.getfield 16, 3) := by decide +kernel
theorem d_Mo_spread_116 : decode prog_8_method_45_code 116 = .ok (.iload_n 1, 1) := by decide +kernel
theorem d_Mo_spread_117 : decode prog_8_method_45_code 117 = .ok (.iaload, 1) := by decide +kernel
theorem d_Mo_spread_118 : decode prog_8_method_45_code 118 = .ok (.aload_n 0, 1) := by decide +kernel
theorem d_Mo_spread_119 : decode prog_8_method_45_code 119 = .ok (.getfield 86, 3) := by decide +kernel
theorem d_Mo_spread_122 : decode prog_8_method_45_code 122 = .ok (.bipush 16, 2) := by decide +kernel
theorem d_Mo_spread_124 : decode prog_8_method_45_code 124 = .ok (.aload_n 0, 1) := by decide +kernel
theorem d_Mo_spread_125 : decode prog_8_method_45_code 125 = .ok (.getfield 16, 3) := by decide +kernel
theorem d_Mo_spread_128 : decode prog_8_method_45_code 128 = .ok (.iload_n 1, 1) := by decide +kernel
theorem d_Mo_spread_129 : decode prog_8_method_45_code 129 = .ok (.iaload, 1) := by decide +kernel
theorem d_Mo_spread_130 : decode prog_8_method_45_code 130 = .ok (.imul, 1) := by decide +kernel
theorem d_Mo_spread_131 : decode prog_8_method_45_code 131 = .ok (.iload 4, 2) := by decide +kernel
theorem d_Mo_spread_133 : decode prog_8_method_45_code 133 = .ok (.iadd, 1) := by decide +kernel
theorem d_Mo_spread_134 : decode prog_8_method_45_code 134 = .ok (.baload, 1) := by decide +kernel
theorem d_Mo_spread_135 : decode prog_8_method_45_code 135 = .ok (.bastore, 1) := by decide +kernel
theorem d_Mo_spread_136 : decode prog_8_method_45_code 136 = .ok (.aload_n 0, 1) := by decide +kernel
theorem d_Mo_spread_137 : decode prog_8_method_45_code 137 = .ok (.getfield 62, 3) := by decide +kernel
theorem d_Mo_spread_140 : decode prog_8_method_45_code 140 = .ok (.aload_n 0, 1) := by decide +kernel
theorem d_Mo_spread_141 : decode prog_8_method_45_code 141 = .ok (.getfield 19, 3) := by decide +kernel
theorem d_Mo_spread_144 : decode prog_8_method_45_code 144 = .ok (.iload_n 1, 1) := by decide +kernel
theorem d_Mo_spread_145 : decode prog_8_method_45_code 145 = .ok (.iaload, 1) := by decide +kernel
theorem d_Mo_spread_146 : decode prog_8_method_45_code 146 = .ok (.aload_n 0, 1) := by decide +kernel
theorem d_Mo_spread_147 : decode prog_8_method_45_code 147 = .ok (.getfield 86, 3) := by decide +kernel
theorem d_Mo_spread_150 : decode prog_8_method_45_code 150 = .ok (.bipush 16, 2) := by decide +kernel
theorem d_Mo_spread_152 : decode prog_8_method_45_code 152 = .ok (.aload_n 0, 1) := by decide +kernel
theorem d_Mo_spread_153 : decode prog_8_method_45_code 153 = .ok (.getfield 19, 3) := by decide +kernel
theorem d_Mo_spread_156 : decode prog_8_method_45_code 156 = .ok (.iload_n 1, 1) := by decide +kernel
theorem d_Mo_spread_157 : decode prog_8_method_45_code 157 = .ok (.iaload, 1) := by decide +kernel
theorem d_Mo_spread_158 : decode prog_8_method_45_code 158 = .ok (.imul, 1) := by decide +kernel
theorem d_Mo_spread_159 : decode prog_8_method_45_code 159 = .ok (.iload 4, 2) := by decide +kernel
theorem d_Mo_spread_161 : decode prog_8_method_45_code 161 = .ok (.iadd, 1) := by decide +kernel
theorem d_Mo_spread_162 : decode prog_8_method_45_code 162 = .ok (.baload, 1) := by decide +kernel
theorem d_Mo_spread_163 : decode prog_8_method_45_code 163 = .ok (.bastore, 1) := by decide +kernel
theorem d_Mo_spread_164 : decode prog_8_method_45_code 164 = .ok (.aload_n 0, 1) := by decide +kernel
theorem d_Mo_spread_165 : decode prog_8_method_45_code 165 = .ok (.getfield 13, 3) := by decide +kernel
theorem d_Mo_spread_168 : decode prog_8_method_45_code 168 = .ok (.iload_n 1, 1) := by decide +kernel
theorem d_Mo_spread_169 : decode prog_8_method_45_code 169 = .ok (.iaload, 1) := by decide +kernel
theorem d_Mo_spread_170 : decode prog_8_method_45_code 170 = .ok (.bipush 6, 2) := by decide +kernel
theorem d_Mo_spread_172 : decode prog_8_method_45_code 172 = .ok (.if_icmp .ne 23, 3) := by decide +kernel
theorem d_Mo_spread_175 : decode prog_8_method_45_code 175 = .ok (.aload_n 0, 1) := by decide +kernel
theorem d_Mo_spread_176 : decode prog_8_method_45_code 176 = .ok (.getfield 86, 3) := by decide +kernel
theorem d_Mo_spread_179 : decode prog_8_method_45_code 179 = .ok (.bipush 16, 2) := by decide +kernel
theorem d_Mo_spread_181 : decode prog_8_method_45_code 181 = .ok (.aload_n 0, 1) := by decide +kernel
theorem d_Mo_spread_182 : decode prog_8_method_45_code 182 = .ok (.getfield 19, 3) := by decide +kernel
theorem d_Mo_spread_185 : decode prog_8_method_45_code 185 = .ok (.iload_n 1, 1) := by decide +kernel
theorem d_Mo_spread_186 : decode prog_8_method_45_code 186 = .ok (.iaload, 1) := by decide +kernel
theorem d_Mo_spread_187 : decode prog_8_method_45_code 187 = .ok (.imul, 1) := by decide +kernel
theorem d_Mo_spread_188 : decode prog_8_method_45_code 188 = .ok (.iload 5, 2) := by decide +kernel
theorem d_Mo_spread_190 : decode prog_8_method_45_code 190 = .ok (.iadd, 1) := by decide +kernel
theorem d_Mo_spread_191 : decode prog_8_method_45_code 191 = .ok (.baload, 1) := by decide +kernel
theorem d_Mo_spread_192 : decode prog_8_method_45_code 192 = .ok (.goto 15, 3) := by decide +kernel
theorem d_Mo_spread_195 : decode prog_8_method_45_code 195 = .ok (.aload_n 0, 1) := by decide +kernel
theorem d_Mo_spread_196 : decode prog_8_method_45_code 196 = .ok (.getfield 86, 3) := by decide +kernel
theorem d_Mo_spread_199 : decode prog_8_method_45_code 199 = .ok (.bipush 16, 2) := by decide +kernel
theorem d_Mo_spread_201 : decode prog_8_method_45_code 201 = .ok (.iload_n 1, 1) := by decide +kernel
theorem d_Mo_spread_202 : decode prog_8_method_45_code 202 = .ok (.imul, 1) := by decide +kernel
theorem d_Mo_spread_203 : decode prog_8_method_45_code 203 = .ok (.iload 5, 2) := by decide +kernel
theorem d_Mo_spread_205 : decode prog_8_method_45_code 205 = .ok (.iadd, 1) := by decide +kernel
theorem d_Mo_spread_206 : decode prog_8_method_45_code 206 = .ok (.baload, 1) := by decide +kernel
theorem d_Mo_spread_207 : decode prog_8_method_45_code 207 = .ok (.istore 6, 2) := by decide +kernel
theorem d_Mo_spread_209 : decode prog_8_method_45_code 209 = .ok (.aload_n 0, 1) := by decide +kernel
theorem d_Mo_spread_210 : decode prog_8_method_45_code 210 = .ok (.getfield 86, 3) := by decide +kernel
theorem d_Mo_spread_213 : decode prog_8_method_45_code 213 = .ok (.bipush 16, 2) := by decide +kernel
theorem d_Mo_spread_215 : decode prog_8_method_45_code 215 = .ok (.iload_n 1, 1) := by decide +kernel
theorem d_Mo_spread_216 : decode prog_8_method_45_code 216 = .ok (.imul, 1) := by decide +kernel
theorem d_Mo_spread_217 : decode prog_8_method_45_code 217 = .ok (.iload 4, 2) := by decide +kernel
theorem d_Mo_spread_219 : decode prog_8_method_45_code 219 = .ok (.iadd, 1) := by decide +kernel
theorem d_Mo_spread_220 : decode prog_8_method_45_code 220 = .ok (.aload_n 0, 1) := by decide +kernel
theorem d_Mo_spread_221 : decode prog_8_method_45_code 221 = .ok (.iload_n 1, 1) := by decide +kernel
theorem d_Mo_spread_222 : decode prog_8_method_45_code 222 = .ok (.iload 6, 2) := by decide +kernel
theorem d_Mo_spread_224 : decode prog_8_method_45_code 224 = .ok (.aload_n 0, 1) := by decide +kernel
theorem d_Mo_spread_225 : decode prog_8_method_45_code 225 = .ok (.getfield 83, 3) := by decide +kernel
theorem d_Mo_spread_228 : decode prog_8_method_45_code 228 = .ok (.iload 4, 2) := by decide +kernel
theorem d_Mo_spread_230 : decode prog_8_method_45_code 230 = .ok (.iaload, 1) := by decide +kernel
theorem d_Mo_spread_231 : decode prog_8_method_45_code 231 = .ok (.invokevirtual 171, 3) := by decide +kernel
theorem d_Mo_spread_234 : decode prog_8_method_45_code 234 = .ok (.bastore, 1) := by decide +kernel
theorem d_Mo_spread_235 : decode prog_8_method_45_code 235 = .ok (.iinc 4 1, 3) := by decide +kernel
theorem d_Mo_spread_238 : decode prog_8_method_45_code 238 = .ok (.goto (-166), 3) := by decide +kernel
theorem d_Mo_spread_241 : decode prog_8_method_45_code 241 = .ok (.iinc 3 1, 3) := by decide +kernel
theorem d_Mo_spread_244 : decode prog_8_method_45_code 244 = .ok (.goto (-181), 3) := by decide +kernel
theorem d_Mo_spread_247 : decode prog_8_method_45_code 247 = .ok (.return_, 1) := by decide +kernel
theorem d_Mo_holds_0 : decode prog_8_method_46_code 0 = .ok (.aload_n 0, 1) := by decide +kernel
theorem d_Mo_holds_1 : decode prog_8_method_46_code 1 = .ok (.iload_n 1, 1) := by decide +kernel
theorem d_Mo_holds_2 : decode prog_8_method_46_code 2 = .ok (.ifCond .lt 7, 3) := by decide +kernel
theorem d_Mo_holds_5 : decode prog_8_method_46_code 5 = .ok (.iconst 1, 1) := by decide +kernel
theorem d_Mo_holds_6 : decode prog_8_method_46_code 6 = .ok (.goto 4, 3) := by decide +kernel
theorem d_Mo_holds_9 : decode prog_8_method_46_code 9 = .ok (.iconst 0, 1) := by decide +kernel
theorem d_Mo_holds_10 : decode prog_8_method_46_code 10 = .ok (.invokevirtual 208, 3) := by decide +kernel
theorem d_Mo_holds_13 : decode prog_8_method_46_code 13 = .ok (.ifCond .eq 5, 3) := by decide +kernel
theorem d_Mo_holds_16 : decode prog_8_method_46_code 16 = .ok (.iconst 0, 1) := by decide +kernel
theorem d_Mo_holds_17 : decode prog_8_method_46_code 17 = .ok (.ireturn, 1) := by decide +kernel
theorem d_Mo_holds_18 : decode prog_8_method_46_code 18 = .ok (.iconst 0, 1) := by decide +kernel
theorem d_Mo_holds_19 : decode prog_8_method_46_code 19 = .ok (.istore_n 2, 1) := by decide +kernel
theorem d_Mo_holds_20 : decode prog_8_method_46_code 20 = .ok (.iload_n 2, 1) := by decide +kernel
theorem d_Mo_holds_21 : decode prog_8_method_46_code 21 = .ok (.aload_n 0, 1) := by decide +kernel
theorem d_Mo_holds_22 : decode prog_8_method_46_code 22 = .ok (.getfield 150, 3) := by decide +kernel
theorem d_Mo_holds_25 : decode prog_8_method_46_code 25 = .ok (.if_icmp .ge 14, 3) := by decide +kernel
theorem d_Mo_holds_28 : decode prog_8_method_46_code 28 = .ok (.aload_n 0, 1) := by decide +kernel
theorem d_Mo_holds_29 : decode prog_8_method_46_code 29 = .ok (.iload_n 2, 1) := by decide +kernel
theorem d_Mo_holds_30 : decode prog_8_method_46_code 30 = .ok (.invokevirtual 221, 3) := by decide +kernel
theorem d_Mo_holds_33 : decode prog_8_method_46_code 33 = .ok (.iinc 2 1, 3) := by decide +kernel
theorem d_Mo_holds_36 : decode prog_8_method_46_code 36 = .ok (.goto (-16), 3) := by decide +kernel
theorem d_Mo_holds_39 : decode prog_8_method_46_code 39 = .ok (.aload_n 0, 1) := by decide +kernel
theorem d_Mo_holds_40 : decode prog_8_method_46_code 40 = .ok (.getfield 86, 3) := by decide +kernel
theorem d_Mo_holds_43 : decode prog_8_method_46_code 43 = .ok (.bipush 16, 2) := by decide +kernel
theorem d_Mo_holds_45 : decode prog_8_method_46_code 45 = .ok (.aload_n 0, 1) := by decide +kernel
theorem d_Mo_holds_46 : decode prog_8_method_46_code 46 = .ok (.getfield 150, 3) := by decide +kernel
theorem d_Mo_holds_49 : decode prog_8_method_46_code 49 = .ok (.iconst 1, 1) := by decide +kernel
theorem d_Mo_holds_50 : decode prog_8_method_46_code 50 = .ok (.isub, 1) := by decide +kernel
theorem d_Mo_holds_51 : decode prog_8_method_46_code 51 = .ok (.imul, 1) := by decide +kernel
theorem d_Mo_holds_52 : decode prog_8_method_46_code 52 = .ok (.aload_n 0, 1) := by decide +kernel
theorem d_Mo_holds_53 : decode prog_8_method_46_code 53 = .ok (.iload_n 1, 1) := by decide +kernel
theorem d_Mo_holds_54 : decode prog_8_method_46_code 54 = .ok (.invokevirtual 218, 3) := by decide +kernel
theorem d_Mo_holds_57 : decode prog_8_method_46_code 57 = .ok (.iadd, 1) := by decide +kernel
theorem d_Mo_holds_58 : decode prog_8_method_46_code 58 = .ok (.baload, 1) := by decide +kernel
theorem d_Mo_holds_59 : decode prog_8_method_46_code 59 = .ok (.ireturn, 1) := by decide +kernel
theorem d_Fo_clear_0 : decode prog_2_method_2_code 0 = .ok (.aload_n 0, 1) := by decide +kernel
theorem d_Fo_clear_1 : decode prog_2_method_2_code 1 = .ok (.iconst 0, 1) := by decide +kernel
theorem d_Fo_clear_2 : decode prog_2_method_2_code 2 = .ok (.putfield 33, 3) := by decide +kernel
theorem d_Fo_clear_5 : decode prog_2_method_2_code 5 = .ok (.aload_n 0, 1) := by decide +kernel
theorem d_Fo_clear_6 : decode prog_2_method_2_code 6 = .ok (.iconst 0, 1) := by decide +kernel
theorem d_Fo_clear_7 : decode prog_2_method_2_code 7 = .ok (.putfield 37, 3) := by decide +kernel
theorem d_Fo_clear_10 : decode prog_2_method_2_code 10 = .ok (.aload_n 0, 1) := by decide +kernel
theorem d_Fo_clear_11 : decode prog_2_method_2_code 11 = .ok (.iconst 0, 1) := by decide +kernel
theorem d_Fo_clear_12 : decode prog_2_method_2_code 12 = .ok (.putfield 40, 3) := by decide +kernel
theorem d_Fo_clear_15 : decode prog_2_method_2_code 15 = .ok (.return_, 1) := by decide +kernel
theorem d_Fo_add_0 : decode prog_2_method_3_code 0 = .ok (.aload_n 0, 1) := by decide +kernel
theorem d_Fo_add_1 : decode prog_2_method_3_code 1 = .ok (.getfield 33, 3) := by decide +kernel
theorem d_Fo_add_4 : decode prog_2_method_3_code 4 = .ok (.bipush 18, 2) := by decide +kernel
theorem d_Fo_add_6 : decode prog_2_method_3_code 6 = .ok (.if_icmp .lt 5, 3) := by decide +kernel
theorem d_Fo_add_9 : decode prog_2_method_3_code 9 = .ok (.iconst (-1), 1) := by decide +kernel
theorem d_Fo_add_10 : decode prog_2_method_3_code 10 = .ok (.ireturn, 1) := by decide +kernel
theorem d_Fo_add_11 : decode prog_2_method_3_code 11 = .ok (.aload_n 0, 1) := by decide +kernel
theorem d_Fo_add_12 : decode prog_2_method_3_code 12 = .ok (.getfield 9, 3) := by decide +kernel
theorem d_Fo_add_15 : decode prog_2_method_3_code 15 = .ok (.aload_n 0, 1) := by decide +kernel
theorem d_Fo_add_16 : decode prog_2_method_3_code 16 = .ok (.getfield 33, 3) := by decide +kernel
theorem d_Fo_add_19 : decode prog_2_method_3_code 19 = .ok (.iload_n 1, 1) := by decide +kernel
theorem d_Fo_add_20 : decode prog_2_method_3_code 20 = .ok (.iastore, 1) := by decide +kernel
theorem d_Fo_add_21 : decode prog_2_method_3_code 21 = .ok (.aload_n 0, 1) := by decide +kernel
theorem d_Fo_add_22 : decode prog_2_method_3_code 22 = .ok (.getfield 15, 3) := by decide +kernel
theorem d_Fo_add_25 : decode prog_2_method_3_code 25 = .ok (.aload_n 0, 1) := by decide +kernel
theorem d_Fo_add_26 : decode prog_2_method_3_code 26 = .ok (.getfield 33, 3) := by decide +kernel
theorem d_Fo_add_29 : decode prog_2_method_3_code 29 = .ok (.iload_n 2, 1) := by decide +kernel
theorem d_Fo_add_30 : decode prog_2_method_3_code 30 = .ok (.iastore, 1) := by decide +kernel
theorem d_Fo_add_31 : decode prog_2_method_3_code 31 = .ok (.aload_n 0, 1) := by decide +kernel
theorem d_Fo_add_32 : decode prog_2_method_3_code 32 = .ok (.getfield 18, 3) := by decide +kernel
theorem d_Fo_add_35 : decode prog_2_method_3_code 35 = .ok (.aload_n 0, 1) := by decide +kernel
theorem d_Fo_add_36 : decode prog_2_method_3_code 36 = .ok (.getfield 33, 3) := by decide +kernel
theorem d_Fo_add_39 : decode prog_2_method_3_code 39 = .ok (.iload_n 3, 1) := by decide +kernel
theorem d_Fo_add_40 : decode prog_2_method_3_code 40 = .ok (.iastore, 1) := by decide +kernel
theorem d_Fo_add_41 : decode prog_2_method_3_code 41 = .ok (.aload_n 0, 1) := by decide +kernel
theorem d_Fo_add_42 : decode prog_2_method_3_code 42 = .ok (.getfield 21, 3) := by decide +kernel
theorem d_Fo_add_45 : decode prog_2_method_3_code 45 = .ok (.aload_n 0, 1) := by decide +kernel
theorem d_Fo_add_46 : decode prog_2_method_3_code 46 = .ok (.getfield 33, 3) := by decide +kernel
theorem d_Fo_add_49 : decode prog_2_method_3_code 49 = .ok (.iload 4, 2) := by decide +kernel
theorem d_Fo_add_51 : decode prog_2_method_3_code 51 = .ok (.iastore, 1) := by decide +kernel
theorem d_Fo_add_52 : decode prog_2_method_3_code 52 = .ok (.iload_n 1, 1) := by decide +kernel
theorem d_Fo_add_53 : decode prog_2_method_3_code 53 = .ok (.invokestatic 43, 3) := by decide +kernel
theorem d_Fo_add_56 : decode prog_2_method_3_code 56 = .ok (.ifCond .eq 30, 3) := by decide +kernel
theorem d_Fo_add_59 : decode prog_2_method_3_code 59 = .ok (.iload 4, 2) := by decide +kernel
