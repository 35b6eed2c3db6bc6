/-! what the bytes say -/
theorem d_C_has_0 : decode c_C_has 0 = .ok (.iload_n 1, 1) := by decide +kernel
theorem d_C_has_1 : decode c_C_has 1 = .ok (.ifCond .lt 15, 3) := by decide +kernel
theorem d_C_has_4 : decode c_C_has 4 = .ok (.iload_n 1, 1) := by decide +kernel
theorem d_C_has_5 : decode c_C_has 5 = .ok (.aload_n 0, 1) := by decide +kernel
theorem d_C_has_6 : decode c_C_has 6 = .ok (.getfield 31, 3) := by decide +kernel
theorem d_C_has_9 : decode c_C_has 9 = .ok (.if_icmp .ge 7, 3) := by decide +kernel
theorem d_C_has_12 : decode c_C_has 12 = .ok (.iconst 1, 1) := by decide +kernel
theorem d_C_has_13 : decode c_C_has 13 = .ok (.goto 4, 3) := by decide +kernel
theorem d_C_has_16 : decode c_C_has 16 = .ok (.iconst 0, 1) := by decide +kernel
theorem d_C_has_17 : decode c_C_has 17 = .ok (.ireturn, 1) := by decide +kernel
theorem d_C_placeByHour_0 : decode c_C_placeByHour 0 = .ok (.iload_n 1, 1) := by decide +kernel
theorem d_C_placeByHour_1 : decode c_C_placeByHour 1 = .ok (.istore_n 2, 1) := by decide +kernel
theorem d_C_placeByHour_2 : decode c_C_placeByHour 2 = .ok (.iload_n 2, 1) := by decide +kernel
theorem d_C_placeByHour_3 : decode c_C_placeByHour 3 = .ok (.ifCond .le 45, 3) := by decide +kernel
theorem d_C_placeByHour_6 : decode c_C_placeByHour 6 = .ok (.aload_n 0, 1) := by decide +kernel
theorem d_C_placeByHour_7 : decode c_C_placeByHour 7 = .ok (.getfield 18, 3) := by decide +kernel
theorem d_C_placeByHour_10 : decode c_C_placeByHour 10 = .ok (.aload_n 0, 1) := by decide +kernel
theorem d_C_placeByHour_11 : decode c_C_placeByHour 11 = .ok (.getfield 28, 3) := by decide +kernel
theorem d_C_placeByHour_14 : decode c_C_placeByHour 14 = .ok (.iload_n 2, 1) := by decide +kernel
theorem d_C_placeByHour_15 : decode c_C_placeByHour 15 = .ok (.iconst 1, 1) := by decide +kernel
theorem d_C_placeByHour_16 : decode c_C_placeByHour 16 = .ok (.isub, 1) := by decide +kernel
theorem d_C_placeByHour_17 : decode c_C_placeByHour 17 = .ok (.iaload, 1) := by decide +kernel
theorem d_C_placeByHour_18 : decode c_C_placeByHour 18 = .ok (.iaload, 1) := by decide +kernel
theorem d_C_placeByHour_19 : decode c_C_placeByHour 19 = .ok (.aload_n 0, 1) := by decide +kernel
theorem d_C_placeByHour_20 : decode c_C_placeByHour 20 = .ok (.getfield 18, 3) := by decide +kernel
theorem d_C_placeByHour_23 : decode c_C_placeByHour 23 = .ok (.iload_n 1, 1) := by decide +kernel
theorem d_C_placeByHour_24 : decode c_C_placeByHour 24 = .ok (.iaload, 1) := by decide +kernel
theorem d_C_placeByHour_25 : decode c_C_placeByHour 25 = .ok (.if_icmp .le 23, 3) := by decide +kernel
theorem d_C_placeByHour_28 : decode c_C_placeByHour 28 = .ok (.aload_n 0, 1) := by decide +kernel
theorem d_C_placeByHour_29 : decode c_C_placeByHour 29 = .ok (.getfield 28, 3) := by decide +kernel
theorem d_C_placeByHour_32 : decode c_C_placeByHour 32 = .ok (.iload_n 2, 1) := by decide +kernel
theorem d_C_placeByHour_33 : decode c_C_placeByHour 33 = .ok (.aload_n 0, 1) := by decide +kernel
theorem d_C_placeByHour_34 : decode c_C_placeByHour 34 = .ok (.getfield 28, 3) := by decide +kernel
theorem d_C_placeByHour_37 : decode c_C_placeByHour 37 = .ok (.iload_n 2, 1) := by decide +kernel
theorem d_C_placeByHour_38 : decode c_C_placeByHour 38 = .ok (.iconst 1, 1) := by decide +kernel
theorem d_C_placeByHour_39 : decode c_C_placeByHour 39 = .ok (.isub, 1) := by decide +kernel
theorem d_C_placeByHour_40 : decode c_C_placeByHour 40 = .ok (.iaload, 1) := by decide +kernel
theorem d_C_placeByHour_41 : decode c_C_placeByHour 41 = .ok (.iastore, 1) := by decide +kernel
theorem d_C_placeByHour_42 : decode c_C_placeByHour 42 = .ok (.iinc 2 (-1), 3) := by decide +kernel
theorem d_C_placeByHour_45 : decode c_C_placeByHour 45 = .ok (.goto (-43), 3) := by decide +kernel
theorem d_C_placeByHour_48 : decode c_C_placeByHour 48 = .ok (.aload_n 0, 1) := by decide +kernel
theorem d_C_placeByHour_49 : decode c_C_placeByHour 49 = .ok (.getfield 28, 3) := by decide +kernel
theorem d_C_placeByHour_52 : decode c_C_placeByHour 52 = .ok (.iload_n 2, 1) := by decide +kernel
theorem d_C_placeByHour_53 : decode c_C_placeByHour 53 = .ok (.iload_n 1, 1) := by decide +kernel
theorem d_C_placeByHour_54 : decode c_C_placeByHour 54 = .ok (.iastore, 1) := by decide +kernel
theorem d_C_placeByHour_55 : decode c_C_placeByHour 55 = .ok (.return_, 1) := by decide +kernel
theorem d_J_fillI_0 : decode c_J_fillI 0 = .ok (.iconst 0, 1) := by decide +kernel
theorem d_J_fillI_1 : decode c_J_fillI 1 = .ok (.istore_n 2, 1) := by decide +kernel
theorem d_J_fillI_2 : decode c_J_fillI 2 = .ok (.aload_n 0, 1) := by decide +kernel
theorem d_J_fillI_3 : decode c_J_fillI 3 = .ok (.arraylength, 1) := by decide +kernel
theorem d_J_fillI_4 : decode c_J_fillI 4 = .ok (.istore_n 3, 1) := by decide +kernel
theorem d_J_fillI_5 : decode c_J_fillI 5 = .ok (.iload_n 2, 1) := by decide +kernel
theorem d_J_fillI_6 : decode c_J_fillI 6 = .ok (.iload_n 3, 1) := by decide +kernel
theorem d_J_fillI_7 : decode c_J_fillI 7 = .ok (.if_icmp .ge 13, 3) := by decide +kernel
theorem d_J_fillI_10 : decode c_J_fillI 10 = .ok (.aload_n 0, 1) := by decide +kernel
theorem d_J_fillI_11 : decode c_J_fillI 11 = .ok (.iload_n 2, 1) := by decide +kernel
theorem d_J_fillI_12 : decode c_J_fillI 12 = .ok (.iload_n 1, 1) := by decide +kernel
theorem d_J_fillI_13 : decode c_J_fillI 13 = .ok (.iastore, 1) := by decide +kernel
theorem d_J_fillI_14 : decode c_J_fillI 14 = .ok (.iinc 2 1, 3) := by decide +kernel
theorem d_J_fillI_17 : decode c_J_fillI 17 = .ok (.goto (-12), 3) := by decide +kernel
theorem d_J_fillI_20 : decode c_J_fillI 20 = .ok (.return_, 1) := by decide +kernel
theorem d_J_fillJ_0 : decode c_J_fillJ 0 = .ok (.iconst 0, 1) := by decide +kernel
theorem d_J_fillJ_1 : decode c_J_fillJ 1 = .ok (.istore_n 3, 1) := by decide +kernel
theorem d_J_fillJ_2 : decode c_J_fillJ 2 = .ok (.aload_n 0, 1) := by decide +kernel
theorem d_J_fillJ_3 : decode c_J_fillJ 3 = .ok (.arraylength, 1) := by decide +kernel
theorem d_J_fillJ_4 : decode c_J_fillJ 4 = .ok (.istore 4, 2) := by decide +kernel
theorem d_J_fillJ_6 : decode c_J_fillJ 6 = .ok (.iload_n 3, 1) := by decide +kernel
theorem d_J_fillJ_7 : decode c_J_fillJ 7 = .ok (.iload 4, 2) := by decide +kernel
theorem d_J_fillJ_9 : decode c_J_fillJ 9 = .ok (.if_icmp .ge 13, 3) := by decide +kernel
theorem d_J_fillJ_12 : decode c_J_fillJ 12 = .ok (.aload_n 0, 1) := by decide +kernel
theorem d_J_fillJ_13 : decode c_J_fillJ 13 = .ok (.iload_n 3, 1) := by decide +kernel
theorem d_J_fillJ_14 : decode c_J_fillJ 14 = .ok (.lload_n 1, 1) := by decide +kernel
theorem d_J_fillJ_15 : decode c_J_fillJ 15 = .ok (.lastore, 1) := by decide +kernel
theorem d_J_fillJ_16 : decode c_J_fillJ 16 = .ok (.iinc 3 1, 3) := by decide +kernel
theorem d_J_fillJ_19 : decode c_J_fillJ 19 = .ok (.goto (-13), 3) := by decide +kernel
theorem d_J_fillJ_22 : decode c_J_fillJ 22 = .ok (.return_, 1) := by decide +kernel
theorem d_J_max_0 : decode c_J_max 0 = .ok (.lload_n 0, 1) := by decide +kernel
theorem d_J_max_1 : decode c_J_max 1 = .ok (.lload_n 2, 1) := by decide +kernel
theorem d_J_max_2 : decode c_J_max 2 = .ok (.lcmp, 1) := by decide +kernel
theorem d_J_max_3 : decode c_J_max 3 = .ok (.ifCond .lt 7, 3) := by decide +kernel
theorem d_J_max_6 : decode c_J_max 6 = .ok (.lload_n 0, 1) := by decide +kernel
theorem d_J_max_7 : decode c_J_max 7 = .ok (.goto 4, 3) := by decide +kernel
theorem d_J_max_10 : decode c_J_max 10 = .ok (.lload_n 2, 1) := by decide +kernel
theorem d_J_max_11 : decode c_J_max 11 = .ok (.lreturn, 1) := by decide +kernel
theorem d_J_min_0 : decode c_J_min 0 = .ok (.lload_n 0, 1) := by decide +kernel
theorem d_J_min_1 : decode c_J_min 1 = .ok (.lload_n 2, 1) := by decide +kernel
theorem d_J_min_2 : decode c_J_min 2 = .ok (.lcmp, 1) := by decide +kernel
theorem d_J_min_3 : decode c_J_min 3 = .ok (.ifCond .gt 7, 3) := by decide +kernel
theorem d_J_min_6 : decode c_J_min 6 = .ok (.lload_n 0, 1) := by decide +kernel
theorem d_J_min_7 : decode c_J_min 7 = .ok (.goto 4, 3) := by decide +kernel
theorem d_J_min_10 : decode c_J_min 10 = .ok (.lload_n 2, 1) := by decide +kernel
theorem d_J_min_11 : decode c_J_min 11 = .ok (.lreturn, 1) := by decide +kernel
theorem d_R_isTold_0 : decode c_R_isTold 0 = .ok (.iload_n 1, 1) := by decide +kernel
theorem d_R_isTold_1 : decode c_R_isTold 1 = .ok (.ifCond .lt 22, 3) := by decide +kernel
theorem d_R_isTold_4 : decode c_R_isTold 4 = .ok (.iload_n 1, 1) := by decide +kernel
theorem d_R_isTold_5 : decode c_R_isTold 5 = .ok (.bipush 12, 2) := by decide +kernel
theorem d_R_isTold_7 : decode c_R_isTold 7 = .ok (.if_icmp .ge 16, 3) := by decide +kernel
theorem d_R_isTold_10 : decode c_R_isTold 10 = .ok (.aload_n 0, 1) := by decide +kernel
theorem d_R_isTold_11 : decode c_R_isTold 11 = .ok (.getfield 9, 3) := by decide +kernel
theorem d_R_isTold_14 : decode c_R_isTold 14 = .ok (.iload_n 1, 1) := by decide +kernel
theorem d_R_isTold_15 : decode c_R_isTold 15 = .ok (.iaload, 1) := by decide +kernel
theorem d_R_isTold_16 : decode c_R_isTold 16 = .ok (.ifCond .le 7, 3) := by decide +kernel
theorem d_R_isTold_19 : decode c_R_isTold 19 = .ok (.iconst 1, 1) := by decide +kernel
theorem d_R_isTold_20 : decode c_R_isTold 20 = .ok (.goto 4, 3) := by decide +kernel
theorem d_R_isTold_23 : decode c_R_isTold 23 = .ok (.iconst 0, 1) := by decide +kernel
theorem d_R_isTold_24 : decode c_R_isTold 24 = .ok (.ireturn, 1) := by decide +kernel
theorem d_T_add_0 : decode c_T_add 0 = .ok (.aload_n 0, 1) := by decide +kernel
theorem d_T_add_1 : decode c_T_add 1 = .ok (.getfield 34, 3) := by decide +kernel
theorem d_T_add_4 : decode c_T_add 4 = .ok (.istore 6, 2) := by decide +kernel
theorem d_T_add_6 : decode c_T_add 6 = .ok (.aload_n 0, 1) := by decide +kernel
theorem d_T_add_7 : decode c_T_add 7 = .ok (.getfield 9, 3) := by decide +kernel
theorem d_T_add_10 : decode c_T_add 10 = .ok (.iload 6, 2) := by decide +kernel
theorem d_T_add_12 : decode c_T_add 12 = .ok (.iload_n 1, 1) := by decide +kernel
theorem d_T_add_13 : decode c_T_add 13 = .ok (.bipush 10, 2) := by decide +kernel
theorem d_T_add_15 : decode c_T_add 15 = .ok (.idiv, 1) := by decide +kernel
theorem d_T_add_16 : decode c_T_add 16 = .ok (.iastore, 1) := by decide +kernel
theorem d_T_add_17 : decode c_T_add 17 = .ok (.aload_n 0, 1) := by decide +kernel
theorem d_T_add_18 : decode c_T_add 18 = .ok (.getfield 15, 3) := by decide +kernel
theorem d_T_add_21 : decode c_T_add 21 = .ok (.iload 6, 2) := by decide +kernel
theorem d_T_add_23 : decode c_T_add 23 = .ok (.iload_n 1, 1) := by decide +kernel
theorem d_T_add_24 : decode c_T_add 24 = .ok (.bipush 10, 2) := by decide +kernel
theorem d_T_add_26 : decode c_T_add 26 = .ok (.irem, 1) := by decide +kernel
theorem d_T_add_27 : decode c_T_add 27 = .ok (.iastore, 1) := by decide +kernel
theorem d_T_add_28 : decode c_T_add 28 = .ok (.aload_n 0, 1) := by decide +kernel
theorem d_T_add_29 : decode c_T_add 29 = .ok (.getfield 18, 3) := by decide +kernel
theorem d_T_add_32 : decode c_T_add 32 = .ok (.iload 6, 2) := by decide +kernel
theorem d_T_add_34 : decode c_T_add 34 = .ok (.iload_n 2, 1) := by decide +kernel
theorem d_T_add_35 : decode c_T_add 35 = .ok (.i2l, 1) := by decide +kernel
theorem d_T_add_36 : decode c_T_add 36 = .ok (.lastore, 1) := by decide +kernel
theorem d_T_add_37 : decode c_T_add 37 = .ok (.aload_n 0, 1) := by decide +kernel
theorem d_T_add_38 : decode c_T_add 38 = .ok (.getfield 22, 3) := by decide +kernel
theorem d_T_add_41 : decode c_T_add 41 = .ok (.iload 6, 2) := by decide +kernel
theorem d_T_add_43 : decode c_T_add 43 = .ok (.iload_n 3, 1) := by decide +kernel
theorem d_T_add_44 : decode c_T_add 44 = .ok (.i2l, 1) := by decide +kernel
theorem d_T_add_45 : decode c_T_add 45 = .ok (.lastore, 1) := by decide +kernel
theorem d_T_add_46 : decode c_T_add 46 = .ok (.aload_n 0, 1) := by decide +kernel
theorem d_T_add_47 : decode c_T_add 47 = .ok (.getfield 25, 3) := by decide +kernel
theorem d_T_add_50 : decode c_T_add 50 = .ok (.iload 6, 2) := by decide +kernel
theorem d_T_add_52 : decode c_T_add 52 = .ok (.iload 4, 2) := by decide +kernel
theorem d_T_add_54 : decode c_T_add 54 = .ok (.i2l, 1) := by decide +kernel
theorem d_T_add_55 : decode c_T_add 55 = .ok (.lastore, 1) := by decide +kernel
theorem d_T_add_56 : decode c_T_add 56 = .ok (.aload_n 0, 1) := by decide +kernel
theorem d_T_add_57 : decode c_T_add 57 = .ok (.getfield 28, 3) := by decide +kernel
theorem d_T_add_60 : decode c_T_add 60 = .ok (.iload 6, 2) := by decide +kernel
theorem d_T_add_62 : decode c_T_add 62 = .ok (.iload 5, 2) := by decide +kernel
theorem d_T_add_64 : decode c_T_add 64 = .ok (.i2l, 1) := by decide +kernel
theorem d_T_add_65 : decode c_T_add 65 = .ok (.lastore, 1) := by decide +kernel
theorem d_T_add_66 : decode c_T_add 66 = .ok (.aload_n 0, 1) := by decide +kernel
theorem d_T_add_67 : decode c_T_add 67 = .ok (.iload 6, 2) := by decide +kernel
theorem d_T_add_69 : decode c_T_add 69 = .ok (.iconst 1, 1) := by decide +kernel
theorem d_T_add_70 : decode c_T_add 70 = .ok (.iadd, 1) := by decide +kernel
theorem d_T_add_71 : decode c_T_add 71 = .ok (.putfield 34, 3) := by decide +kernel
theorem d_T_add_74 : decode c_T_add 74 = .ok (.iload 6, 2) := by decide +kernel
theorem d_T_add_76 : decode c_T_add 76 = .ok (.ireturn, 1) := by decide +kernel
theorem d_T_has_0 : decode c_T_has 0 = .ok (.iload_n 1, 1) := by decide +kernel
theorem d_T_has_1 : decode c_T_has 1 = .ok (.ifCond .lt 15, 3) := by decide +kernel
theorem d_T_has_4 : decode c_T_has 4 = .ok (.iload_n 1, 1) := by decide +kernel
theorem d_T_has_5 : decode c_T_has 5 = .ok (.aload_n 0, 1) := by decide +kernel
theorem d_T_has_6 : decode c_T_has 6 = .ok (.getfield 34, 3) := by decide +kernel
theorem d_T_has_9 : decode c_T_has 9 = .ok (.if_icmp .ge 7, 3) := by decide +kernel
theorem d_T_has_12 : decode c_T_has 12 = .ok (.iconst 1, 1) := by decide +kernel
theorem d_T_has_13 : decode c_T_has 13 = .ok (.goto 4, 3) := by decide +kernel
theorem d_T_has_16 : decode c_T_has 16 = .ok (.iconst 0, 1) := by decide +kernel
theorem d_T_has_17 : decode c_T_has 17 = .ok (.ireturn, 1) := by decide +kernel
theorem d_T_isExcess_0 : decode c_T_isExcess 0 = .ok (.aload_n 0, 1) := by decide +kernel
theorem d_T_isExcess_1 : decode c_T_isExcess 1 = .ok (.getfield 9, 3) := by decide +kernel
theorem d_T_isExcess_4 : decode c_T_isExcess 4 = .ok (.iload_n 1, 1) := by decide +kernel
theorem d_T_isExcess_5 : decode c_T_isExcess 5 = .ok (.iaload, 1) := by decide +kernel
theorem d_T_isExcess_6 : decode c_T_isExcess 6 = .ok (.iconst 2, 1) := by decide +kernel
theorem d_T_isExcess_7 : decode c_T_isExcess 7 = .ok (.if_icmp .eq 13, 3) := by decide +kernel
theorem d_T_isExcess_10 : decode c_T_isExcess 10 = .ok (.aload_n 0, 1) := by decide +kernel
theorem d_T_isExcess_11 : decode c_T_isExcess 11 = .ok (.getfield 9, 3) := by decide +kernel
theorem d_T_isExcess_14 : decode c_T_isExcess 14 = .ok (.iload_n 1, 1) := by decide +kernel
theorem d_T_isExcess_15 : decode c_T_isExcess 15 = .ok (.iaload, 1) := by decide +kernel
theorem d_T_isExcess_16 : decode c_T_isExcess 16 = .ok (.iconst 3, 1) := by decide +kernel
theorem d_T_isExcess_17 : decode c_T_isExcess 17 = .ok (.if_icmp .ne 7, 3) := by decide +kernel
theorem d_T_isExcess_20 : decode c_T_isExcess 20 = .ok (.iconst 1, 1) := by decide +kernel
theorem d_T_isExcess_21 : decode c_T_isExcess 21 = .ok (.goto 4, 3) := by decide +kernel
theorem d_T_isExcess_24 : decode c_T_isExcess 24 = .ok (.iconst 0, 1) := by decide +kernel
theorem d_T_isExcess_25 : decode c_T_isExcess 25 = .ok (.ireturn, 1) := by decide +kernel
theorem d_T_limitOf_0 : decode c_T_limitOf 0 = .ok (.aload_n 0, 1) := by decide +kernel
theorem d_T_limitOf_1 : decode c_T_limitOf 1 = .ok (.getfield 22, 3) := by decide +kernel
theorem d_T_limitOf_4 : decode c_T_limitOf 4 = .ok (.iload_n 1, 1) := by decide +kernel
theorem d_T_limitOf_5 : decode c_T_limitOf 5 = .ok (.laload, 1) := by decide +kernel
theorem d_T_limitOf_6 : decode c_T_limitOf 6 = .ok (.lconst 1, 1) := by decide +kernel
theorem d_T_limitOf_7 : decode c_T_limitOf 7 = .ok (.aload_n 0, 1) := by decide +kernel
theorem d_T_limitOf_8 : decode c_T_limitOf 8 = .ok (.getfield 25, 3) := by decide +kernel
theorem d_T_limitOf_11 : decode c_T_limitOf 11 = .ok (.iload_n 1, 1) := by decide +kernel
theorem d_T_limitOf_12 : decode c_T_limitOf 12 = .ok (.laload, 1) := by decide +kernel
theorem d_T_limitOf_13 : decode c_T_limitOf 13 = .ok (.ladd, 1) := by decide +kernel
theorem d_T_limitOf_14 : decode c_T_limitOf 14 = .ok (.lmul, 1) := by decide +kernel
theorem d_T_limitOf_15 : decode c_T_limitOf 15 = .ok (.lreturn, 1) := by decide +kernel
theorem d_T_partOf_0 : decode c_T_partOf 0 = .ok (.lload_n 1, 1) := by decide +kernel
theorem d_T_partOf_1 : decode c_T_partOf 1 = .ok (.aload_n 0, 1) := by decide +kernel
theorem d_T_partOf_2 : decode c_T_partOf 2 = .ok (.getfield 31, 3) := by decide +kernel
theorem d_T_partOf_5 : decode c_T_partOf 5 = .ok (.iload_n 3, 1) := by decide +kernel
theorem d_T_partOf_6 : decode c_T_partOf 6 = .ok (.bipush 6, 2) := by decide +kernel
theorem d_T_partOf_8 : decode c_T_partOf 8 = .ok (.imul, 1) := by decide +kernel
theorem d_T_partOf_9 : decode c_T_partOf 9 = .ok (.iload 4, 2) := by decide +kernel
theorem d_T_partOf_11 : decode c_T_partOf 11 = .ok (.iadd, 1) := by decide +kernel
theorem d_T_partOf_12 : decode c_T_partOf 12 = .ok (.iaload, 1) := by decide +kernel
theorem d_T_partOf_13 : decode c_T_partOf 13 = .ok (.i2l, 1) := by decide +kernel
theorem d_T_partOf_14 : decode c_T_partOf 14 = .ok (.lmul, 1) := by decide +kernel
theorem d_T_partOf_15 : decode c_T_partOf 15 = .ok (.ldc2_w 38, 3) := by decide +kernel
theorem d_T_partOf_18 : decode c_T_partOf 18 = .ok (.ldiv, 1) := by decide +kernel
theorem d_T_partOf_19 : decode c_T_partOf 19 = .ok (.lreturn, 1) := by decide +kernel
theorem d_T_partsOfOthers_0 : decode c_T_partsOfOthers 0 = .ok (.iconst 0, 1) := by decide +kernel
theorem d_T_partsOfOthers_1 : decode c_T_partsOfOthers 1 = .ok (.istore_n 3, 1) := by decide +kernel
theorem d_T_partsOfOthers_2 : decode c_T_partsOfOthers 2 = .ok (.iconst 0, 1) := by decide +kernel
theorem d_T_partsOfOthers_3 : decode c_T_partsOfOthers 3 = .ok (.istore 4, 2) := by decide +kernel
theorem d_T_partsOfOthers_5 : decode c_T_partsOfOthers 5 = .ok (.iload 4, 2) := by decide +kernel
theorem d_T_partsOfOthers_7 : decode c_T_partsOfOthers 7 = .ok (.bipush 6, 2) := by decide +kernel
theorem d_T_partsOfOthers_9 : decode c_T_partsOfOthers 9 = .ok (.if_icmp .ge 30, 3) := by decide +kernel
theorem d_T_partsOfOthers_12 : decode c_T_partsOfOthers 12 = .ok (.iload 4, 2) := by decide +kernel
theorem d_T_partsOfOthers_14 : decode c_T_partsOfOthers 14 = .ok (.iload_n 2, 1) := by decide +kernel
theorem d_T_partsOfOthers_15 : decode c_T_partsOfOthers 15 = .ok (.if_icmp .eq 18, 3) := by decide +kernel
theorem d_T_partsOfOthers_18 : decode c_T_partsOfOthers 18 = .ok (.iload_n 3, 1) := by decide +kernel
theorem d_T_partsOfOthers_19 : decode c_T_partsOfOthers 19 = .ok (.aload_n 0, 1) := by decide +kernel
theorem d_T_partsOfOthers_20 : decode c_T_partsOfOthers 20 = .ok (.getfield 31, 3) := by decide +kernel
theorem d_T_partsOfOthers_23 : decode c_T_partsOfOthers 23 = .ok (.iload_n 1, 1) := by decide +kernel
theorem d_T_partsOfOthers_24 : decode c_T_partsOfOthers 24 = .ok (.bipush 6, 2) := by decide +kernel
theorem d_T_partsOfOthers_26 : decode c_T_partsOfOthers 26 = .ok (.imul, 1) := by decide +kernel
theorem d_T_partsOfOthers_27 : decode c_T_partsOfOthers 27 = .ok (.iload 4, 2) := by decide +kernel
theorem d_T_partsOfOthers_29 : decode c_T_partsOfOthers 29 = .ok (.iadd, 1) := by decide +kernel
theorem d_T_partsOfOthers_30 : decode c_T_partsOfOthers 30 = .ok (.iaload, 1) := by decide +kernel
theorem d_T_partsOfOthers_31 : decode c_T_partsOfOthers 31 = .ok (.iadd, 1) := by decide +kernel
theorem d_T_partsOfOthers_32 : decode c_T_partsOfOthers 32 = .ok (.istore_n 3, 1) := by decide +kernel
theorem d_T_partsOfOthers_33 : decode c_T_partsOfOthers 33 = .ok (.iinc 4 1, 3) := by decide +kernel
theorem d_T_partsOfOthers_36 : decode c_T_partsOfOthers 36 = .ok (.goto (-31), 3) := by decide +kernel
theorem d_T_partsOfOthers_39 : decode c_T_partsOfOthers 39 = .ok (.iload_n 3, 1) := by decide +kernel
theorem d_T_partsOfOthers_40 : decode c_T_partsOfOthers 40 = .ok (.ireturn, 1) := by decide +kernel
theorem d_C_add_0 : decode c_C_add 0 = .ok (.aload_n 0, 1) := by decide +kernel
theorem d_C_add_1 : decode c_C_add 1 = .ok (.getfield 31, 3) := by decide +kernel
theorem d_C_add_4 : decode c_C_add 4 = .ok (.istore 4, 2) := by decide +kernel
theorem d_C_add_6 : decode c_C_add 6 = .ok (.aload_n 0, 1) := by decide +kernel
theorem d_C_add_7 : decode c_C_add 7 = .ok (.getfield 9, 3) := by decide +kernel
theorem d_C_add_10 : decode c_C_add 10 = .ok (.iload 4, 2) := by decide +kernel
theorem d_C_add_12 : decode c_C_add 12 = .ok (.iload_n 1, 1) := by decide +kernel
theorem d_C_add_13 : decode c_C_add 13 = .ok (.iastore, 1) := by decide +kernel
theorem d_C_add_14 : decode c_C_add 14 = .ok (.aload_n 0, 1) := by decide +kernel
theorem d_C_add_15 : decode c_C_add 15 = .ok (.getfield 15, 3) := by decide +kernel
theorem d_C_add_18 : decode c_C_add 18 = .ok (.iload 4, 2) := by decide +kernel
theorem d_C_add_20 : decode c_C_add 20 = .ok (.iload_n 2, 1) := by decide +kernel
theorem d_C_add_21 : decode c_C_add 21 = .ok (.iastore, 1) := by decide +kernel
theorem d_C_add_22 : decode c_C_add 22 = .ok (.aload_n 0, 1) := by decide +kernel
theorem d_C_add_23 : decode c_C_add 23 = .ok (.getfield 18, 3) := by decide +kernel
theorem d_C_add_26 : decode c_C_add 26 = .ok (.iload 4, 2) := by decide +kernel
theorem d_C_add_28 : decode c_C_add 28 = .ok (.iload_n 3, 1) := by decide +kernel
theorem d_C_add_29 : decode c_C_add 29 = .ok (.iastore, 1) := by decide +kernel
theorem d_C_add_30 : decode c_C_add 30 = .ok (.aload_n 0, 1) := by decide +kernel
theorem d_C_add_31 : decode c_C_add 31 = .ok (.iload 4, 2) := by decide +kernel
theorem d_C_add_33 : decode c_C_add 33 = .ok (.invokevirtual 35, 3) := by decide +kernel
theorem d_C_add_36 : decode c_C_add 36 = .ok (.aload_n 0, 1) := by decide +kernel
theorem d_C_add_37 : decode c_C_add 37 = .ok (.iload 4, 2) := by decide +kernel
theorem d_C_add_39 : decode c_C_add 39 = .ok (.iconst 1, 1) := by decide +kernel
theorem d_C_add_40 : decode c_C_add 40 = .ok (.iadd, 1) := by decide +kernel
theorem d_C_add_41 : decode c_C_add 41 = .ok (.putfield 31, 3) := by decide +kernel
theorem d_C_add_44 : decode c_C_add 44 = .ok (.iload 4, 2) := by decide +kernel
theorem d_C_add_46 : decode c_C_add 46 = .ok (.ireturn, 1) := by decide +kernel
theorem d_T_layerOf_0 : decode c_T_layerOf 0 = .ok (.lload_n 2, 1) := by decide +kernel
theorem d_T_layerOf_1 : decode c_T_layerOf 1 = .ok (.aload_n 0, 1) := by decide +kernel
theorem d_T_layerOf_2 : decode c_T_layerOf 2 = .ok (.getfield 18, 3) := by decide +kernel
theorem d_T_layerOf_5 : decode c_T_layerOf 5 = .ok (.iload_n 1, 1) := by decide +kernel
theorem d_T_layerOf_6 : decode c_T_layerOf 6 = .ok (.laload, 1) := by decide +kernel
theorem d_T_layerOf_7 : decode c_T_layerOf 7 = .ok (.lsub, 1) := by decide +kernel
theorem d_T_layerOf_8 : decode c_T_layerOf 8 = .ok (.lconst 0, 1) := by decide +kernel
theorem d_T_layerOf_9 : decode c_T_layerOf 9 = .ok (.invokestatic 40, 3) := by decide +kernel
theorem d_T_layerOf_12 : decode c_T_layerOf 12 = .ok (.aload_n 0, 1) := by decide +kernel
theorem d_T_layerOf_13 : decode c_T_layerOf 13 = .ok (.getfield 22, 3) := by decide +kernel
theorem d_T_layerOf_16 : decode c_T_layerOf 16 = .ok (.iload_n 1, 1) := by decide +kernel
theorem d_T_layerOf_17 : decode c_T_layerOf 17 = .ok (.laload, 1) := by decide +kernel
theorem d_T_layerOf_18 : decode c_T_layerOf 18 = .ok (.invokestatic 46, 3) := by decide +kernel
theorem d_T_layerOf_21 : decode c_T_layerOf 21 = .ok (.lreturn, 1) := by decide +kernel
theorem d_T_partOfRisk_0 : decode c_T_partOfRisk 0 = .ok (.lload_n 2, 1) := by decide +kernel
theorem d_T_partOfRisk_1 : decode c_T_partOfRisk 1 = .ok (.lconst 0, 1) := by decide +kernel
theorem d_T_partOfRisk_2 : decode c_T_partOfRisk 2 = .ok (.lcmp, 1) := by decide +kernel
theorem d_T_partOfRisk_3 : decode c_T_partOfRisk 3 = .ok (.ifCond .gt 5, 3) := by decide +kernel
theorem d_T_partOfRisk_6 : decode c_T_partOfRisk 6 = .ok (.lconst 0, 1) := by decide +kernel
theorem d_T_partOfRisk_7 : decode c_T_partOfRisk 7 = .ok (.lreturn, 1) := by decide +kernel
theorem d_T_partOfRisk_8 : decode c_T_partOfRisk 8 = .ok (.aload_n 0, 1) := by decide +kernel
theorem d_T_partOfRisk_9 : decode c_T_partOfRisk 9 = .ok (.getfield 9, 3) := by decide +kernel
theorem d_T_partOfRisk_12 : decode c_T_partOfRisk 12 = .ok (.iload_n 1, 1) := by decide +kernel
theorem d_T_partOfRisk_13 : decode c_T_partOfRisk 13 = .ok (.iaload, 1) := by decide +kernel
theorem d_T_partOfRisk_14 : decode c_T_partOfRisk 14 = .ok (.ifCond .ne 39, 3) := by decide +kernel
theorem d_T_partOfRisk_17 : decode c_T_partOfRisk 17 = .ok (.lload_n 2, 1) := by decide +kernel
theorem d_T_partOfRisk_18 : decode c_T_partOfRisk 18 = .ok (.aload_n 0, 1) := by decide +kernel
theorem d_T_partOfRisk_19 : decode c_T_partOfRisk 19 = .ok (.getfield 22, 3) := by decide +kernel
theorem d_T_partOfRisk_22 : decode c_T_partOfRisk 22 = .ok (.iload_n 1, 1) := by decide +kernel
theorem d_T_partOfRisk_23 : decode c_T_partOfRisk 23 = .ok (.laload, 1) := by decide +kernel
theorem d_T_partOfRisk_24 : decode c_T_partOfRisk 24 = .ok (.lcmp, 1) := by decide +kernel
theorem d_T_partOfRisk_25 : decode c_T_partOfRisk 25 = .ok (.ifCond .gt 12, 3) := by decide +kernel
theorem d_T_partOfRisk_28 : decode c_T_partOfRisk 28 = .ok (.aload_n 0, 1) := by decide +kernel
theorem d_T_partOfRisk_29 : decode c_T_partOfRisk 29 = .ok (.getfield 18, 3) := by decide +kernel
theorem d_T_partOfRisk_32 : decode c_T_partOfRisk 32 = .ok (.iload_n 1, 1) := by decide +kernel
theorem d_T_partOfRisk_33 : decode c_T_partOfRisk 33 = .ok (.laload, 1) := by decide +kernel
theorem d_T_partOfRisk_34 : decode c_T_partOfRisk 34 = .ok (.goto 18, 3) := by decide +kernel
theorem d_T_partOfRisk_37 : decode c_T_partOfRisk 37 = .ok (.aload_n 0, 1) := by decide +kernel
theorem d_T_partOfRisk_38 : decode c_T_partOfRisk 38 = .ok (.getfield 18, 3) := by decide +kernel
theorem d_T_partOfRisk_41 : decode c_T_partOfRisk 41 = .ok (.iload_n 1, 1) := by decide +kernel
theorem d_T_partOfRisk_42 : decode c_T_partOfRisk 42 = .ok (.laload, 1) := by decide +kernel
theorem d_T_partOfRisk_43 : decode c_T_partOfRisk 43 = .ok (.aload_n 0, 1) := by decide +kernel
theorem d_T_partOfRisk_44 : decode c_T_partOfRisk 44 = .ok (.getfield 22, 3) := by decide +kernel
theorem d_T_partOfRisk_47 : decode c_T_partOfRisk 47 = .ok (.iload_n 1, 1) := by decide +kernel
theorem d_T_partOfRisk_48 : decode c_T_partOfRisk 48 = .ok (.laload, 1) := by decide +kernel
theorem d_T_partOfRisk_49 : decode c_T_partOfRisk 49 = .ok (.lmul, 1) := by decide +kernel
theorem d_T_partOfRisk_50 : decode c_T_partOfRisk 50 = .ok (.lload_n 2, 1) := by decide +kernel
theorem d_T_partOfRisk_51 : decode c_T_partOfRisk 51 = .ok (.ldiv, 1) := by decide +kernel
theorem d_T_partOfRisk_52 : decode c_T_partOfRisk 52 = .ok (.lreturn, 1) := by decide +kernel
theorem d_T_partOfRisk_53 : decode c_T_partOfRisk 53 = .ok (.lload_n 2, 1) := by decide +kernel
theorem d_T_partOfRisk_54 : decode c_T_partOfRisk 54 = .ok (.aload_n 0, 1) := by decide +kernel
theorem d_T_partOfRisk_55 : decode c_T_partOfRisk 55 = .ok (.getfield 18, 3) := by decide +kernel
theorem d_T_partOfRisk_58 : decode c_T_partOfRisk 58 = .ok (.iload_n 1, 1) := by decide +kernel
theorem d_T_partOfRisk_59 : decode c_T_partOfRisk 59 = .ok (.laload, 1) := by decide +kernel
theorem d_T_partOfRisk_60 : decode c_T_partOfRisk 60 = .ok (.lsub, 1) := by decide +kernel
theorem d_T_partOfRisk_61 : decode c_T_partOfRisk 61 = .ok (.lconst 0, 1) := by decide +kernel
theorem d_T_partOfRisk_62 : decode c_T_partOfRisk 62 = .ok (.invokestatic 40, 3) := by decide +kernel
theorem d_T_partOfRisk_65 : decode c_T_partOfRisk 65 = .ok (.lstore 4, 2) := by decide +kernel
theorem d_T_partOfRisk_67 : decode c_T_partOfRisk 67 = .ok (.ldc2_w 38, 3) := by decide +kernel
theorem d_T_partOfRisk_70 : decode c_T_partOfRisk 70 = .ok (.lload 4, 2) := by decide +kernel
theorem d_T_partOfRisk_72 : decode c_T_partOfRisk 72 = .ok (.aload_n 0, 1) := by decide +kernel
theorem d_T_partOfRisk_73 : decode c_T_partOfRisk 73 = .ok (.getfield 18, 3) := by decide +kernel
theorem d_T_partOfRisk_76 : decode c_T_partOfRisk 76 = .ok (.iload_n 1, 1) := by decide +kernel
theorem d_T_partOfRisk_77 : decode c_T_partOfRisk 77 = .ok (.laload, 1) := by decide +kernel
theorem d_T_partOfRisk_78 : decode c_T_partOfRisk 78 = .ok (.aload_n 0, 1) := by decide +kernel
theorem d_T_partOfRisk_79 : decode c_T_partOfRisk 79 = .ok (.getfield 22, 3) := by decide +kernel
theorem d_T_partOfRisk_82 : decode c_T_partOfRisk 82 = .ok (.iload_n 1, 1) := by decide +kernel
theorem d_T_partOfRisk_83 : decode c_T_partOfRisk 83 = .ok (.laload, 1) := by decide +kernel
theorem d_T_partOfRisk_84 : decode c_T_partOfRisk 84 = .ok (.lmul, 1) := by decide +kernel
theorem d_T_partOfRisk_85 : decode c_T_partOfRisk 85 = .ok (.invokestatic 46, 3) := by decide +kernel
theorem d_T_partOfRisk_88 : decode c_T_partOfRisk 88 = .ok (.lmul, 1) := by decide +kernel
theorem d_T_partOfRisk_89 : decode c_T_partOfRisk 89 = .ok (.lload_n 2, 1) := by decide +kernel
theorem d_T_partOfRisk_90 : decode c_T_partOfRisk 90 = .ok (.ldiv, 1) := by decide +kernel
theorem d_T_partOfRisk_91 : decode c_T_partOfRisk 91 = .ok (.lreturn, 1) := by decide +kernel
theorem d_T_takenOfLayers_0 : decode c_T_takenOfLayers 0 = .ok (.lload_n 2, 1) := by decide +kernel
theorem d_T_takenOfLayers_1 : decode c_T_takenOfLayers 1 = .ok (.aload_n 0, 1) := by decide +kernel
theorem d_T_takenOfLayers_2 : decode c_T_takenOfLayers 2 = .ok (.getfield 28, 3) := by decide +kernel
theorem d_T_takenOfLayers_5 : decode c_T_takenOfLayers 5 = .ok (.iload_n 1, 1) := by decide +kernel
theorem d_T_takenOfLayers_6 : decode c_T_takenOfLayers 6 = .ok (.laload, 1) := by decide +kernel
theorem d_T_takenOfLayers_7 : decode c_T_takenOfLayers 7 = .ok (.lsub, 1) := by decide +kernel
theorem d_T_takenOfLayers_8 : decode c_T_takenOfLayers 8 = .ok (.lconst 0, 1) := by decide +kernel
theorem d_T_takenOfLayers_9 : decode c_T_takenOfLayers 9 = .ok (.invokestatic 40, 3) := by decide +kernel
theorem d_T_takenOfLayers_12 : decode c_T_takenOfLayers 12 = .ok (.aload_n 0, 1) := by decide +kernel
theorem d_T_takenOfLayers_13 : decode c_T_takenOfLayers 13 = .ok (.iload_n 1, 1) := by decide +kernel
theorem d_T_takenOfLayers_14 : decode c_T_takenOfLayers 14 = .ok (.invokevirtual 49, 3) := by decide +kernel
theorem d_T_takenOfLayers_17 : decode c_T_takenOfLayers 17 = .ok (.invokestatic 46, 3) := by decide +kernel
theorem d_T_takenOfLayers_20 : decode c_T_takenOfLayers 20 = .ok (.lreturn, 1) := by decide +kernel
