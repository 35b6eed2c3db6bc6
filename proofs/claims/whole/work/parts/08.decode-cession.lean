/-! what the bytes say -/
theorem d_S_dropOutside_0 : decode c_S_dropOutside 0 = .ok (.iconst 0, 1) := by decide +kernel
theorem d_S_dropOutside_1 : decode c_S_dropOutside 1 = .ok (.istore_n 2, 1) := by decide +kernel
theorem d_S_dropOutside_2 : decode c_S_dropOutside 2 = .ok (.iconst 0, 1) := by decide +kernel
theorem d_S_dropOutside_3 : decode c_S_dropOutside 3 = .ok (.istore_n 3, 1) := by decide +kernel
theorem d_S_dropOutside_4 : decode c_S_dropOutside 4 = .ok (.iload_n 3, 1) := by decide +kernel
theorem d_S_dropOutside_5 : decode c_S_dropOutside 5 = .ok (.aload_n 0, 1) := by decide +kernel
theorem d_S_dropOutside_6 : decode c_S_dropOutside 6 = .ok (.getfield 142, 3) := by decide +kernel
theorem d_S_dropOutside_9 : decode c_S_dropOutside 9 = .ok (.if_icmp .ge 55, 3) := by decide +kernel
theorem d_S_dropOutside_12 : decode c_S_dropOutside 12 = .ok (.aload_n 0, 1) := by decide +kernel
theorem d_S_dropOutside_13 : decode c_S_dropOutside 13 = .ok (.getfield 15, 3) := by decide +kernel
theorem d_S_dropOutside_16 : decode c_S_dropOutside 16 = .ok (.getfield 163, 3) := by decide +kernel
theorem d_S_dropOutside_19 : decode c_S_dropOutside 19 = .ok (.aload_n 0, 1) := by decide +kernel
theorem d_S_dropOutside_20 : decode c_S_dropOutside 20 = .ok (.getfield 47, 3) := by decide +kernel
theorem d_S_dropOutside_23 : decode c_S_dropOutside 23 = .ok (.iload_n 3, 1) := by decide +kernel
theorem d_S_dropOutside_24 : decode c_S_dropOutside 24 = .ok (.iaload, 1) := by decide +kernel
theorem d_S_dropOutside_25 : decode c_S_dropOutside 25 = .ok (.iaload, 1) := by decide +kernel
theorem d_S_dropOutside_26 : decode c_S_dropOutside 26 = .ok (.istore 4, 2) := by decide +kernel
theorem d_S_dropOutside_28 : decode c_S_dropOutside 28 = .ok (.iload 4, 2) := by decide +kernel
theorem d_S_dropOutside_30 : decode c_S_dropOutside 30 = .ok (.iload_n 1, 1) := by decide +kernel
theorem d_S_dropOutside_31 : decode c_S_dropOutside 31 = .ok (.if_icmp .lt 27, 3) := by decide +kernel
theorem d_S_dropOutside_34 : decode c_S_dropOutside 34 = .ok (.iload 4, 2) := by decide +kernel
theorem d_S_dropOutside_36 : decode c_S_dropOutside 36 = .ok (.iload_n 1, 1) := by decide +kernel
theorem d_S_dropOutside_37 : decode c_S_dropOutside 37 = .ok (.bipush 72, 2) := by decide +kernel
theorem d_S_dropOutside_39 : decode c_S_dropOutside 39 = .ok (.iadd, 1) := by decide +kernel
theorem d_S_dropOutside_40 : decode c_S_dropOutside 40 = .ok (.if_icmp .ge 18, 3) := by decide +kernel
theorem d_S_dropOutside_43 : decode c_S_dropOutside 43 = .ok (.aload_n 0, 1) := by decide +kernel
theorem d_S_dropOutside_44 : decode c_S_dropOutside 44 = .ok (.getfield 47, 3) := by decide +kernel
theorem d_S_dropOutside_47 : decode c_S_dropOutside 47 = .ok (.iload_n 2, 1) := by decide +kernel
theorem d_S_dropOutside_48 : decode c_S_dropOutside 48 = .ok (.aload_n 0, 1) := by decide +kernel
theorem d_S_dropOutside_49 : decode c_S_dropOutside 49 = .ok (.getfield 47, 3) := by decide +kernel
theorem d_S_dropOutside_52 : decode c_S_dropOutside 52 = .ok (.iload_n 3, 1) := by decide +kernel
theorem d_S_dropOutside_53 : decode c_S_dropOutside 53 = .ok (.iaload, 1) := by decide +kernel
theorem d_S_dropOutside_54 : decode c_S_dropOutside 54 = .ok (.iastore, 1) := by decide +kernel
theorem d_S_dropOutside_55 : decode c_S_dropOutside 55 = .ok (.iinc 2 1, 3) := by decide +kernel
theorem d_S_dropOutside_58 : decode c_S_dropOutside 58 = .ok (.iinc 3 1, 3) := by decide +kernel
theorem d_S_dropOutside_61 : decode c_S_dropOutside 61 = .ok (.goto (-57), 3) := by decide +kernel
theorem d_S_dropOutside_64 : decode c_S_dropOutside 64 = .ok (.aload_n 0, 1) := by decide +kernel
theorem d_S_dropOutside_65 : decode c_S_dropOutside 65 = .ok (.iload_n 2, 1) := by decide +kernel
theorem d_S_dropOutside_66 : decode c_S_dropOutside 66 = .ok (.putfield 142, 3) := by decide +kernel
theorem d_S_dropOutside_69 : decode c_S_dropOutside 69 = .ok (.return_, 1) := by decide +kernel
theorem d_S_gatherEvent_0 : decode c_S_gatherEvent 0 = .ok (.aload_n 0, 1) := by decide +kernel
theorem d_S_gatherEvent_1 : decode c_S_gatherEvent 1 = .ok (.iconst 0, 1) := by decide +kernel
theorem d_S_gatherEvent_2 : decode c_S_gatherEvent 2 = .ok (.putfield 142, 3) := by decide +kernel
theorem d_S_gatherEvent_5 : decode c_S_gatherEvent 5 = .ok (.iconst 0, 1) := by decide +kernel
theorem d_S_gatherEvent_6 : decode c_S_gatherEvent 6 = .ok (.istore_n 2, 1) := by decide +kernel
theorem d_S_gatherEvent_7 : decode c_S_gatherEvent 7 = .ok (.iload_n 2, 1) := by decide +kernel
theorem d_S_gatherEvent_8 : decode c_S_gatherEvent 8 = .ok (.aload_n 0, 1) := by decide +kernel
theorem d_S_gatherEvent_9 : decode c_S_gatherEvent 9 = .ok (.getfield 15, 3) := by decide +kernel
theorem d_S_gatherEvent_12 : decode c_S_gatherEvent 12 = .ok (.getfield 69, 3) := by decide +kernel
theorem d_S_gatherEvent_15 : decode c_S_gatherEvent 15 = .ok (.if_icmp .ge 51, 3) := by decide +kernel
theorem d_S_gatherEvent_18 : decode c_S_gatherEvent 18 = .ok (.aload_n 0, 1) := by decide +kernel
theorem d_S_gatherEvent_19 : decode c_S_gatherEvent 19 = .ok (.getfield 23, 3) := by decide +kernel
theorem d_S_gatherEvent_22 : decode c_S_gatherEvent 22 = .ok (.iload_n 2, 1) := by decide +kernel
theorem d_S_gatherEvent_23 : decode c_S_gatherEvent 23 = .ok (.baload, 1) := by decide +kernel
theorem d_S_gatherEvent_24 : decode c_S_gatherEvent 24 = .ok (.ifCond .eq 36, 3) := by decide +kernel
theorem d_S_gatherEvent_27 : decode c_S_gatherEvent 27 = .ok (.aload_n 0, 1) := by decide +kernel
theorem d_S_gatherEvent_28 : decode c_S_gatherEvent 28 = .ok (.getfield 15, 3) := by decide +kernel
theorem d_S_gatherEvent_31 : decode c_S_gatherEvent 31 = .ok (.getfield 160, 3) := by decide +kernel
theorem d_S_gatherEvent_34 : decode c_S_gatherEvent 34 = .ok (.iload_n 2, 1) := by decide +kernel
theorem d_S_gatherEvent_35 : decode c_S_gatherEvent 35 = .ok (.iaload, 1) := by decide +kernel
theorem d_S_gatherEvent_36 : decode c_S_gatherEvent 36 = .ok (.iload_n 1, 1) := by decide +kernel
theorem d_S_gatherEvent_37 : decode c_S_gatherEvent 37 = .ok (.if_icmp .ne 23, 3) := by decide +kernel
theorem d_S_gatherEvent_40 : decode c_S_gatherEvent 40 = .ok (.aload_n 0, 1) := by decide +kernel
theorem d_S_gatherEvent_41 : decode c_S_gatherEvent 41 = .ok (.getfield 47, 3) := by decide +kernel
theorem d_S_gatherEvent_44 : decode c_S_gatherEvent 44 = .ok (.aload_n 0, 1) := by decide +kernel
theorem d_S_gatherEvent_45 : decode c_S_gatherEvent 45 = .ok (.getfield 142, 3) := by decide +kernel
theorem d_S_gatherEvent_48 : decode c_S_gatherEvent 48 = .ok (.iload_n 2, 1) := by decide +kernel
theorem d_S_gatherEvent_49 : decode c_S_gatherEvent 49 = .ok (.iastore, 1) := by decide +kernel
theorem d_S_gatherEvent_50 : decode c_S_gatherEvent 50 = .ok (.aload_n 0, 1) := by decide +kernel
theorem d_S_gatherEvent_51 : decode c_S_gatherEvent 51 = .ok (.dup, 1) := by decide +kernel
theorem d_S_gatherEvent_52 : decode c_S_gatherEvent 52 = .ok (.getfield 142, 3) := by decide +kernel
theorem d_S_gatherEvent_55 : decode c_S_gatherEvent 55 = .ok (.iconst 1, 1) := by decide +kernel
theorem d_S_gatherEvent_56 : decode c_S_gatherEvent 56 = .ok (.iadd, 1) := by decide +kernel
theorem d_S_gatherEvent_57 : decode c_S_gatherEvent 57 = .ok (.putfield 142, 3) := by decide +kernel
theorem d_S_gatherEvent_60 : decode c_S_gatherEvent 60 = .ok (.iinc 2 1, 3) := by decide +kernel
theorem d_S_gatherEvent_63 : decode c_S_gatherEvent 63 = .ok (.goto (-56), 3) := by decide +kernel
theorem d_S_gatherEvent_66 : decode c_S_gatherEvent 66 = .ok (.return_, 1) := by decide +kernel
theorem d_S_greatestRemainder_0 : decode c_S_greatestRemainder 0 = .ok (.iconst 0, 1) := by decide +kernel
theorem d_S_greatestRemainder_1 : decode c_S_greatestRemainder 1 = .ok (.istore_n 1, 1) := by decide +kernel
theorem d_S_greatestRemainder_2 : decode c_S_greatestRemainder 2 = .ok (.iconst 1, 1) := by decide +kernel
theorem d_S_greatestRemainder_3 : decode c_S_greatestRemainder 3 = .ok (.istore_n 2, 1) := by decide +kernel
theorem d_S_greatestRemainder_4 : decode c_S_greatestRemainder 4 = .ok (.iload_n 2, 1) := by decide +kernel
theorem d_S_greatestRemainder_5 : decode c_S_greatestRemainder 5 = .ok (.aload_n 0, 1) := by decide +kernel
theorem d_S_greatestRemainder_6 : decode c_S_greatestRemainder 6 = .ok (.getfield 142, 3) := by decide +kernel
theorem d_S_greatestRemainder_9 : decode c_S_greatestRemainder 9 = .ok (.if_icmp .ge 27, 3) := by decide +kernel
theorem d_S_greatestRemainder_12 : decode c_S_greatestRemainder 12 = .ok (.aload_n 0, 1) := by decide +kernel
theorem d_S_greatestRemainder_13 : decode c_S_greatestRemainder 13 = .ok (.getfield 50, 3) := by decide +kernel
theorem d_S_greatestRemainder_16 : decode c_S_greatestRemainder 16 = .ok (.iload_n 2, 1) := by decide +kernel
theorem d_S_greatestRemainder_17 : decode c_S_greatestRemainder 17 = .ok (.laload, 1) := by decide +kernel
theorem d_S_greatestRemainder_18 : decode c_S_greatestRemainder 18 = .ok (.aload_n 0, 1) := by decide +kernel
theorem d_S_greatestRemainder_19 : decode c_S_greatestRemainder 19 = .ok (.getfield 50, 3) := by decide +kernel
theorem d_S_greatestRemainder_22 : decode c_S_greatestRemainder 22 = .ok (.iload_n 1, 1) := by decide +kernel
theorem d_S_greatestRemainder_23 : decode c_S_greatestRemainder 23 = .ok (.laload, 1) := by decide +kernel
theorem d_S_greatestRemainder_24 : decode c_S_greatestRemainder 24 = .ok (.lcmp, 1) := by decide +kernel
theorem d_S_greatestRemainder_25 : decode c_S_greatestRemainder 25 = .ok (.ifCond .le 5, 3) := by decide +kernel
theorem d_S_greatestRemainder_28 : decode c_S_greatestRemainder 28 = .ok (.iload_n 2, 1) := by decide +kernel
theorem d_S_greatestRemainder_29 : decode c_S_greatestRemainder 29 = .ok (.istore_n 1, 1) := by decide +kernel
theorem d_S_greatestRemainder_30 : decode c_S_greatestRemainder 30 = .ok (.iinc 2 1, 3) := by decide +kernel
theorem d_S_greatestRemainder_33 : decode c_S_greatestRemainder 33 = .ok (.goto (-29), 3) := by decide +kernel
theorem d_S_greatestRemainder_36 : decode c_S_greatestRemainder 36 = .ok (.iload_n 1, 1) := by decide +kernel
theorem d_S_greatestRemainder_37 : decode c_S_greatestRemainder 37 = .ok (.ireturn, 1) := by decide +kernel
theorem d_S_keptFrom_0 : decode c_S_keptFrom 0 = .ok (.lconst 0, 1) := by decide +kernel
theorem d_S_keptFrom_1 : decode c_S_keptFrom 1 = .ok (.lstore_n 2, 1) := by decide +kernel
theorem d_S_keptFrom_2 : decode c_S_keptFrom 2 = .ok (.iconst 0, 1) := by decide +kernel
theorem d_S_keptFrom_3 : decode c_S_keptFrom 3 = .ok (.istore 4, 2) := by decide +kernel
theorem d_S_keptFrom_5 : decode c_S_keptFrom 5 = .ok (.iload 4, 2) := by decide +kernel
theorem d_S_keptFrom_7 : decode c_S_keptFrom 7 = .ok (.aload_n 0, 1) := by decide +kernel
theorem d_S_keptFrom_8 : decode c_S_keptFrom 8 = .ok (.getfield 142, 3) := by decide +kernel
theorem d_S_keptFrom_11 : decode c_S_keptFrom 11 = .ok (.if_icmp .ge 57, 3) := by decide +kernel
theorem d_S_keptFrom_14 : decode c_S_keptFrom 14 = .ok (.aload_n 0, 1) := by decide +kernel
theorem d_S_keptFrom_15 : decode c_S_keptFrom 15 = .ok (.getfield 15, 3) := by decide +kernel
theorem d_S_keptFrom_18 : decode c_S_keptFrom 18 = .ok (.getfield 163, 3) := by decide +kernel
theorem d_S_keptFrom_21 : decode c_S_keptFrom 21 = .ok (.aload_n 0, 1) := by decide +kernel
theorem d_S_keptFrom_22 : decode c_S_keptFrom 22 = .ok (.getfield 47, 3) := by decide +kernel
theorem d_S_keptFrom_25 : decode c_S_keptFrom 25 = .ok (.iload 4, 2) := by decide +kernel
theorem d_S_keptFrom_27 : decode c_S_keptFrom 27 = .ok (.iaload, 1) := by decide +kernel
theorem d_S_keptFrom_28 : decode c_S_keptFrom 28 = .ok (.iaload, 1) := by decide +kernel
theorem d_S_keptFrom_29 : decode c_S_keptFrom 29 = .ok (.istore 5, 2) := by decide +kernel
theorem d_S_keptFrom_31 : decode c_S_keptFrom 31 = .ok (.iload 5, 2) := by decide +kernel
theorem d_S_keptFrom_33 : decode c_S_keptFrom 33 = .ok (.iload_n 1, 1) := by decide +kernel
theorem d_S_keptFrom_34 : decode c_S_keptFrom 34 = .ok (.if_icmp .lt 28, 3) := by decide +kernel
theorem d_S_keptFrom_37 : decode c_S_keptFrom 37 = .ok (.iload 5, 2) := by decide +kernel
theorem d_S_keptFrom_39 : decode c_S_keptFrom 39 = .ok (.iload_n 1, 1) := by decide +kernel
theorem d_S_keptFrom_40 : decode c_S_keptFrom 40 = .ok (.bipush 72, 2) := by decide +kernel
theorem d_S_keptFrom_42 : decode c_S_keptFrom 42 = .ok (.iadd, 1) := by decide +kernel
theorem d_S_keptFrom_43 : decode c_S_keptFrom 43 = .ok (.if_icmp .ge 19, 3) := by decide +kernel
theorem d_S_keptFrom_46 : decode c_S_keptFrom 46 = .ok (.lload_n 2, 1) := by decide +kernel
theorem d_S_keptFrom_47 : decode c_S_keptFrom 47 = .ok (.aload_n 0, 1) := by decide +kernel
theorem d_S_keptFrom_48 : decode c_S_keptFrom 48 = .ok (.getfield 27, 3) := by decide +kernel
theorem d_S_keptFrom_51 : decode c_S_keptFrom 51 = .ok (.aload_n 0, 1) := by decide +kernel
theorem d_S_keptFrom_52 : decode c_S_keptFrom 52 = .ok (.getfield 47, 3) := by decide +kernel
theorem d_S_keptFrom_55 : decode c_S_keptFrom 55 = .ok (.iload 4, 2) := by decide +kernel
theorem d_S_keptFrom_57 : decode c_S_keptFrom 57 = .ok (.iaload, 1) := by decide +kernel
theorem d_S_keptFrom_58 : decode c_S_keptFrom 58 = .ok (.iaload, 1) := by decide +kernel
theorem d_S_keptFrom_59 : decode c_S_keptFrom 59 = .ok (.i2l, 1) := by decide +kernel
theorem d_S_keptFrom_60 : decode c_S_keptFrom 60 = .ok (.ladd, 1) := by decide +kernel
theorem d_S_keptFrom_61 : decode c_S_keptFrom 61 = .ok (.lstore_n 2, 1) := by decide +kernel
theorem d_S_keptFrom_62 : decode c_S_keptFrom 62 = .ok (.iinc 4 1, 3) := by decide +kernel
theorem d_S_keptFrom_65 : decode c_S_keptFrom 65 = .ok (.goto (-60), 3) := by decide +kernel
theorem d_S_keptFrom_68 : decode c_S_keptFrom 68 = .ok (.lload_n 2, 1) := by decide +kernel
theorem d_S_keptFrom_69 : decode c_S_keptFrom 69 = .ok (.lreturn, 1) := by decide +kernel
theorem d_S_take_0 : decode c_S_take 0 = .ok (.aload_n 0, 1) := by decide +kernel
theorem d_S_take_1 : decode c_S_take 1 = .ok (.getfield 27, 3) := by decide +kernel
theorem d_S_take_4 : decode c_S_take 4 = .ok (.iload_n 2, 1) := by decide +kernel
theorem d_S_take_5 : decode c_S_take 5 = .ok (.dup2, 1) := by decide +kernel
theorem d_S_take_6 : decode c_S_take 6 = .ok (.iaload, 1) := by decide +kernel
theorem d_S_take_7 : decode c_S_take 7 = .ok (.lload_n 3, 1) := by decide +kernel
theorem d_S_take_8 : decode c_S_take 8 = .ok (.l2i, 1) := by decide +kernel
theorem d_S_take_9 : decode c_S_take 9 = .ok (.isub, 1) := by decide +kernel
theorem d_S_take_10 : decode c_S_take 10 = .ok (.iastore, 1) := by decide +kernel
theorem d_S_take_11 : decode c_S_take 11 = .ok (.aload_n 0, 1) := by decide +kernel
theorem d_S_take_12 : decode c_S_take 12 = .ok (.getfield 31, 3) := by decide +kernel
theorem d_S_take_15 : decode c_S_take 15 = .ok (.iload_n 1, 1) := by decide +kernel
theorem d_S_take_16 : decode c_S_take 16 = .ok (.bipush 40, 2) := by decide +kernel
theorem d_S_take_18 : decode c_S_take 18 = .ok (.imul, 1) := by decide +kernel
theorem d_S_take_19 : decode c_S_take 19 = .ok (.iload_n 2, 1) := by decide +kernel
theorem d_S_take_20 : decode c_S_take 20 = .ok (.iadd, 1) := by decide +kernel
theorem d_S_take_21 : decode c_S_take 21 = .ok (.dup2, 1) := by decide +kernel
theorem d_S_take_22 : decode c_S_take 22 = .ok (.iaload, 1) := by decide +kernel
theorem d_S_take_23 : decode c_S_take 23 = .ok (.lload_n 3, 1) := by decide +kernel
theorem d_S_take_24 : decode c_S_take 24 = .ok (.l2i, 1) := by decide +kernel
theorem d_S_take_25 : decode c_S_take 25 = .ok (.iadd, 1) := by decide +kernel
theorem d_S_take_26 : decode c_S_take 26 = .ok (.iastore, 1) := by decide +kernel
theorem d_S_take_27 : decode c_S_take 27 = .ok (.aload_n 0, 1) := by decide +kernel
theorem d_S_take_28 : decode c_S_take 28 = .ok (.getfield 34, 3) := by decide +kernel
theorem d_S_take_31 : decode c_S_take 31 = .ok (.iload_n 1, 1) := by decide +kernel
theorem d_S_take_32 : decode c_S_take 32 = .ok (.dup2, 1) := by decide +kernel
theorem d_S_take_33 : decode c_S_take 33 = .ok (.laload, 1) := by decide +kernel
theorem d_S_take_34 : decode c_S_take 34 = .ok (.lload_n 3, 1) := by decide +kernel
theorem d_S_take_35 : decode c_S_take 35 = .ok (.ladd, 1) := by decide +kernel
theorem d_S_take_36 : decode c_S_take 36 = .ok (.lastore, 1) := by decide +kernel
theorem d_S_take_37 : decode c_S_take 37 = .ok (.return_, 1) := by decide +kernel
theorem d_S_begin_0 : decode c_S_begin 0 = .ok (.aload_n 0, 1) := by decide +kernel
theorem d_S_begin_1 : decode c_S_begin 1 = .ok (.getfield 31, 3) := by decide +kernel
theorem d_S_begin_4 : decode c_S_begin 4 = .ok (.iconst 0, 1) := by decide +kernel
theorem d_S_begin_5 : decode c_S_begin 5 = .ok (.invokestatic 60, 3) := by decide +kernel
theorem d_S_begin_8 : decode c_S_begin 8 = .ok (.aload_n 0, 1) := by decide +kernel
theorem d_S_begin_9 : decode c_S_begin 9 = .ok (.getfield 34, 3) := by decide +kernel
theorem d_S_begin_12 : decode c_S_begin 12 = .ok (.lconst 0, 1) := by decide +kernel
theorem d_S_begin_13 : decode c_S_begin 13 = .ok (.invokestatic 66, 3) := by decide +kernel
theorem d_S_begin_16 : decode c_S_begin 16 = .ok (.aload_n 0, 1) := by decide +kernel
theorem d_S_begin_17 : decode c_S_begin 17 = .ok (.getfield 44, 3) := by decide +kernel
theorem d_S_begin_20 : decode c_S_begin 20 = .ok (.lconst 0, 1) := by decide +kernel
theorem d_S_begin_21 : decode c_S_begin 21 = .ok (.invokestatic 66, 3) := by decide +kernel
theorem d_S_begin_24 : decode c_S_begin 24 = .ok (.aload_n 0, 1) := by decide +kernel
theorem d_S_begin_25 : decode c_S_begin 25 = .ok (.getfield 38, 3) := by decide +kernel
theorem d_S_begin_28 : decode c_S_begin 28 = .ok (.iconst (-1), 1) := by decide +kernel
theorem d_S_begin_29 : decode c_S_begin 29 = .ok (.invokestatic 60, 3) := by decide +kernel
theorem d_S_begin_32 : decode c_S_begin 32 = .ok (.iconst 0, 1) := by decide +kernel
theorem d_S_begin_33 : decode c_S_begin 33 = .ok (.istore_n 2, 1) := by decide +kernel
theorem d_S_begin_34 : decode c_S_begin 34 = .ok (.iload_n 2, 1) := by decide +kernel
theorem d_S_begin_35 : decode c_S_begin 35 = .ok (.aload_n 0, 1) := by decide +kernel
theorem d_S_begin_36 : decode c_S_begin 36 = .ok (.getfield 15, 3) := by decide +kernel
theorem d_S_begin_39 : decode c_S_begin 39 = .ok (.getfield 69, 3) := by decide +kernel
theorem d_S_begin_42 : decode c_S_begin 42 = .ok (.if_icmp .ge 81, 3) := by decide +kernel
theorem d_S_begin_45 : decode c_S_begin 45 = .ok (.aload_n 0, 1) := by decide +kernel
theorem d_S_begin_46 : decode c_S_begin 46 = .ok (.getfield 23, 3) := by decide +kernel
theorem d_S_begin_49 : decode c_S_begin 49 = .ok (.iload_n 2, 1) := by decide +kernel
theorem d_S_begin_50 : decode c_S_begin 50 = .ok (.aload_n 0, 1) := by decide +kernel
theorem d_S_begin_51 : decode c_S_begin 51 = .ok (.getfield 15, 3) := by decide +kernel
theorem d_S_begin_54 : decode c_S_begin 54 = .ok (.getfield 75, 3) := by decide +kernel
theorem d_S_begin_57 : decode c_S_begin 57 = .ok (.iload_n 2, 1) := by decide +kernel
theorem d_S_begin_58 : decode c_S_begin 58 = .ok (.baload, 1) := by decide +kernel
theorem d_S_begin_59 : decode c_S_begin 59 = .ok (.ifCond .ne 28, 3) := by decide +kernel
theorem d_S_begin_62 : decode c_S_begin 62 = .ok (.aload_n 0, 1) := by decide +kernel
theorem d_S_begin_63 : decode c_S_begin 63 = .ok (.getfield 9, 3) := by decide +kernel
theorem d_S_begin_66 : decode c_S_begin 66 = .ok (.getfield 78, 3) := by decide +kernel
theorem d_S_begin_69 : decode c_S_begin 69 = .ok (.aload_n 0, 1) := by decide +kernel
theorem d_S_begin_70 : decode c_S_begin 70 = .ok (.getfield 15, 3) := by decide +kernel
theorem d_S_begin_73 : decode c_S_begin 73 = .ok (.getfield 83, 3) := by decide +kernel
theorem d_S_begin_76 : decode c_S_begin 76 = .ok (.iload_n 2, 1) := by decide +kernel
theorem d_S_begin_77 : decode c_S_begin 77 = .ok (.iaload, 1) := by decide +kernel
theorem d_S_begin_78 : decode c_S_begin 78 = .ok (.iaload, 1) := by decide +kernel
theorem d_S_begin_79 : decode c_S_begin 79 = .ok (.iload_n 1, 1) := by decide +kernel
theorem d_S_begin_80 : decode c_S_begin 80 = .ok (.if_icmp .ne 7, 3) := by decide +kernel
theorem d_S_begin_83 : decode c_S_begin 83 = .ok (.iconst 1, 1) := by decide +kernel
theorem d_S_begin_84 : decode c_S_begin 84 = .ok (.goto 4, 3) := by decide +kernel
theorem d_S_begin_87 : decode c_S_begin 87 = .ok (.iconst 0, 1) := by decide +kernel
theorem d_S_begin_88 : decode c_S_begin 88 = .ok (.bastore, 1) := by decide +kernel
theorem d_S_begin_89 : decode c_S_begin 89 = .ok (.aload_n 0, 1) := by decide +kernel
theorem d_S_begin_90 : decode c_S_begin 90 = .ok (.getfield 27, 3) := by decide +kernel
theorem d_S_begin_93 : decode c_S_begin 93 = .ok (.iload_n 2, 1) := by decide +kernel
theorem d_S_begin_94 : decode c_S_begin 94 = .ok (.aload_n 0, 1) := by decide +kernel
theorem d_S_begin_95 : decode c_S_begin 95 = .ok (.getfield 23, 3) := by decide +kernel
theorem d_S_begin_98 : decode c_S_begin 98 = .ok (.iload_n 2, 1) := by decide +kernel
theorem d_S_begin_99 : decode c_S_begin 99 = .ok (.baload, 1) := by decide +kernel
theorem d_S_begin_100 : decode c_S_begin 100 = .ok (.ifCond .eq 15, 3) := by decide +kernel
theorem d_S_begin_103 : decode c_S_begin 103 = .ok (.aload_n 0, 1) := by decide +kernel
theorem d_S_begin_104 : decode c_S_begin 104 = .ok (.getfield 15, 3) := by decide +kernel
theorem d_S_begin_107 : decode c_S_begin 107 = .ok (.getfield 86, 3) := by decide +kernel
theorem d_S_begin_110 : decode c_S_begin 110 = .ok (.iload_n 2, 1) := by decide +kernel
theorem d_S_begin_111 : decode c_S_begin 111 = .ok (.iaload, 1) := by decide +kernel
theorem d_S_begin_112 : decode c_S_begin 112 = .ok (.goto 4, 3) := by decide +kernel
theorem d_S_begin_115 : decode c_S_begin 115 = .ok (.iconst 0, 1) := by decide +kernel
theorem d_S_begin_116 : decode c_S_begin 116 = .ok (.iastore, 1) := by decide +kernel
theorem d_S_begin_117 : decode c_S_begin 117 = .ok (.iinc 2 1, 3) := by decide +kernel
theorem d_S_begin_120 : decode c_S_begin 120 = .ok (.goto (-86), 3) := by decide +kernel
theorem d_S_begin_123 : decode c_S_begin 123 = .ok (.iconst 0, 1) := by decide +kernel
theorem d_S_begin_124 : decode c_S_begin 124 = .ok (.istore_n 2, 1) := by decide +kernel
theorem d_S_begin_125 : decode c_S_begin 125 = .ok (.iload_n 2, 1) := by decide +kernel
theorem d_S_begin_126 : decode c_S_begin 126 = .ok (.bipush 12, 2) := by decide +kernel
theorem d_S_begin_128 : decode c_S_begin 128 = .ok (.if_icmp .ge 42, 3) := by decide +kernel
theorem d_S_begin_131 : decode c_S_begin 131 = .ok (.aload_n 0, 1) := by decide +kernel
theorem d_S_begin_132 : decode c_S_begin 132 = .ok (.getfield 41, 3) := by decide +kernel
theorem d_S_begin_135 : decode c_S_begin 135 = .ok (.iload_n 2, 1) := by decide +kernel
theorem d_S_begin_136 : decode c_S_begin 136 = .ok (.aload_n 0, 1) := by decide +kernel
theorem d_S_begin_137 : decode c_S_begin 137 = .ok (.getfield 9, 3) := by decide +kernel
theorem d_S_begin_140 : decode c_S_begin 140 = .ok (.getfield 78, 3) := by decide +kernel
theorem d_S_begin_143 : decode c_S_begin 143 = .ok (.iload_n 2, 1) := by decide +kernel
theorem d_S_begin_144 : decode c_S_begin 144 = .ok (.iaload, 1) := by decide +kernel
theorem d_S_begin_145 : decode c_S_begin 145 = .ok (.iload_n 1, 1) := by decide +kernel
theorem d_S_begin_146 : decode c_S_begin 146 = .ok (.if_icmp .ne 16, 3) := by decide +kernel
theorem d_S_begin_149 : decode c_S_begin 149 = .ok (.aload_n 0, 1) := by decide +kernel
theorem d_S_begin_150 : decode c_S_begin 150 = .ok (.getfield 9, 3) := by decide +kernel
theorem d_S_begin_153 : decode c_S_begin 153 = .ok (.getfield 89, 3) := by decide +kernel
theorem d_S_begin_156 : decode c_S_begin 156 = .ok (.iload_n 2, 1) := by decide +kernel
theorem d_S_begin_157 : decode c_S_begin 157 = .ok (.iaload, 1) := by decide +kernel
theorem d_S_begin_158 : decode c_S_begin 158 = .ok (.i2l, 1) := by decide +kernel
theorem d_S_begin_159 : decode c_S_begin 159 = .ok (.goto 4, 3) := by decide +kernel
theorem d_S_begin_162 : decode c_S_begin 162 = .ok (.lconst 0, 1) := by decide +kernel
theorem d_S_begin_163 : decode c_S_begin 163 = .ok (.lastore, 1) := by decide +kernel
theorem d_S_begin_164 : decode c_S_begin 164 = .ok (.iinc 2 1, 3) := by decide +kernel
theorem d_S_begin_167 : decode c_S_begin 167 = .ok (.goto (-42), 3) := by decide +kernel
theorem d_S_begin_170 : decode c_S_begin 170 = .ok (.return_, 1) := by decide +kernel
theorem d_S_ratioOf_0 : decode c_S_ratioOf 0 = .ok (.aload_n 0, 1) := by decide +kernel
theorem d_S_ratioOf_1 : decode c_S_ratioOf 1 = .ok (.getfield 44, 3) := by decide +kernel
theorem d_S_ratioOf_4 : decode c_S_ratioOf 4 = .ok (.iload_n 1, 1) := by decide +kernel
theorem d_S_ratioOf_5 : decode c_S_ratioOf 5 = .ok (.laload, 1) := by decide +kernel
theorem d_S_ratioOf_6 : decode c_S_ratioOf 6 = .ok (.lconst 0, 1) := by decide +kernel
theorem d_S_ratioOf_7 : decode c_S_ratioOf 7 = .ok (.lcmp, 1) := by decide +kernel
theorem d_S_ratioOf_8 : decode c_S_ratioOf 8 = .ok (.ifCond .gt 5, 3) := by decide +kernel
theorem d_S_ratioOf_11 : decode c_S_ratioOf 11 = .ok (.lconst 0, 1) := by decide +kernel
theorem d_S_ratioOf_12 : decode c_S_ratioOf 12 = .ok (.lreturn, 1) := by decide +kernel
theorem d_S_ratioOf_13 : decode c_S_ratioOf 13 = .ok (.aload_n 0, 1) := by decide +kernel
theorem d_S_ratioOf_14 : decode c_S_ratioOf 14 = .ok (.getfield 34, 3) := by decide +kernel
theorem d_S_ratioOf_17 : decode c_S_ratioOf 17 = .ok (.iload_n 1, 1) := by decide +kernel
theorem d_S_ratioOf_18 : decode c_S_ratioOf 18 = .ok (.laload, 1) := by decide +kernel
theorem d_S_ratioOf_19 : decode c_S_ratioOf 19 = .ok (.ldc2_w 124, 3) := by decide +kernel
theorem d_S_ratioOf_22 : decode c_S_ratioOf 22 = .ok (.lmul, 1) := by decide +kernel
theorem d_S_ratioOf_23 : decode c_S_ratioOf 23 = .ok (.aload_n 0, 1) := by decide +kernel
theorem d_S_ratioOf_24 : decode c_S_ratioOf 24 = .ok (.getfield 44, 3) := by decide +kernel
theorem d_S_ratioOf_27 : decode c_S_ratioOf 27 = .ok (.iload_n 1, 1) := by decide +kernel
theorem d_S_ratioOf_28 : decode c_S_ratioOf 28 = .ok (.laload, 1) := by decide +kernel
theorem d_S_ratioOf_29 : decode c_S_ratioOf 29 = .ok (.ldiv, 1) := by decide +kernel
theorem d_S_ratioOf_30 : decode c_S_ratioOf 30 = .ok (.ldc2_w 171, 3) := by decide +kernel
theorem d_S_ratioOf_33 : decode c_S_ratioOf 33 = .ok (.invokestatic 173, 3) := by decide +kernel
theorem d_S_ratioOf_36 : decode c_S_ratioOf 36 = .ok (.lreturn, 1) := by decide +kernel
theorem d_S_reinstatementOf_0 : decode c_S_reinstatementOf 0 = .ok (.aload_n 0, 1) := by decide +kernel
theorem d_S_reinstatementOf_1 : decode c_S_reinstatementOf 1 = .ok (.getfield 19, 3) := by decide +kernel
theorem d_S_reinstatementOf_4 : decode c_S_reinstatementOf 4 = .ok (.getfield 191, 3) := by decide +kernel
theorem d_S_reinstatementOf_7 : decode c_S_reinstatementOf 7 = .ok (.iload_n 1, 1) := by decide +kernel
theorem d_S_reinstatementOf_8 : decode c_S_reinstatementOf 8 = .ok (.laload, 1) := by decide +kernel
theorem d_S_reinstatementOf_9 : decode c_S_reinstatementOf 9 = .ok (.lstore_n 2, 1) := by decide +kernel
theorem d_S_reinstatementOf_10 : decode c_S_reinstatementOf 10 = .ok (.aload_n 0, 1) := by decide +kernel
theorem d_S_reinstatementOf_11 : decode c_S_reinstatementOf 11 = .ok (.getfield 19, 3) := by decide +kernel
theorem d_S_reinstatementOf_14 : decode c_S_reinstatementOf 14 = .ok (.iload_n 1, 1) := by decide +kernel
theorem d_S_reinstatementOf_15 : decode c_S_reinstatementOf 15 = .ok (.invokevirtual 194, 3) := by decide +kernel
theorem d_S_reinstatementOf_18 : decode c_S_reinstatementOf 18 = .ok (.ifCond .eq 9, 3) := by decide +kernel
theorem d_S_reinstatementOf_21 : decode c_S_reinstatementOf 21 = .ok (.lload_n 2, 1) := by decide +kernel
theorem d_S_reinstatementOf_22 : decode c_S_reinstatementOf 22 = .ok (.lconst 0, 1) := by decide +kernel
theorem d_S_reinstatementOf_23 : decode c_S_reinstatementOf 23 = .ok (.lcmp, 1) := by decide +kernel
theorem d_S_reinstatementOf_24 : decode c_S_reinstatementOf 24 = .ok (.ifCond .gt 5, 3) := by decide +kernel
theorem d_S_reinstatementOf_27 : decode c_S_reinstatementOf 27 = .ok (.lconst 0, 1) := by decide +kernel
theorem d_S_reinstatementOf_28 : decode c_S_reinstatementOf 28 = .ok (.lreturn, 1) := by decide +kernel
theorem d_S_reinstatementOf_29 : decode c_S_reinstatementOf 29 = .ok (.lload_n 2, 1) := by decide +kernel
theorem d_S_reinstatementOf_30 : decode c_S_reinstatementOf 30 = .ok (.ldc2_w 189, 3) := by decide +kernel
theorem d_S_reinstatementOf_33 : decode c_S_reinstatementOf 33 = .ok (.lmul, 1) := by decide +kernel
theorem d_S_reinstatementOf_34 : decode c_S_reinstatementOf 34 = .ok (.ldc2_w 124, 3) := by decide +kernel
theorem d_S_reinstatementOf_37 : decode c_S_reinstatementOf 37 = .ok (.ldiv, 1) := by decide +kernel
theorem d_S_reinstatementOf_38 : decode c_S_reinstatementOf 38 = .ok (.lstore 4, 2) := by decide +kernel
theorem d_S_reinstatementOf_40 : decode c_S_reinstatementOf 40 = .ok (.lload 4, 2) := by decide +kernel
theorem d_S_reinstatementOf_42 : decode c_S_reinstatementOf 42 = .ok (.aload_n 0, 1) := by decide +kernel
theorem d_S_reinstatementOf_43 : decode c_S_reinstatementOf 43 = .ok (.getfield 34, 3) := by decide +kernel
theorem d_S_reinstatementOf_46 : decode c_S_reinstatementOf 46 = .ok (.iload_n 1, 1) := by decide +kernel
theorem d_S_reinstatementOf_47 : decode c_S_reinstatementOf 47 = .ok (.laload, 1) := by decide +kernel
theorem d_S_reinstatementOf_48 : decode c_S_reinstatementOf 48 = .ok (.lload_n 2, 1) := by decide +kernel
theorem d_S_reinstatementOf_49 : decode c_S_reinstatementOf 49 = .ok (.aload_n 0, 1) := by decide +kernel
theorem d_S_reinstatementOf_50 : decode c_S_reinstatementOf 50 = .ok (.getfield 19, 3) := by decide +kernel
theorem d_S_reinstatementOf_53 : decode c_S_reinstatementOf 53 = .ok (.getfield 198, 3) := by decide +kernel
theorem d_S_reinstatementOf_56 : decode c_S_reinstatementOf 56 = .ok (.iload_n 1, 1) := by decide +kernel
theorem d_S_reinstatementOf_57 : decode c_S_reinstatementOf 57 = .ok (.laload, 1) := by decide +kernel
theorem d_S_reinstatementOf_58 : decode c_S_reinstatementOf 58 = .ok (.lmul, 1) := by decide +kernel
theorem d_S_reinstatementOf_59 : decode c_S_reinstatementOf 59 = .ok (.invokestatic 173, 3) := by decide +kernel
theorem d_S_reinstatementOf_62 : decode c_S_reinstatementOf 62 = .ok (.lmul, 1) := by decide +kernel
theorem d_S_reinstatementOf_63 : decode c_S_reinstatementOf 63 = .ok (.lload_n 2, 1) := by decide +kernel
theorem d_S_reinstatementOf_64 : decode c_S_reinstatementOf 64 = .ok (.ldiv, 1) := by decide +kernel
theorem d_S_reinstatementOf_65 : decode c_S_reinstatementOf 65 = .ok (.lreturn, 1) := by decide +kernel
theorem d_S_startOfWindow_0 : decode c_S_startOfWindow 0 = .ok (.iconst (-1), 1) := by decide +kernel
theorem d_S_startOfWindow_1 : decode c_S_startOfWindow 1 = .ok (.istore_n 1, 1) := by decide +kernel
theorem d_S_startOfWindow_2 : decode c_S_startOfWindow 2 = .ok (.ldc2_w 166, 3) := by decide +kernel
theorem d_S_startOfWindow_5 : decode c_S_startOfWindow 5 = .ok (.lstore_n 2, 1) := by decide +kernel
theorem d_S_startOfWindow_6 : decode c_S_startOfWindow 6 = .ok (.iconst 0, 1) := by decide +kernel
theorem d_S_startOfWindow_7 : decode c_S_startOfWindow 7 = .ok (.istore 4, 2) := by decide +kernel
theorem d_S_startOfWindow_9 : decode c_S_startOfWindow 9 = .ok (.iload 4, 2) := by decide +kernel
theorem d_S_startOfWindow_11 : decode c_S_startOfWindow 11 = .ok (.aload_n 0, 1) := by decide +kernel
theorem d_S_startOfWindow_12 : decode c_S_startOfWindow 12 = .ok (.getfield 142, 3) := by decide +kernel
theorem d_S_startOfWindow_15 : decode c_S_startOfWindow 15 = .ok (.if_icmp .ge 60, 3) := by decide +kernel
theorem d_S_startOfWindow_18 : decode c_S_startOfWindow 18 = .ok (.aload_n 0, 1) := by decide +kernel
theorem d_S_startOfWindow_19 : decode c_S_startOfWindow 19 = .ok (.getfield 15, 3) := by decide +kernel
theorem d_S_startOfWindow_22 : decode c_S_startOfWindow 22 = .ok (.getfield 163, 3) := by decide +kernel
theorem d_S_startOfWindow_25 : decode c_S_startOfWindow 25 = .ok (.aload_n 0, 1) := by decide +kernel
theorem d_S_startOfWindow_26 : decode c_S_startOfWindow 26 = .ok (.getfield 47, 3) := by decide +kernel
theorem d_S_startOfWindow_29 : decode c_S_startOfWindow 29 = .ok (.iload 4, 2) := by decide +kernel
theorem d_S_startOfWindow_31 : decode c_S_startOfWindow 31 = .ok (.iaload, 1) := by decide +kernel
theorem d_S_startOfWindow_32 : decode c_S_startOfWindow 32 = .ok (.iaload, 1) := by decide +kernel
theorem d_S_startOfWindow_33 : decode c_S_startOfWindow 33 = .ok (.istore 5, 2) := by decide +kernel
theorem d_S_startOfWindow_35 : decode c_S_startOfWindow 35 = .ok (.aload_n 0, 1) := by decide +kernel
theorem d_S_startOfWindow_36 : decode c_S_startOfWindow 36 = .ok (.iload 5, 2) := by decide +kernel
theorem d_S_startOfWindow_38 : decode c_S_startOfWindow 38 = .ok (.invokevirtual 152, 3) := by decide +kernel
theorem d_S_startOfWindow_41 : decode c_S_startOfWindow 41 = .ok (.lstore 6, 2) := by decide +kernel
theorem d_S_startOfWindow_43 : decode c_S_startOfWindow 43 = .ok (.lload 6, 2) := by decide +kernel
theorem d_S_startOfWindow_45 : decode c_S_startOfWindow 45 = .ok (.lload_n 2, 1) := by decide +kernel
theorem d_S_startOfWindow_46 : decode c_S_startOfWindow 46 = .ok (.lcmp, 1) := by decide +kernel
theorem d_S_startOfWindow_47 : decode c_S_startOfWindow 47 = .ok (.ifCond .gt 16, 3) := by decide +kernel
theorem d_S_startOfWindow_50 : decode c_S_startOfWindow 50 = .ok (.lload 6, 2) := by decide +kernel
theorem d_S_startOfWindow_52 : decode c_S_startOfWindow 52 = .ok (.lload_n 2, 1) := by decide +kernel
theorem d_S_startOfWindow_53 : decode c_S_startOfWindow 53 = .ok (.lcmp, 1) := by decide +kernel
theorem d_S_startOfWindow_54 : decode c_S_startOfWindow 54 = .ok (.ifCond .ne 15, 3) := by decide +kernel
theorem d_S_startOfWindow_57 : decode c_S_startOfWindow 57 = .ok (.iload 5, 2) := by decide +kernel
theorem d_S_startOfWindow_59 : decode c_S_startOfWindow 59 = .ok (.iload_n 1, 1) := by decide +kernel
theorem d_S_startOfWindow_60 : decode c_S_startOfWindow 60 = .ok (.if_icmp .ge 9, 3) := by decide +kernel
theorem d_S_startOfWindow_63 : decode c_S_startOfWindow 63 = .ok (.iload 5, 2) := by decide +kernel
theorem d_S_startOfWindow_65 : decode c_S_startOfWindow 65 = .ok (.istore_n 1, 1) := by decide +kernel
theorem d_S_startOfWindow_66 : decode c_S_startOfWindow 66 = .ok (.lload 6, 2) := by decide +kernel
theorem d_S_startOfWindow_68 : decode c_S_startOfWindow 68 = .ok (.lstore_n 2, 1) := by decide +kernel
theorem d_S_startOfWindow_69 : decode c_S_startOfWindow 69 = .ok (.iinc 4 1, 3) := by decide +kernel
theorem d_S_startOfWindow_72 : decode c_S_startOfWindow 72 = .ok (.goto (-63), 3) := by decide +kernel
theorem d_S_startOfWindow_75 : decode c_S_startOfWindow 75 = .ok (.iload_n 1, 1) := by decide +kernel
theorem d_S_startOfWindow_76 : decode c_S_startOfWindow 76 = .ok (.ireturn, 1) := by decide +kernel
theorem d_S_takeByParts_0 : decode c_S_takeByParts 0 = .ok (.lload 4, 2) := by decide +kernel
theorem d_S_takeByParts_2 : decode c_S_takeByParts 2 = .ok (.lconst 0, 1) := by decide +kernel
theorem d_S_takeByParts_3 : decode c_S_takeByParts 3 = .ok (.lcmp, 1) := by decide +kernel
theorem d_S_takeByParts_4 : decode c_S_takeByParts 4 = .ok (.ifCond .gt 4, 3) := by decide +kernel
theorem d_S_takeByParts_7 : decode c_S_takeByParts 7 = .ok (.return_, 1) := by decide +kernel
theorem d_S_takeByParts_8 : decode c_S_takeByParts 8 = .ok (.lload_n 2, 1) := by decide +kernel
theorem d_S_takeByParts_9 : decode c_S_takeByParts 9 = .ok (.lstore 6, 2) := by decide +kernel
theorem d_S_takeByParts_11 : decode c_S_takeByParts 11 = .ok (.iconst 0, 1) := by decide +kernel
theorem d_S_takeByParts_12 : decode c_S_takeByParts 12 = .ok (.istore 8, 2) := by decide +kernel
theorem d_S_takeByParts_14 : decode c_S_takeByParts 14 = .ok (.iload 8, 2) := by decide +kernel
theorem d_S_takeByParts_16 : decode c_S_takeByParts 16 = .ok (.aload_n 0, 1) := by decide +kernel
theorem d_S_takeByParts_17 : decode c_S_takeByParts 17 = .ok (.getfield 142, 3) := by decide +kernel
theorem d_S_takeByParts_20 : decode c_S_takeByParts 20 = .ok (.if_icmp .ge 65, 3) := by decide +kernel
theorem d_S_takeByParts_23 : decode c_S_takeByParts 23 = .ok (.aload_n 0, 1) := by decide +kernel
theorem d_S_takeByParts_24 : decode c_S_takeByParts 24 = .ok (.getfield 27, 3) := by decide +kernel
theorem d_S_takeByParts_27 : decode c_S_takeByParts 27 = .ok (.aload_n 0, 1) := by decide +kernel
theorem d_S_takeByParts_28 : decode c_S_takeByParts 28 = .ok (.getfield 47, 3) := by decide +kernel
theorem d_S_takeByParts_31 : decode c_S_takeByParts 31 = .ok (.iload 8, 2) := by decide +kernel
theorem d_S_takeByParts_33 : decode c_S_takeByParts 33 = .ok (.iaload, 1) := by decide +kernel
theorem d_S_takeByParts_34 : decode c_S_takeByParts 34 = .ok (.iaload, 1) := by decide +kernel
theorem d_S_takeByParts_35 : decode c_S_takeByParts 35 = .ok (.i2l, 1) := by decide +kernel
theorem d_S_takeByParts_36 : decode c_S_takeByParts 36 = .ok (.lload_n 2, 1) := by decide +kernel
theorem d_S_takeByParts_37 : decode c_S_takeByParts 37 = .ok (.lmul, 1) := by decide +kernel
theorem d_S_takeByParts_38 : decode c_S_takeByParts 38 = .ok (.lstore 9, 2) := by decide +kernel
theorem d_S_takeByParts_40 : decode c_S_takeByParts 40 = .ok (.aload_n 0, 1) := by decide +kernel
theorem d_S_takeByParts_41 : decode c_S_takeByParts 41 = .ok (.getfield 50, 3) := by decide +kernel
theorem d_S_takeByParts_44 : decode c_S_takeByParts 44 = .ok (.iload 8, 2) := by decide +kernel
theorem d_S_takeByParts_46 : decode c_S_takeByParts 46 = .ok (.lload 9, 2) := by decide +kernel
theorem d_S_takeByParts_48 : decode c_S_takeByParts 48 = .ok (.lload 4, 2) := by decide +kernel
theorem d_S_takeByParts_50 : decode c_S_takeByParts 50 = .ok (.lrem, 1) := by decide +kernel
theorem d_S_takeByParts_51 : decode c_S_takeByParts 51 = .ok (.lastore, 1) := by decide +kernel
theorem d_S_takeByParts_52 : decode c_S_takeByParts 52 = .ok (.aload_n 0, 1) := by decide +kernel
theorem d_S_takeByParts_53 : decode c_S_takeByParts 53 = .ok (.iload_n 1, 1) := by decide +kernel
theorem d_S_takeByParts_54 : decode c_S_takeByParts 54 = .ok (.aload_n 0, 1) := by decide +kernel
theorem d_S_takeByParts_55 : decode c_S_takeByParts 55 = .ok (.getfield 47, 3) := by decide +kernel
theorem d_S_takeByParts_58 : decode c_S_takeByParts 58 = .ok (.iload 8, 2) := by decide +kernel
theorem d_S_takeByParts_60 : decode c_S_takeByParts 60 = .ok (.iaload, 1) := by decide +kernel
theorem d_S_takeByParts_61 : decode c_S_takeByParts 61 = .ok (.lload 9, 2) := by decide +kernel
theorem d_S_takeByParts_63 : decode c_S_takeByParts 63 = .ok (.lload 4, 2) := by decide +kernel
theorem d_S_takeByParts_65 : decode c_S_takeByParts 65 = .ok (.ldiv, 1) := by decide +kernel
theorem d_S_takeByParts_66 : decode c_S_takeByParts 66 = .ok (.invokevirtual 126, 3) := by decide +kernel
theorem d_S_takeByParts_69 : decode c_S_takeByParts 69 = .ok (.lload 6, 2) := by decide +kernel
theorem d_S_takeByParts_71 : decode c_S_takeByParts 71 = .ok (.lload 9, 2) := by decide +kernel
theorem d_S_takeByParts_73 : decode c_S_takeByParts 73 = .ok (.lload 4, 2) := by decide +kernel
theorem d_S_takeByParts_75 : decode c_S_takeByParts 75 = .ok (.ldiv, 1) := by decide +kernel
theorem d_S_takeByParts_76 : decode c_S_takeByParts 76 = .ok (.lsub, 1) := by decide +kernel
theorem d_S_takeByParts_77 : decode c_S_takeByParts 77 = .ok (.lstore 6, 2) := by decide +kernel
theorem d_S_takeByParts_79 : decode c_S_takeByParts 79 = .ok (.iinc 8 1, 3) := by decide +kernel
theorem d_S_takeByParts_82 : decode c_S_takeByParts 82 = .ok (.goto (-68), 3) := by decide +kernel
theorem d_S_takeByParts_85 : decode c_S_takeByParts 85 = .ok (.iconst 0, 1) := by decide +kernel
theorem d_S_takeByParts_86 : decode c_S_takeByParts 86 = .ok (.istore 8, 2) := by decide +kernel
theorem d_S_takeByParts_88 : decode c_S_takeByParts 88 = .ok (.iload 8, 2) := by decide +kernel
theorem d_S_takeByParts_90 : decode c_S_takeByParts 90 = .ok (.i2l, 1) := by decide +kernel
theorem d_S_takeByParts_91 : decode c_S_takeByParts 91 = .ok (.lload 6, 2) := by decide +kernel
theorem d_S_takeByParts_93 : decode c_S_takeByParts 93 = .ok (.lcmp, 1) := by decide +kernel
theorem d_S_takeByParts_94 : decode c_S_takeByParts 94 = .ok (.ifCond .ge 47, 3) := by decide +kernel
theorem d_S_takeByParts_97 : decode c_S_takeByParts 97 = .ok (.iload 8, 2) := by decide +kernel
theorem d_S_takeByParts_99 : decode c_S_takeByParts 99 = .ok (.aload_n 0, 1) := by decide +kernel
theorem d_S_takeByParts_100 : decode c_S_takeByParts 100 = .ok (.getfield 142, 3) := by decide +kernel
theorem d_S_takeByParts_103 : decode c_S_takeByParts 103 = .ok (.if_icmp .ge 38, 3) := by decide +kernel
theorem d_S_takeByParts_106 : decode c_S_takeByParts 106 = .ok (.aload_n 0, 1) := by decide +kernel
theorem d_S_takeByParts_107 : decode c_S_takeByParts 107 = .ok (.invokevirtual 168, 3) := by decide +kernel
theorem d_S_takeByParts_110 : decode c_S_takeByParts 110 = .ok (.istore 9, 2) := by decide +kernel
theorem d_S_takeByParts_112 : decode c_S_takeByParts 112 = .ok (.aload_n 0, 1) := by decide +kernel
theorem d_S_takeByParts_113 : decode c_S_takeByParts 113 = .ok (.iload_n 1, 1) := by decide +kernel
theorem d_S_takeByParts_114 : decode c_S_takeByParts 114 = .ok (.aload_n 0, 1) := by decide +kernel
theorem d_S_takeByParts_115 : decode c_S_takeByParts 115 = .ok (.getfield 47, 3) := by decide +kernel
theorem d_S_takeByParts_118 : decode c_S_takeByParts 118 = .ok (.iload 9, 2) := by decide +kernel
theorem d_S_takeByParts_120 : decode c_S_takeByParts 120 = .ok (.iaload, 1) := by decide +kernel
theorem d_S_takeByParts_121 : decode c_S_takeByParts 121 = .ok (.lconst 1, 1) := by decide +kernel
theorem d_S_takeByParts_122 : decode c_S_takeByParts 122 = .ok (.invokevirtual 126, 3) := by decide +kernel
theorem d_S_takeByParts_125 : decode c_S_takeByParts 125 = .ok (.aload_n 0, 1) := by decide +kernel
theorem d_S_takeByParts_126 : decode c_S_takeByParts 126 = .ok (.getfield 50, 3) := by decide +kernel
theorem d_S_takeByParts_129 : decode c_S_takeByParts 129 = .ok (.iload 9, 2) := by decide +kernel
theorem d_S_takeByParts_131 : decode c_S_takeByParts 131 = .ok (.ldc2_w 166, 3) := by decide +kernel
theorem d_S_takeByParts_134 : decode c_S_takeByParts 134 = .ok (.lastore, 1) := by decide +kernel
theorem d_S_takeByParts_135 : decode c_S_takeByParts 135 = .ok (.iinc 8 1, 3) := by decide +kernel
theorem d_S_takeByParts_138 : decode c_S_takeByParts 138 = .ok (.goto (-50), 3) := by decide +kernel
theorem d_S_takeByParts_141 : decode c_S_takeByParts 141 = .ok (.return_, 1) := by decide +kernel
theorem d_S_cedeExcessOfEachClaim_0 : decode c_S_cedeExcessOfEachClaim 0 = .ok (.lconst 0, 1) := by decide +kernel
theorem d_S_cedeExcessOfEachClaim_1 : decode c_S_cedeExcessOfEachClaim 1 = .ok (.lstore_n 2, 1) := by decide +kernel
theorem d_S_cedeExcessOfEachClaim_2 : decode c_S_cedeExcessOfEachClaim 2 = .ok (.iconst 0, 1) := by decide +kernel
theorem d_S_cedeExcessOfEachClaim_3 : decode c_S_cedeExcessOfEachClaim 3 = .ok (.istore 4, 2) := by decide +kernel
theorem d_S_cedeExcessOfEachClaim_5 : decode c_S_cedeExcessOfEachClaim 5 = .ok (.iload 4, 2) := by decide +kernel
theorem d_S_cedeExcessOfEachClaim_7 : decode c_S_cedeExcessOfEachClaim 7 = .ok (.aload_n 0, 1) := by decide +kernel
theorem d_S_cedeExcessOfEachClaim_8 : decode c_S_cedeExcessOfEachClaim 8 = .ok (.getfield 15, 3) := by decide +kernel
theorem d_S_cedeExcessOfEachClaim_11 : decode c_S_cedeExcessOfEachClaim 11 = .ok (.getfield 69, 3) := by decide +kernel
theorem d_S_cedeExcessOfEachClaim_14 : decode c_S_cedeExcessOfEachClaim 14 = .ok (.if_icmp .ge 73, 3) := by decide +kernel
theorem d_S_cedeExcessOfEachClaim_17 : decode c_S_cedeExcessOfEachClaim 17 = .ok (.aload_n 0, 1) := by decide +kernel
theorem d_S_cedeExcessOfEachClaim_18 : decode c_S_cedeExcessOfEachClaim 18 = .ok (.getfield 15, 3) := by decide +kernel
theorem d_S_cedeExcessOfEachClaim_21 : decode c_S_cedeExcessOfEachClaim 21 = .ok (.getfield 130, 3) := by decide +kernel
theorem d_S_cedeExcessOfEachClaim_24 : decode c_S_cedeExcessOfEachClaim 24 = .ok (.iload 4, 2) := by decide +kernel
theorem d_S_cedeExcessOfEachClaim_26 : decode c_S_cedeExcessOfEachClaim 26 = .ok (.iaload, 1) := by decide +kernel
theorem d_S_cedeExcessOfEachClaim_27 : decode c_S_cedeExcessOfEachClaim 27 = .ok (.istore 5, 2) := by decide +kernel
theorem d_S_cedeExcessOfEachClaim_29 : decode c_S_cedeExcessOfEachClaim 29 = .ok (.aload_n 0, 1) := by decide +kernel
theorem d_S_cedeExcessOfEachClaim_30 : decode c_S_cedeExcessOfEachClaim 30 = .ok (.getfield 23, 3) := by decide +kernel
theorem d_S_cedeExcessOfEachClaim_33 : decode c_S_cedeExcessOfEachClaim 33 = .ok (.iload 5, 2) := by decide +kernel
theorem d_S_cedeExcessOfEachClaim_35 : decode c_S_cedeExcessOfEachClaim 35 = .ok (.baload, 1) := by decide +kernel
theorem d_S_cedeExcessOfEachClaim_36 : decode c_S_cedeExcessOfEachClaim 36 = .ok (.ifCond .eq 45, 3) := by decide +kernel
theorem d_S_cedeExcessOfEachClaim_39 : decode c_S_cedeExcessOfEachClaim 39 = .ok (.lload_n 2, 1) := by decide +kernel
theorem d_S_cedeExcessOfEachClaim_40 : decode c_S_cedeExcessOfEachClaim 40 = .ok (.aload_n 0, 1) := by decide +kernel
theorem d_S_cedeExcessOfEachClaim_41 : decode c_S_cedeExcessOfEachClaim 41 = .ok (.getfield 19, 3) := by decide +kernel
theorem d_S_cedeExcessOfEachClaim_44 : decode c_S_cedeExcessOfEachClaim 44 = .ok (.iload_n 1, 1) := by decide +kernel
theorem d_S_cedeExcessOfEachClaim_45 : decode c_S_cedeExcessOfEachClaim 45 = .ok (.aload_n 0, 1) := by decide +kernel
theorem d_S_cedeExcessOfEachClaim_46 : decode c_S_cedeExcessOfEachClaim 46 = .ok (.getfield 27, 3) := by decide +kernel
theorem d_S_cedeExcessOfEachClaim_49 : decode c_S_cedeExcessOfEachClaim 49 = .ok (.iload 5, 2) := by decide +kernel
theorem d_S_cedeExcessOfEachClaim_51 : decode c_S_cedeExcessOfEachClaim 51 = .ok (.iaload, 1) := by decide +kernel
theorem d_S_cedeExcessOfEachClaim_52 : decode c_S_cedeExcessOfEachClaim 52 = .ok (.i2l, 1) := by decide +kernel
theorem d_S_cedeExcessOfEachClaim_53 : decode c_S_cedeExcessOfEachClaim 53 = .ok (.invokevirtual 133, 3) := by decide +kernel
theorem d_S_cedeExcessOfEachClaim_56 : decode c_S_cedeExcessOfEachClaim 56 = .ok (.ladd, 1) := by decide +kernel
theorem d_S_cedeExcessOfEachClaim_57 : decode c_S_cedeExcessOfEachClaim 57 = .ok (.lstore_n 2, 1) := by decide +kernel
theorem d_S_cedeExcessOfEachClaim_58 : decode c_S_cedeExcessOfEachClaim 58 = .ok (.aload_n 0, 1) := by decide +kernel
theorem d_S_cedeExcessOfEachClaim_59 : decode c_S_cedeExcessOfEachClaim 59 = .ok (.iload_n 1, 1) := by decide +kernel
theorem d_S_cedeExcessOfEachClaim_60 : decode c_S_cedeExcessOfEachClaim 60 = .ok (.iload 5, 2) := by decide +kernel
theorem d_S_cedeExcessOfEachClaim_62 : decode c_S_cedeExcessOfEachClaim 62 = .ok (.aload_n 0, 1) := by decide +kernel
theorem d_S_cedeExcessOfEachClaim_63 : decode c_S_cedeExcessOfEachClaim 63 = .ok (.getfield 19, 3) := by decide +kernel
theorem d_S_cedeExcessOfEachClaim_66 : decode c_S_cedeExcessOfEachClaim 66 = .ok (.iload_n 1, 1) := by decide +kernel
theorem d_S_cedeExcessOfEachClaim_67 : decode c_S_cedeExcessOfEachClaim 67 = .ok (.lload_n 2, 1) := by decide +kernel
theorem d_S_cedeExcessOfEachClaim_68 : decode c_S_cedeExcessOfEachClaim 68 = .ok (.invokevirtual 136, 3) := by decide +kernel
theorem d_S_cedeExcessOfEachClaim_71 : decode c_S_cedeExcessOfEachClaim 71 = .ok (.aload_n 0, 1) := by decide +kernel
theorem d_S_cedeExcessOfEachClaim_72 : decode c_S_cedeExcessOfEachClaim 72 = .ok (.getfield 34, 3) := by decide +kernel
theorem d_S_cedeExcessOfEachClaim_75 : decode c_S_cedeExcessOfEachClaim 75 = .ok (.iload_n 1, 1) := by decide +kernel
theorem d_S_cedeExcessOfEachClaim_76 : decode c_S_cedeExcessOfEachClaim 76 = .ok (.laload, 1) := by decide +kernel
theorem d_S_cedeExcessOfEachClaim_77 : decode c_S_cedeExcessOfEachClaim 77 = .ok (.lsub, 1) := by decide +kernel
theorem d_S_cedeExcessOfEachClaim_78 : decode c_S_cedeExcessOfEachClaim 78 = .ok (.invokevirtual 126, 3) := by decide +kernel
theorem d_S_cedeExcessOfEachClaim_81 : decode c_S_cedeExcessOfEachClaim 81 = .ok (.iinc 4 1, 3) := by decide +kernel
theorem d_S_cedeExcessOfEachClaim_84 : decode c_S_cedeExcessOfEachClaim 84 = .ok (.goto (-79), 3) := by decide +kernel
theorem d_S_cedeExcessOfEachClaim_87 : decode c_S_cedeExcessOfEachClaim 87 = .ok (.return_, 1) := by decide +kernel
theorem d_S_cedeExcessOfEachEvent_0 : decode c_S_cedeExcessOfEachEvent 0 = .ok (.lconst 0, 1) := by decide +kernel
theorem d_S_cedeExcessOfEachEvent_1 : decode c_S_cedeExcessOfEachEvent 1 = .ok (.lstore_n 2, 1) := by decide +kernel
theorem d_S_cedeExcessOfEachEvent_2 : decode c_S_cedeExcessOfEachEvent 2 = .ok (.iconst 1, 1) := by decide +kernel
theorem d_S_cedeExcessOfEachEvent_3 : decode c_S_cedeExcessOfEachEvent 3 = .ok (.istore 4, 2) := by decide +kernel
theorem d_S_cedeExcessOfEachEvent_5 : decode c_S_cedeExcessOfEachEvent 5 = .ok (.iload 4, 2) := by decide +kernel
theorem d_S_cedeExcessOfEachEvent_7 : decode c_S_cedeExcessOfEachEvent 7 = .ok (.bipush 10, 2) := by decide +kernel
theorem d_S_cedeExcessOfEachEvent_9 : decode c_S_cedeExcessOfEachEvent 9 = .ok (.if_icmp .ge 92, 3) := by decide +kernel
theorem d_S_cedeExcessOfEachEvent_12 : decode c_S_cedeExcessOfEachEvent 12 = .ok (.aload_n 0, 1) := by decide +kernel
theorem d_S_cedeExcessOfEachEvent_13 : decode c_S_cedeExcessOfEachEvent 13 = .ok (.iload 4, 2) := by decide +kernel
theorem d_S_cedeExcessOfEachEvent_15 : decode c_S_cedeExcessOfEachEvent 15 = .ok (.invokevirtual 139, 3) := by decide +kernel
theorem d_S_cedeExcessOfEachEvent_18 : decode c_S_cedeExcessOfEachEvent 18 = .ok (.aload_n 0, 1) := by decide +kernel
theorem d_S_cedeExcessOfEachEvent_19 : decode c_S_cedeExcessOfEachEvent 19 = .ok (.getfield 142, 3) := by decide +kernel
theorem d_S_cedeExcessOfEachEvent_22 : decode c_S_cedeExcessOfEachEvent 22 = .ok (.ifCond .le 73, 3) := by decide +kernel
theorem d_S_cedeExcessOfEachEvent_25 : decode c_S_cedeExcessOfEachEvent 25 = .ok (.aload_n 0, 1) := by decide +kernel
theorem d_S_cedeExcessOfEachEvent_26 : decode c_S_cedeExcessOfEachEvent 26 = .ok (.invokevirtual 145, 3) := by decide +kernel
theorem d_S_cedeExcessOfEachEvent_29 : decode c_S_cedeExcessOfEachEvent 29 = .ok (.istore 5, 2) := by decide +kernel
theorem d_S_cedeExcessOfEachEvent_31 : decode c_S_cedeExcessOfEachEvent 31 = .ok (.aload_n 0, 1) := by decide +kernel
theorem d_S_cedeExcessOfEachEvent_32 : decode c_S_cedeExcessOfEachEvent 32 = .ok (.getfield 38, 3) := by decide +kernel
theorem d_S_cedeExcessOfEachEvent_35 : decode c_S_cedeExcessOfEachEvent 35 = .ok (.iload_n 1, 1) := by decide +kernel
theorem d_S_cedeExcessOfEachEvent_36 : decode c_S_cedeExcessOfEachEvent 36 = .ok (.bipush 10, 2) := by decide +kernel
theorem d_S_cedeExcessOfEachEvent_38 : decode c_S_cedeExcessOfEachEvent 38 = .ok (.imul, 1) := by decide +kernel
theorem d_S_cedeExcessOfEachEvent_39 : decode c_S_cedeExcessOfEachEvent 39 = .ok (.iload 4, 2) := by decide +kernel
theorem d_S_cedeExcessOfEachEvent_41 : decode c_S_cedeExcessOfEachEvent 41 = .ok (.iadd, 1) := by decide +kernel
theorem d_S_cedeExcessOfEachEvent_42 : decode c_S_cedeExcessOfEachEvent 42 = .ok (.iload 5, 2) := by decide +kernel
theorem d_S_cedeExcessOfEachEvent_44 : decode c_S_cedeExcessOfEachEvent 44 = .ok (.iastore, 1) := by decide +kernel
theorem d_S_cedeExcessOfEachEvent_45 : decode c_S_cedeExcessOfEachEvent 45 = .ok (.aload_n 0, 1) := by decide +kernel
theorem d_S_cedeExcessOfEachEvent_46 : decode c_S_cedeExcessOfEachEvent 46 = .ok (.iload 5, 2) := by decide +kernel
theorem d_S_cedeExcessOfEachEvent_48 : decode c_S_cedeExcessOfEachEvent 48 = .ok (.invokevirtual 149, 3) := by decide +kernel
theorem d_S_cedeExcessOfEachEvent_51 : decode c_S_cedeExcessOfEachEvent 51 = .ok (.lload_n 2, 1) := by decide +kernel
theorem d_S_cedeExcessOfEachEvent_52 : decode c_S_cedeExcessOfEachEvent 52 = .ok (.aload_n 0, 1) := by decide +kernel
theorem d_S_cedeExcessOfEachEvent_53 : decode c_S_cedeExcessOfEachEvent 53 = .ok (.getfield 19, 3) := by decide +kernel
theorem d_S_cedeExcessOfEachEvent_56 : decode c_S_cedeExcessOfEachEvent 56 = .ok (.iload_n 1, 1) := by decide +kernel
theorem d_S_cedeExcessOfEachEvent_57 : decode c_S_cedeExcessOfEachEvent 57 = .ok (.aload_n 0, 1) := by decide +kernel
theorem d_S_cedeExcessOfEachEvent_58 : decode c_S_cedeExcessOfEachEvent 58 = .ok (.iload 5, 2) := by decide +kernel
theorem d_S_cedeExcessOfEachEvent_60 : decode c_S_cedeExcessOfEachEvent 60 = .ok (.invokevirtual 152, 3) := by decide +kernel
theorem d_S_cedeExcessOfEachEvent_63 : decode c_S_cedeExcessOfEachEvent 63 = .ok (.invokevirtual 133, 3) := by decide +kernel
theorem d_S_cedeExcessOfEachEvent_66 : decode c_S_cedeExcessOfEachEvent 66 = .ok (.ladd, 1) := by decide +kernel
theorem d_S_cedeExcessOfEachEvent_67 : decode c_S_cedeExcessOfEachEvent 67 = .ok (.lstore_n 2, 1) := by decide +kernel
theorem d_S_cedeExcessOfEachEvent_68 : decode c_S_cedeExcessOfEachEvent 68 = .ok (.aload_n 0, 1) := by decide +kernel
theorem d_S_cedeExcessOfEachEvent_69 : decode c_S_cedeExcessOfEachEvent 69 = .ok (.iload_n 1, 1) := by decide +kernel
theorem d_S_cedeExcessOfEachEvent_70 : decode c_S_cedeExcessOfEachEvent 70 = .ok (.aload_n 0, 1) := by decide +kernel
theorem d_S_cedeExcessOfEachEvent_71 : decode c_S_cedeExcessOfEachEvent 71 = .ok (.getfield 19, 3) := by decide +kernel
theorem d_S_cedeExcessOfEachEvent_74 : decode c_S_cedeExcessOfEachEvent 74 = .ok (.iload_n 1, 1) := by decide +kernel
theorem d_S_cedeExcessOfEachEvent_75 : decode c_S_cedeExcessOfEachEvent 75 = .ok (.lload_n 2, 1) := by decide +kernel
theorem d_S_cedeExcessOfEachEvent_76 : decode c_S_cedeExcessOfEachEvent 76 = .ok (.invokevirtual 136, 3) := by decide +kernel
theorem d_S_cedeExcessOfEachEvent_79 : decode c_S_cedeExcessOfEachEvent 79 = .ok (.aload_n 0, 1) := by decide +kernel
theorem d_S_cedeExcessOfEachEvent_80 : decode c_S_cedeExcessOfEachEvent 80 = .ok (.getfield 34, 3) := by decide +kernel
theorem d_S_cedeExcessOfEachEvent_83 : decode c_S_cedeExcessOfEachEvent 83 = .ok (.iload_n 1, 1) := by decide +kernel
theorem d_S_cedeExcessOfEachEvent_84 : decode c_S_cedeExcessOfEachEvent 84 = .ok (.laload, 1) := by decide +kernel
theorem d_S_cedeExcessOfEachEvent_85 : decode c_S_cedeExcessOfEachEvent 85 = .ok (.lsub, 1) := by decide +kernel
theorem d_S_cedeExcessOfEachEvent_86 : decode c_S_cedeExcessOfEachEvent 86 = .ok (.aload_n 0, 1) := by decide +kernel
theorem d_S_cedeExcessOfEachEvent_87 : decode c_S_cedeExcessOfEachEvent 87 = .ok (.iload 5, 2) := by decide +kernel
theorem d_S_cedeExcessOfEachEvent_89 : decode c_S_cedeExcessOfEachEvent 89 = .ok (.invokevirtual 152, 3) := by decide +kernel
theorem d_S_cedeExcessOfEachEvent_92 : decode c_S_cedeExcessOfEachEvent 92 = .ok (.invokevirtual 156, 3) := by decide +kernel
theorem d_S_cedeExcessOfEachEvent_95 : decode c_S_cedeExcessOfEachEvent 95 = .ok (.iinc 4 1, 3) := by decide +kernel
theorem d_S_cedeExcessOfEachEvent_98 : decode c_S_cedeExcessOfEachEvent 98 = .ok (.goto (-93), 3) := by decide +kernel
theorem d_S_cedeExcessOfEachEvent_101 : decode c_S_cedeExcessOfEachEvent 101 = .ok (.return_, 1) := by decide +kernel
theorem d_S_cedePartOfEachClaim_0 : decode c_S_cedePartOfEachClaim 0 = .ok (.iconst 0, 1) := by decide +kernel
theorem d_S_cedePartOfEachClaim_1 : decode c_S_cedePartOfEachClaim 1 = .ok (.istore_n 2, 1) := by decide +kernel
theorem d_S_cedePartOfEachClaim_2 : decode c_S_cedePartOfEachClaim 2 = .ok (.iload_n 2, 1) := by decide +kernel
theorem d_S_cedePartOfEachClaim_3 : decode c_S_cedePartOfEachClaim 3 = .ok (.aload_n 0, 1) := by decide +kernel
theorem d_S_cedePartOfEachClaim_4 : decode c_S_cedePartOfEachClaim 4 = .ok (.getfield 15, 3) := by decide +kernel
theorem d_S_cedePartOfEachClaim_7 : decode c_S_cedePartOfEachClaim 7 = .ok (.getfield 69, 3) := by decide +kernel
theorem d_S_cedePartOfEachClaim_10 : decode c_S_cedePartOfEachClaim 10 = .ok (.if_icmp .ge 64, 3) := by decide +kernel
theorem d_S_cedePartOfEachClaim_13 : decode c_S_cedePartOfEachClaim 13 = .ok (.aload_n 0, 1) := by decide +kernel
theorem d_S_cedePartOfEachClaim_14 : decode c_S_cedePartOfEachClaim 14 = .ok (.getfield 23, 3) := by decide +kernel
theorem d_S_cedePartOfEachClaim_17 : decode c_S_cedePartOfEachClaim 17 = .ok (.iload_n 2, 1) := by decide +kernel
theorem d_S_cedePartOfEachClaim_18 : decode c_S_cedePartOfEachClaim 18 = .ok (.baload, 1) := by decide +kernel
theorem d_S_cedePartOfEachClaim_19 : decode c_S_cedePartOfEachClaim 19 = .ok (.ifCond .eq 49, 3) := by decide +kernel
theorem d_S_cedePartOfEachClaim_22 : decode c_S_cedePartOfEachClaim 22 = .ok (.aload_n 0, 1) := by decide +kernel
theorem d_S_cedePartOfEachClaim_23 : decode c_S_cedePartOfEachClaim 23 = .ok (.getfield 19, 3) := by decide +kernel
theorem d_S_cedePartOfEachClaim_26 : decode c_S_cedePartOfEachClaim 26 = .ok (.iload_n 1, 1) := by decide +kernel
theorem d_S_cedePartOfEachClaim_27 : decode c_S_cedePartOfEachClaim 27 = .ok (.aload_n 0, 1) := by decide +kernel
theorem d_S_cedePartOfEachClaim_28 : decode c_S_cedePartOfEachClaim 28 = .ok (.getfield 9, 3) := by decide +kernel
theorem d_S_cedePartOfEachClaim_31 : decode c_S_cedePartOfEachClaim 31 = .ok (.getfield 117, 3) := by decide +kernel
theorem d_S_cedePartOfEachClaim_34 : decode c_S_cedePartOfEachClaim 34 = .ok (.aload_n 0, 1) := by decide +kernel
theorem d_S_cedePartOfEachClaim_35 : decode c_S_cedePartOfEachClaim 35 = .ok (.getfield 15, 3) := by decide +kernel
theorem d_S_cedePartOfEachClaim_38 : decode c_S_cedePartOfEachClaim 38 = .ok (.getfield 83, 3) := by decide +kernel
theorem d_S_cedePartOfEachClaim_41 : decode c_S_cedePartOfEachClaim 41 = .ok (.iload_n 2, 1) := by decide +kernel
theorem d_S_cedePartOfEachClaim_42 : decode c_S_cedePartOfEachClaim 42 = .ok (.iaload, 1) := by decide +kernel
theorem d_S_cedePartOfEachClaim_43 : decode c_S_cedePartOfEachClaim 43 = .ok (.iaload, 1) := by decide +kernel
theorem d_S_cedePartOfEachClaim_44 : decode c_S_cedePartOfEachClaim 44 = .ok (.i2l, 1) := by decide +kernel
theorem d_S_cedePartOfEachClaim_45 : decode c_S_cedePartOfEachClaim 45 = .ok (.invokevirtual 120, 3) := by decide +kernel
theorem d_S_cedePartOfEachClaim_48 : decode c_S_cedePartOfEachClaim 48 = .ok (.lstore_n 3, 1) := by decide +kernel
theorem d_S_cedePartOfEachClaim_49 : decode c_S_cedePartOfEachClaim 49 = .ok (.aload_n 0, 1) := by decide +kernel
theorem d_S_cedePartOfEachClaim_50 : decode c_S_cedePartOfEachClaim 50 = .ok (.iload_n 1, 1) := by decide +kernel
theorem d_S_cedePartOfEachClaim_51 : decode c_S_cedePartOfEachClaim 51 = .ok (.iload_n 2, 1) := by decide +kernel
theorem d_S_cedePartOfEachClaim_52 : decode c_S_cedePartOfEachClaim 52 = .ok (.aload_n 0, 1) := by decide +kernel
theorem d_S_cedePartOfEachClaim_53 : decode c_S_cedePartOfEachClaim 53 = .ok (.getfield 27, 3) := by decide +kernel
theorem d_S_cedePartOfEachClaim_56 : decode c_S_cedePartOfEachClaim 56 = .ok (.iload_n 2, 1) := by decide +kernel
theorem d_S_cedePartOfEachClaim_57 : decode c_S_cedePartOfEachClaim 57 = .ok (.iaload, 1) := by decide +kernel
theorem d_S_cedePartOfEachClaim_58 : decode c_S_cedePartOfEachClaim 58 = .ok (.i2l, 1) := by decide +kernel
theorem d_S_cedePartOfEachClaim_59 : decode c_S_cedePartOfEachClaim 59 = .ok (.lload_n 3, 1) := by decide +kernel
theorem d_S_cedePartOfEachClaim_60 : decode c_S_cedePartOfEachClaim 60 = .ok (.lmul, 1) := by decide +kernel
theorem d_S_cedePartOfEachClaim_61 : decode c_S_cedePartOfEachClaim 61 = .ok (.ldc2_w 124, 3) := by decide +kernel
theorem d_S_cedePartOfEachClaim_64 : decode c_S_cedePartOfEachClaim 64 = .ok (.ldiv, 1) := by decide +kernel
theorem d_S_cedePartOfEachClaim_65 : decode c_S_cedePartOfEachClaim 65 = .ok (.invokevirtual 126, 3) := by decide +kernel
theorem d_S_cedePartOfEachClaim_68 : decode c_S_cedePartOfEachClaim 68 = .ok (.iinc 2 1, 3) := by decide +kernel
theorem d_S_cedePartOfEachClaim_71 : decode c_S_cedePartOfEachClaim 71 = .ok (.goto (-69), 3) := by decide +kernel
theorem d_S_cedePartOfEachClaim_74 : decode c_S_cedePartOfEachClaim 74 = .ok (.return_, 1) := by decide +kernel
theorem d_S_cedePremiums_0 : decode c_S_cedePremiums 0 = .ok (.iconst 0, 1) := by decide +kernel
theorem d_S_cedePremiums_1 : decode c_S_cedePremiums 1 = .ok (.istore_n 2, 1) := by decide +kernel
theorem d_S_cedePremiums_2 : decode c_S_cedePremiums 2 = .ok (.iload_n 2, 1) := by decide +kernel
theorem d_S_cedePremiums_3 : decode c_S_cedePremiums 3 = .ok (.bipush 12, 2) := by decide +kernel
theorem d_S_cedePremiums_5 : decode c_S_cedePremiums 5 = .ok (.if_icmp .ge 59, 3) := by decide +kernel
theorem d_S_cedePremiums_8 : decode c_S_cedePremiums 8 = .ok (.aload_n 0, 1) := by decide +kernel
theorem d_S_cedePremiums_9 : decode c_S_cedePremiums 9 = .ok (.getfield 41, 3) := by decide +kernel
theorem d_S_cedePremiums_12 : decode c_S_cedePremiums 12 = .ok (.iload_n 2, 1) := by decide +kernel
theorem d_S_cedePremiums_13 : decode c_S_cedePremiums 13 = .ok (.laload, 1) := by decide +kernel
theorem d_S_cedePremiums_14 : decode c_S_cedePremiums 14 = .ok (.aload_n 0, 1) := by decide +kernel
theorem d_S_cedePremiums_15 : decode c_S_cedePremiums 15 = .ok (.getfield 19, 3) := by decide +kernel
theorem d_S_cedePremiums_18 : decode c_S_cedePremiums 18 = .ok (.iload_n 1, 1) := by decide +kernel
theorem d_S_cedePremiums_19 : decode c_S_cedePremiums 19 = .ok (.aload_n 0, 1) := by decide +kernel
theorem d_S_cedePremiums_20 : decode c_S_cedePremiums 20 = .ok (.getfield 9, 3) := by decide +kernel
theorem d_S_cedePremiums_23 : decode c_S_cedePremiums 23 = .ok (.getfield 117, 3) := by decide +kernel
theorem d_S_cedePremiums_26 : decode c_S_cedePremiums 26 = .ok (.iload_n 2, 1) := by decide +kernel
theorem d_S_cedePremiums_27 : decode c_S_cedePremiums 27 = .ok (.iaload, 1) := by decide +kernel
theorem d_S_cedePremiums_28 : decode c_S_cedePremiums 28 = .ok (.i2l, 1) := by decide +kernel
theorem d_S_cedePremiums_29 : decode c_S_cedePremiums 29 = .ok (.invokevirtual 120, 3) := by decide +kernel
theorem d_S_cedePremiums_32 : decode c_S_cedePremiums 32 = .ok (.lmul, 1) := by decide +kernel
theorem d_S_cedePremiums_33 : decode c_S_cedePremiums 33 = .ok (.ldc2_w 124, 3) := by decide +kernel
theorem d_S_cedePremiums_36 : decode c_S_cedePremiums 36 = .ok (.ldiv, 1) := by decide +kernel
theorem d_S_cedePremiums_37 : decode c_S_cedePremiums 37 = .ok (.lstore_n 3, 1) := by decide +kernel
theorem d_S_cedePremiums_38 : decode c_S_cedePremiums 38 = .ok (.aload_n 0, 1) := by decide +kernel
theorem d_S_cedePremiums_39 : decode c_S_cedePremiums 39 = .ok (.getfield 41, 3) := by decide +kernel
theorem d_S_cedePremiums_42 : decode c_S_cedePremiums 42 = .ok (.iload_n 2, 1) := by decide +kernel
theorem d_S_cedePremiums_43 : decode c_S_cedePremiums 43 = .ok (.dup2, 1) := by decide +kernel
theorem d_S_cedePremiums_44 : decode c_S_cedePremiums 44 = .ok (.laload, 1) := by decide +kernel
theorem d_S_cedePremiums_45 : decode c_S_cedePremiums 45 = .ok (.lload_n 3, 1) := by decide +kernel
theorem d_S_cedePremiums_46 : decode c_S_cedePremiums 46 = .ok (.lsub, 1) := by decide +kernel
theorem d_S_cedePremiums_47 : decode c_S_cedePremiums 47 = .ok (.lastore, 1) := by decide +kernel
theorem d_S_cedePremiums_48 : decode c_S_cedePremiums 48 = .ok (.aload_n 0, 1) := by decide +kernel
theorem d_S_cedePremiums_49 : decode c_S_cedePremiums 49 = .ok (.getfield 44, 3) := by decide +kernel
theorem d_S_cedePremiums_52 : decode c_S_cedePremiums 52 = .ok (.iload_n 1, 1) := by decide +kernel
theorem d_S_cedePremiums_53 : decode c_S_cedePremiums 53 = .ok (.dup2, 1) := by decide +kernel
theorem d_S_cedePremiums_54 : decode c_S_cedePremiums 54 = .ok (.laload, 1) := by decide +kernel
theorem d_S_cedePremiums_55 : decode c_S_cedePremiums 55 = .ok (.lload_n 3, 1) := by decide +kernel
theorem d_S_cedePremiums_56 : decode c_S_cedePremiums 56 = .ok (.ladd, 1) := by decide +kernel
theorem d_S_cedePremiums_57 : decode c_S_cedePremiums 57 = .ok (.lastore, 1) := by decide +kernel
theorem d_S_cedePremiums_58 : decode c_S_cedePremiums 58 = .ok (.iinc 2 1, 3) := by decide +kernel
theorem d_S_cedePremiums_61 : decode c_S_cedePremiums 61 = .ok (.goto (-59), 3) := by decide +kernel
theorem d_S_cedePremiums_64 : decode c_S_cedePremiums 64 = .ok (.return_, 1) := by decide +kernel
theorem d_S_cedeStopLoss_0 : decode c_S_cedeStopLoss 0 = .ok (.aload_n 0, 1) := by decide +kernel
theorem d_S_cedeStopLoss_1 : decode c_S_cedeStopLoss 1 = .ok (.iconst 0, 1) := by decide +kernel
theorem d_S_cedeStopLoss_2 : decode c_S_cedeStopLoss 2 = .ok (.putfield 142, 3) := by decide +kernel
theorem d_S_cedeStopLoss_5 : decode c_S_cedeStopLoss 5 = .ok (.lconst 0, 1) := by decide +kernel
theorem d_S_cedeStopLoss_6 : decode c_S_cedeStopLoss 6 = .ok (.lstore_n 2, 1) := by decide +kernel
theorem d_S_cedeStopLoss_7 : decode c_S_cedeStopLoss 7 = .ok (.iconst 0, 1) := by decide +kernel
theorem d_S_cedeStopLoss_8 : decode c_S_cedeStopLoss 8 = .ok (.istore 4, 2) := by decide +kernel
theorem d_S_cedeStopLoss_10 : decode c_S_cedeStopLoss 10 = .ok (.iload 4, 2) := by decide +kernel
theorem d_S_cedeStopLoss_12 : decode c_S_cedeStopLoss 12 = .ok (.aload_n 0, 1) := by decide +kernel
theorem d_S_cedeStopLoss_13 : decode c_S_cedeStopLoss 13 = .ok (.getfield 15, 3) := by decide +kernel
theorem d_S_cedeStopLoss_16 : decode c_S_cedeStopLoss 16 = .ok (.getfield 69, 3) := by decide +kernel
theorem d_S_cedeStopLoss_19 : decode c_S_cedeStopLoss 19 = .ok (.if_icmp .ge 51, 3) := by decide +kernel
theorem d_S_cedeStopLoss_22 : decode c_S_cedeStopLoss 22 = .ok (.aload_n 0, 1) := by decide +kernel
theorem d_S_cedeStopLoss_23 : decode c_S_cedeStopLoss 23 = .ok (.getfield 23, 3) := by decide +kernel
theorem d_S_cedeStopLoss_26 : decode c_S_cedeStopLoss 26 = .ok (.iload 4, 2) := by decide +kernel
theorem d_S_cedeStopLoss_28 : decode c_S_cedeStopLoss 28 = .ok (.baload, 1) := by decide +kernel
theorem d_S_cedeStopLoss_29 : decode c_S_cedeStopLoss 29 = .ok (.ifCond .eq 35, 3) := by decide +kernel
theorem d_S_cedeStopLoss_32 : decode c_S_cedeStopLoss 32 = .ok (.aload_n 0, 1) := by decide +kernel
theorem d_S_cedeStopLoss_33 : decode c_S_cedeStopLoss 33 = .ok (.getfield 47, 3) := by decide +kernel
theorem d_S_cedeStopLoss_36 : decode c_S_cedeStopLoss 36 = .ok (.aload_n 0, 1) := by decide +kernel
theorem d_S_cedeStopLoss_37 : decode c_S_cedeStopLoss 37 = .ok (.getfield 142, 3) := by decide +kernel
theorem d_S_cedeStopLoss_40 : decode c_S_cedeStopLoss 40 = .ok (.iload 4, 2) := by decide +kernel
theorem d_S_cedeStopLoss_42 : decode c_S_cedeStopLoss 42 = .ok (.iastore, 1) := by decide +kernel
theorem d_S_cedeStopLoss_43 : decode c_S_cedeStopLoss 43 = .ok (.aload_n 0, 1) := by decide +kernel
theorem d_S_cedeStopLoss_44 : decode c_S_cedeStopLoss 44 = .ok (.dup, 1) := by decide +kernel
theorem d_S_cedeStopLoss_45 : decode c_S_cedeStopLoss 45 = .ok (.getfield 142, 3) := by decide +kernel
theorem d_S_cedeStopLoss_48 : decode c_S_cedeStopLoss 48 = .ok (.iconst 1, 1) := by decide +kernel
theorem d_S_cedeStopLoss_49 : decode c_S_cedeStopLoss 49 = .ok (.iadd, 1) := by decide +kernel
theorem d_S_cedeStopLoss_50 : decode c_S_cedeStopLoss 50 = .ok (.putfield 142, 3) := by decide +kernel
theorem d_S_cedeStopLoss_53 : decode c_S_cedeStopLoss 53 = .ok (.lload_n 2, 1) := by decide +kernel
theorem d_S_cedeStopLoss_54 : decode c_S_cedeStopLoss 54 = .ok (.aload_n 0, 1) := by decide +kernel
theorem d_S_cedeStopLoss_55 : decode c_S_cedeStopLoss 55 = .ok (.getfield 27, 3) := by decide +kernel
theorem d_S_cedeStopLoss_58 : decode c_S_cedeStopLoss 58 = .ok (.iload 4, 2) := by decide +kernel
theorem d_S_cedeStopLoss_60 : decode c_S_cedeStopLoss 60 = .ok (.iaload, 1) := by decide +kernel
theorem d_S_cedeStopLoss_61 : decode c_S_cedeStopLoss 61 = .ok (.i2l, 1) := by decide +kernel
theorem d_S_cedeStopLoss_62 : decode c_S_cedeStopLoss 62 = .ok (.ladd, 1) := by decide +kernel
theorem d_S_cedeStopLoss_63 : decode c_S_cedeStopLoss 63 = .ok (.lstore_n 2, 1) := by decide +kernel
theorem d_S_cedeStopLoss_64 : decode c_S_cedeStopLoss 64 = .ok (.iinc 4 1, 3) := by decide +kernel
theorem d_S_cedeStopLoss_67 : decode c_S_cedeStopLoss 67 = .ok (.goto (-57), 3) := by decide +kernel
theorem d_S_cedeStopLoss_70 : decode c_S_cedeStopLoss 70 = .ok (.aload_n 0, 1) := by decide +kernel
theorem d_S_cedeStopLoss_71 : decode c_S_cedeStopLoss 71 = .ok (.iload_n 1, 1) := by decide +kernel
theorem d_S_cedeStopLoss_72 : decode c_S_cedeStopLoss 72 = .ok (.aload_n 0, 1) := by decide +kernel
theorem d_S_cedeStopLoss_73 : decode c_S_cedeStopLoss 73 = .ok (.getfield 19, 3) := by decide +kernel
theorem d_S_cedeStopLoss_76 : decode c_S_cedeStopLoss 76 = .ok (.iload_n 1, 1) := by decide +kernel
theorem d_S_cedeStopLoss_77 : decode c_S_cedeStopLoss 77 = .ok (.lload_n 2, 1) := by decide +kernel
theorem d_S_cedeStopLoss_78 : decode c_S_cedeStopLoss 78 = .ok (.invokevirtual 133, 3) := by decide +kernel
theorem d_S_cedeStopLoss_81 : decode c_S_cedeStopLoss 81 = .ok (.lload_n 2, 1) := by decide +kernel
theorem d_S_cedeStopLoss_82 : decode c_S_cedeStopLoss 82 = .ok (.invokevirtual 156, 3) := by decide +kernel
theorem d_S_cedeStopLoss_85 : decode c_S_cedeStopLoss 85 = .ok (.return_, 1) := by decide +kernel
theorem d_S_commissionOf_0 : decode c_S_commissionOf 0 = .ok (.aload_n 0, 1) := by decide +kernel
theorem d_S_commissionOf_1 : decode c_S_commissionOf 1 = .ok (.iload_n 1, 1) := by decide +kernel
theorem d_S_commissionOf_2 : decode c_S_commissionOf 2 = .ok (.invokevirtual 179, 3) := by decide +kernel
theorem d_S_commissionOf_5 : decode c_S_commissionOf 5 = .ok (.ldc2_w 182, 3) := by decide +kernel
theorem d_S_commissionOf_8 : decode c_S_commissionOf 8 = .ok (.lsub, 1) := by decide +kernel
theorem d_S_commissionOf_9 : decode c_S_commissionOf 9 = .ok (.lconst 0, 1) := by decide +kernel
theorem d_S_commissionOf_10 : decode c_S_commissionOf 10 = .ok (.invokestatic 184, 3) := by decide +kernel
theorem d_S_commissionOf_13 : decode c_S_commissionOf 13 = .ok (.lstore_n 2, 1) := by decide +kernel
theorem d_S_commissionOf_14 : decode c_S_commissionOf 14 = .ok (.ldc2_w 187, 3) := by decide +kernel
theorem d_S_commissionOf_17 : decode c_S_commissionOf 17 = .ok (.lload_n 2, 1) := by decide +kernel
theorem d_S_commissionOf_18 : decode c_S_commissionOf 18 = .ok (.lsub, 1) := by decide +kernel
theorem d_S_commissionOf_19 : decode c_S_commissionOf 19 = .ok (.ldc2_w 189, 3) := by decide +kernel
theorem d_S_commissionOf_22 : decode c_S_commissionOf 22 = .ok (.invokestatic 184, 3) := by decide +kernel
theorem d_S_commissionOf_25 : decode c_S_commissionOf 25 = .ok (.lstore 4, 2) := by decide +kernel
theorem d_S_commissionOf_27 : decode c_S_commissionOf 27 = .ok (.aload_n 0, 1) := by decide +kernel
theorem d_S_commissionOf_28 : decode c_S_commissionOf 28 = .ok (.getfield 44, 3) := by decide +kernel
theorem d_S_commissionOf_31 : decode c_S_commissionOf 31 = .ok (.iload_n 1, 1) := by decide +kernel
theorem d_S_commissionOf_32 : decode c_S_commissionOf 32 = .ok (.laload, 1) := by decide +kernel
theorem d_S_commissionOf_33 : decode c_S_commissionOf 33 = .ok (.lload 4, 2) := by decide +kernel
theorem d_S_commissionOf_35 : decode c_S_commissionOf 35 = .ok (.lmul, 1) := by decide +kernel
theorem d_S_commissionOf_36 : decode c_S_commissionOf 36 = .ok (.ldc2_w 124, 3) := by decide +kernel
theorem d_S_commissionOf_39 : decode c_S_commissionOf 39 = .ok (.ldiv, 1) := by decide +kernel
theorem d_S_commissionOf_40 : decode c_S_commissionOf 40 = .ok (.lreturn, 1) := by decide +kernel
theorem d_S_cedeTo_0 : decode c_S_cedeTo 0 = .ok (.aload_n 0, 1) := by decide +kernel
theorem d_S_cedeTo_1 : decode c_S_cedeTo 1 = .ok (.getfield 19, 3) := by decide +kernel
theorem d_S_cedeTo_4 : decode c_S_cedeTo 4 = .ok (.getfield 95, 3) := by decide +kernel
theorem d_S_cedeTo_7 : decode c_S_cedeTo 7 = .ok (.iload_n 1, 1) := by decide +kernel
theorem d_S_cedeTo_8 : decode c_S_cedeTo 8 = .ok (.iaload, 1) := by decide +kernel
theorem d_S_cedeTo_9 : decode c_S_cedeTo 9 = .ok (.tableswitch 60 0 3 #[31, 31, 44, 52], 31) := by decide +kernel
theorem d_S_cedeTo_40 : decode c_S_cedeTo 40 = .ok (.aload_n 0, 1) := by decide +kernel
theorem d_S_cedeTo_41 : decode c_S_cedeTo 41 = .ok (.iload_n 1, 1) := by decide +kernel
theorem d_S_cedeTo_42 : decode c_S_cedeTo 42 = .ok (.invokevirtual 102, 3) := by decide +kernel
theorem d_S_cedeTo_45 : decode c_S_cedeTo 45 = .ok (.aload_n 0, 1) := by decide +kernel
theorem d_S_cedeTo_46 : decode c_S_cedeTo 46 = .ok (.iload_n 1, 1) := by decide +kernel
theorem d_S_cedeTo_47 : decode c_S_cedeTo 47 = .ok (.invokevirtual 105, 3) := by decide +kernel
theorem d_S_cedeTo_50 : decode c_S_cedeTo 50 = .ok (.goto 24, 3) := by decide +kernel
theorem d_S_cedeTo_53 : decode c_S_cedeTo 53 = .ok (.aload_n 0, 1) := by decide +kernel
theorem d_S_cedeTo_54 : decode c_S_cedeTo 54 = .ok (.iload_n 1, 1) := by decide +kernel
theorem d_S_cedeTo_55 : decode c_S_cedeTo 55 = .ok (.invokevirtual 108, 3) := by decide +kernel
theorem d_S_cedeTo_58 : decode c_S_cedeTo 58 = .ok (.goto 16, 3) := by decide +kernel
theorem d_S_cedeTo_61 : decode c_S_cedeTo 61 = .ok (.aload_n 0, 1) := by decide +kernel
theorem d_S_cedeTo_62 : decode c_S_cedeTo 62 = .ok (.iload_n 1, 1) := by decide +kernel
theorem d_S_cedeTo_63 : decode c_S_cedeTo 63 = .ok (.invokevirtual 111, 3) := by decide +kernel
theorem d_S_cedeTo_66 : decode c_S_cedeTo 66 = .ok (.goto 8, 3) := by decide +kernel
theorem d_S_cedeTo_69 : decode c_S_cedeTo 69 = .ok (.aload_n 0, 1) := by decide +kernel
theorem d_S_cedeTo_70 : decode c_S_cedeTo 70 = .ok (.iload_n 1, 1) := by decide +kernel
theorem d_S_cedeTo_71 : decode c_S_cedeTo 71 = .ok (.invokevirtual 114, 3) := by decide +kernel
theorem d_S_cedeTo_74 : decode c_S_cedeTo 74 = .ok (.return_, 1) := by decide +kernel
theorem d_S_owedBy_0 : decode c_S_owedBy 0 = .ok (.lconst 0, 1) := by decide +kernel
theorem d_S_owedBy_1 : decode c_S_owedBy 1 = .ok (.lstore_n 3, 1) := by decide +kernel
theorem d_S_owedBy_2 : decode c_S_owedBy 2 = .ok (.iconst 0, 1) := by decide +kernel
theorem d_S_owedBy_3 : decode c_S_owedBy 3 = .ok (.istore 5, 2) := by decide +kernel
theorem d_S_owedBy_5 : decode c_S_owedBy 5 = .ok (.iload 5, 2) := by decide +kernel
theorem d_S_owedBy_7 : decode c_S_owedBy 7 = .ok (.aload_n 0, 1) := by decide +kernel
theorem d_S_owedBy_8 : decode c_S_owedBy 8 = .ok (.getfield 19, 3) := by decide +kernel
theorem d_S_owedBy_11 : decode c_S_owedBy 11 = .ok (.getfield 92, 3) := by decide +kernel
theorem d_S_owedBy_14 : decode c_S_owedBy 14 = .ok (.if_icmp .ge 101, 3) := by decide +kernel
theorem d_S_owedBy_17 : decode c_S_owedBy 17 = .ok (.aload_n 0, 1) := by decide +kernel
theorem d_S_owedBy_18 : decode c_S_owedBy 18 = .ok (.getfield 19, 3) := by decide +kernel
theorem d_S_owedBy_21 : decode c_S_owedBy 21 = .ok (.getfield 98, 3) := by decide +kernel
theorem d_S_owedBy_24 : decode c_S_owedBy 24 = .ok (.iload 5, 2) := by decide +kernel
theorem d_S_owedBy_26 : decode c_S_owedBy 26 = .ok (.iaload, 1) := by decide +kernel
theorem d_S_owedBy_27 : decode c_S_owedBy 27 = .ok (.iload_n 2, 1) := by decide +kernel
theorem d_S_owedBy_28 : decode c_S_owedBy 28 = .ok (.if_icmp .ne 81, 3) := by decide +kernel
theorem d_S_owedBy_31 : decode c_S_owedBy 31 = .ok (.lload_n 3, 1) := by decide +kernel
theorem d_S_owedBy_32 : decode c_S_owedBy 32 = .ok (.aload_n 0, 1) := by decide +kernel
theorem d_S_owedBy_33 : decode c_S_owedBy 33 = .ok (.getfield 19, 3) := by decide +kernel
theorem d_S_owedBy_36 : decode c_S_owedBy 36 = .ok (.aload_n 0, 1) := by decide +kernel
theorem d_S_owedBy_37 : decode c_S_owedBy 37 = .ok (.getfield 34, 3) := by decide +kernel
theorem d_S_owedBy_40 : decode c_S_owedBy 40 = .ok (.iload 5, 2) := by decide +kernel
theorem d_S_owedBy_42 : decode c_S_owedBy 42 = .ok (.laload, 1) := by decide +kernel
theorem d_S_owedBy_43 : decode c_S_owedBy 43 = .ok (.iload 5, 2) := by decide +kernel
theorem d_S_owedBy_45 : decode c_S_owedBy 45 = .ok (.iload_n 1, 1) := by decide +kernel
theorem d_S_owedBy_46 : decode c_S_owedBy 46 = .ok (.invokevirtual 201, 3) := by decide +kernel
theorem d_S_owedBy_49 : decode c_S_owedBy 49 = .ok (.ladd, 1) := by decide +kernel
theorem d_S_owedBy_50 : decode c_S_owedBy 50 = .ok (.lstore_n 3, 1) := by decide +kernel
theorem d_S_owedBy_51 : decode c_S_owedBy 51 = .ok (.lload_n 3, 1) := by decide +kernel
theorem d_S_owedBy_52 : decode c_S_owedBy 52 = .ok (.aload_n 0, 1) := by decide +kernel
theorem d_S_owedBy_53 : decode c_S_owedBy 53 = .ok (.getfield 19, 3) := by decide +kernel
theorem d_S_owedBy_56 : decode c_S_owedBy 56 = .ok (.aload_n 0, 1) := by decide +kernel
theorem d_S_owedBy_57 : decode c_S_owedBy 57 = .ok (.iload 5, 2) := by decide +kernel
theorem d_S_owedBy_59 : decode c_S_owedBy 59 = .ok (.invokevirtual 205, 3) := by decide +kernel
theorem d_S_owedBy_62 : decode c_S_owedBy 62 = .ok (.iload 5, 2) := by decide +kernel
theorem d_S_owedBy_64 : decode c_S_owedBy 64 = .ok (.iload_n 1, 1) := by decide +kernel
theorem d_S_owedBy_65 : decode c_S_owedBy 65 = .ok (.invokevirtual 201, 3) := by decide +kernel
theorem d_S_owedBy_68 : decode c_S_owedBy 68 = .ok (.ladd, 1) := by decide +kernel
theorem d_S_owedBy_69 : decode c_S_owedBy 69 = .ok (.lstore_n 3, 1) := by decide +kernel
theorem d_S_owedBy_70 : decode c_S_owedBy 70 = .ok (.lload_n 3, 1) := by decide +kernel
theorem d_S_owedBy_71 : decode c_S_owedBy 71 = .ok (.aload_n 0, 1) := by decide +kernel
theorem d_S_owedBy_72 : decode c_S_owedBy 72 = .ok (.getfield 19, 3) := by decide +kernel
theorem d_S_owedBy_75 : decode c_S_owedBy 75 = .ok (.aload_n 0, 1) := by decide +kernel
theorem d_S_owedBy_76 : decode c_S_owedBy 76 = .ok (.getfield 44, 3) := by decide +kernel
theorem d_S_owedBy_79 : decode c_S_owedBy 79 = .ok (.iload 5, 2) := by decide +kernel
theorem d_S_owedBy_81 : decode c_S_owedBy 81 = .ok (.laload, 1) := by decide +kernel
theorem d_S_owedBy_82 : decode c_S_owedBy 82 = .ok (.iload 5, 2) := by decide +kernel
theorem d_S_owedBy_84 : decode c_S_owedBy 84 = .ok (.iload_n 1, 1) := by decide +kernel
theorem d_S_owedBy_85 : decode c_S_owedBy 85 = .ok (.invokevirtual 201, 3) := by decide +kernel
theorem d_S_owedBy_88 : decode c_S_owedBy 88 = .ok (.lsub, 1) := by decide +kernel
theorem d_S_owedBy_89 : decode c_S_owedBy 89 = .ok (.lstore_n 3, 1) := by decide +kernel
theorem d_S_owedBy_90 : decode c_S_owedBy 90 = .ok (.lload_n 3, 1) := by decide +kernel
theorem d_S_owedBy_91 : decode c_S_owedBy 91 = .ok (.aload_n 0, 1) := by decide +kernel
theorem d_S_owedBy_92 : decode c_S_owedBy 92 = .ok (.getfield 19, 3) := by decide +kernel
theorem d_S_owedBy_95 : decode c_S_owedBy 95 = .ok (.aload_n 0, 1) := by decide +kernel
theorem d_S_owedBy_96 : decode c_S_owedBy 96 = .ok (.iload 5, 2) := by decide +kernel
theorem d_S_owedBy_98 : decode c_S_owedBy 98 = .ok (.invokevirtual 208, 3) := by decide +kernel
theorem d_S_owedBy_101 : decode c_S_owedBy 101 = .ok (.iload 5, 2) := by decide +kernel
theorem d_S_owedBy_103 : decode c_S_owedBy 103 = .ok (.iload_n 1, 1) := by decide +kernel
theorem d_S_owedBy_104 : decode c_S_owedBy 104 = .ok (.invokevirtual 201, 3) := by decide +kernel
theorem d_S_owedBy_107 : decode c_S_owedBy 107 = .ok (.lsub, 1) := by decide +kernel
theorem d_S_owedBy_108 : decode c_S_owedBy 108 = .ok (.lstore_n 3, 1) := by decide +kernel
theorem d_S_owedBy_109 : decode c_S_owedBy 109 = .ok (.iinc 5 1, 3) := by decide +kernel
theorem d_S_owedBy_112 : decode c_S_owedBy 112 = .ok (.goto (-107), 3) := by decide +kernel
theorem d_S_owedBy_115 : decode c_S_owedBy 115 = .ok (.lload_n 3, 1) := by decide +kernel
theorem d_S_owedBy_116 : decode c_S_owedBy 116 = .ok (.lreturn, 1) := by decide +kernel
theorem d_S_cedeYear_0 : decode c_S_cedeYear 0 = .ok (.iconst 0, 1) := by decide +kernel
theorem d_S_cedeYear_1 : decode c_S_cedeYear 1 = .ok (.istore_n 2, 1) := by decide +kernel
theorem d_S_cedeYear_2 : decode c_S_cedeYear 2 = .ok (.iload_n 2, 1) := by decide +kernel
theorem d_S_cedeYear_3 : decode c_S_cedeYear 3 = .ok (.iconst 5, 1) := by decide +kernel
theorem d_S_cedeYear_4 : decode c_S_cedeYear 4 = .ok (.if_icmp .ge 59, 3) := by decide +kernel
theorem d_S_cedeYear_7 : decode c_S_cedeYear 7 = .ok (.iconst 0, 1) := by decide +kernel
theorem d_S_cedeYear_8 : decode c_S_cedeYear 8 = .ok (.istore_n 3, 1) := by decide +kernel
theorem d_S_cedeYear_9 : decode c_S_cedeYear 9 = .ok (.iload_n 3, 1) := by decide +kernel
theorem d_S_cedeYear_10 : decode c_S_cedeYear 10 = .ok (.aload_n 0, 1) := by decide +kernel
theorem d_S_cedeYear_11 : decode c_S_cedeYear 11 = .ok (.getfield 19, 3) := by decide +kernel
theorem d_S_cedeYear_14 : decode c_S_cedeYear 14 = .ok (.getfield 92, 3) := by decide +kernel
theorem d_S_cedeYear_17 : decode c_S_cedeYear 17 = .ok (.if_icmp .ge 40, 3) := by decide +kernel
theorem d_S_cedeYear_20 : decode c_S_cedeYear 20 = .ok (.aload_n 0, 1) := by decide +kernel
theorem d_S_cedeYear_21 : decode c_S_cedeYear 21 = .ok (.getfield 19, 3) := by decide +kernel
theorem d_S_cedeYear_24 : decode c_S_cedeYear 24 = .ok (.getfield 95, 3) := by decide +kernel
theorem d_S_cedeYear_27 : decode c_S_cedeYear 27 = .ok (.iload_n 3, 1) := by decide +kernel
theorem d_S_cedeYear_28 : decode c_S_cedeYear 28 = .ok (.iaload, 1) := by decide +kernel
theorem d_S_cedeYear_29 : decode c_S_cedeYear 29 = .ok (.iload_n 2, 1) := by decide +kernel
theorem d_S_cedeYear_30 : decode c_S_cedeYear 30 = .ok (.if_icmp .ne 21, 3) := by decide +kernel
theorem d_S_cedeYear_33 : decode c_S_cedeYear 33 = .ok (.aload_n 0, 1) := by decide +kernel
theorem d_S_cedeYear_34 : decode c_S_cedeYear 34 = .ok (.getfield 19, 3) := by decide +kernel
theorem d_S_cedeYear_37 : decode c_S_cedeYear 37 = .ok (.getfield 98, 3) := by decide +kernel
theorem d_S_cedeYear_40 : decode c_S_cedeYear 40 = .ok (.iload_n 3, 1) := by decide +kernel
theorem d_S_cedeYear_41 : decode c_S_cedeYear 41 = .ok (.iaload, 1) := by decide +kernel
theorem d_S_cedeYear_42 : decode c_S_cedeYear 42 = .ok (.iload_n 1, 1) := by decide +kernel
theorem d_S_cedeYear_43 : decode c_S_cedeYear 43 = .ok (.if_icmp .ne 8, 3) := by decide +kernel
theorem d_S_cedeYear_46 : decode c_S_cedeYear 46 = .ok (.aload_n 0, 1) := by decide +kernel
theorem d_S_cedeYear_47 : decode c_S_cedeYear 47 = .ok (.iload_n 3, 1) := by decide +kernel
theorem d_S_cedeYear_48 : decode c_S_cedeYear 48 = .ok (.invokevirtual 99, 3) := by decide +kernel
theorem d_S_cedeYear_51 : decode c_S_cedeYear 51 = .ok (.iinc 3 1, 3) := by decide +kernel
theorem d_S_cedeYear_54 : decode c_S_cedeYear 54 = .ok (.goto (-45), 3) := by decide +kernel
theorem d_S_cedeYear_57 : decode c_S_cedeYear 57 = .ok (.iinc 2 1, 3) := by decide +kernel
theorem d_S_cedeYear_60 : decode c_S_cedeYear 60 = .ok (.goto (-58), 3) := by decide +kernel
theorem d_S_cedeYear_63 : decode c_S_cedeYear 63 = .ok (.return_, 1) := by decide +kernel
theorem d_S_workOut_0 : decode c_S_workOut 0 = .ok (.aload_n 0, 1) := by decide +kernel
theorem d_S_workOut_1 : decode c_S_workOut 1 = .ok (.iload_n 1, 1) := by decide +kernel
theorem d_S_workOut_2 : decode c_S_workOut 2 = .ok (.invokevirtual 53, 3) := by decide +kernel
theorem d_S_workOut_5 : decode c_S_workOut 5 = .ok (.aload_n 0, 1) := by decide +kernel
theorem d_S_workOut_6 : decode c_S_workOut 6 = .ok (.iload_n 1, 1) := by decide +kernel
theorem d_S_workOut_7 : decode c_S_workOut 7 = .ok (.invokevirtual 57, 3) := by decide +kernel
theorem d_S_workOut_10 : decode c_S_workOut 10 = .ok (.return_, 1) := by decide +kernel
theorem d_S_workOutSupposing_0 : decode c_S_workOutSupposing 0 = .ok (.aload_n 0, 1) := by decide +kernel
theorem d_S_workOutSupposing_1 : decode c_S_workOutSupposing 1 = .ok (.iload_n 1, 1) := by decide +kernel
theorem d_S_workOutSupposing_2 : decode c_S_workOutSupposing 2 = .ok (.invokevirtual 53, 3) := by decide +kernel
theorem d_S_workOutSupposing_5 : decode c_S_workOutSupposing 5 = .ok (.aload_n 0, 1) := by decide +kernel
theorem d_S_workOutSupposing_6 : decode c_S_workOutSupposing 6 = .ok (.getfield 27, 3) := by decide +kernel
theorem d_S_workOutSupposing_9 : decode c_S_workOutSupposing 9 = .ok (.iload_n 2, 1) := by decide +kernel
theorem d_S_workOutSupposing_10 : decode c_S_workOutSupposing 10 = .ok (.iload_n 3, 1) := by decide +kernel
theorem d_S_workOutSupposing_11 : decode c_S_workOutSupposing 11 = .ok (.iastore, 1) := by decide +kernel
theorem d_S_workOutSupposing_12 : decode c_S_workOutSupposing 12 = .ok (.aload_n 0, 1) := by decide +kernel
theorem d_S_workOutSupposing_13 : decode c_S_workOutSupposing 13 = .ok (.iload_n 1, 1) := by decide +kernel
theorem d_S_workOutSupposing_14 : decode c_S_workOutSupposing 14 = .ok (.invokevirtual 57, 3) := by decide +kernel
theorem d_S_workOutSupposing_17 : decode c_S_workOutSupposing 17 = .ok (.return_, 1) := by decide +kernel
